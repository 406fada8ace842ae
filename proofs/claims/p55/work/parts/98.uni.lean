/-! components by union, tied -/
theorem zcnt_rel {R : Nat → Nat → Prop} {P : Nat → Bool} {n : Nat} : ∀ (m : Nat) (Q : Nat → Bool), (∀ i, i < m → P i = true → ∃ j, j < n ∧ Q j = true ∧ R i j) → (∀ i i' j, i < m → i' < m → P i = true → P i' = true → R i j → R i' j → i = i') → zcnt m P ≤ zcnt n Q := by
  intro m
  induction m with
  | zero => intro Q _ _; exact Nat.zero_le _
  | succ m ih =>
    intro Q tot inj
    rw [zcnt_s]
    cases hP : P m with
    | false =>
      have := ih Q (fun i hi h => tot i (by omega) h) (fun i i' j h1 h2 h3 h4 h5 h6 => inj i i' j (by omega) (by omega) h3 h4 h5 h6)
      simpa using this
    | true =>
      obtain ⟨j0, hj0, hQ0, hR0⟩ := tot m (by omega) hP
      have h1 := ih (fun j => Q j && !(decide (j = j0))) (fun i hi h => by
        obtain ⟨j, hj, hQ, hR⟩ := tot i (by omega) h
        refine ⟨j, hj, ?_, hR⟩
        have hne : j ≠ j0 := fun e => by
          subst e
          have := inj i m j (by omega) (by omega) h hP hR hR0
          omega
        show (Q j && !(decide (j = j0))) = true
        rw [hQ, decide_eq_false hne]; rfl) (fun i i' j h1 h2 h3 h4 h5 h6 => inj i i' j (by omega) (by omega) h3 h4 h5 h6)
      have h2 : zcnt n (fun j => Q j && !(decide (j = j0))) < zcnt n Q := zcnt_lt (fun i hi => by
        have hi : (Q i && !(decide (i = j0))) = true := hi
        rw [Bool.and_eq_true] at hi; exact hi.1) hj0 (by show (Q j0 && !(decide (j0 = j0))) = false; rw [decide_eq_true rfl]; cases Q j0 <;> rfl) hQ0
      show zcnt m P + 1 ≤ _
      omega
section UN
variable {p : Nat → Nat} {n : Nat}
theorem zRoot_fix {k r : Nat} (h : p (zRoot p k r) = zRoot p k r) : ∀ j, zRoot p (k + j) r = zRoot p k r := by
  induction k generalizing r with
  | zero =>
    intro j
    have h : p r = r := h
    cases j with
    | zero => rfl
    | succ j => show zRoot p (0 + j + 1) r = r; rw [zRoot, if_pos h]
  | succ k ih =>
    intro j
    rw [show k + 1 + j = k + j + 1 from by omega, zRoot, zRoot]
    by_cases e : p r = r
    · rw [if_pos e, if_pos e]
    · rw [if_neg e, if_neg e]
      rw [zRoot, if_neg e] at h
      exact ih h j
/-- one piece hung onto another -/
theorem zRoot_merge {p p' : Nat → Nat} {rx ry : Nat} (hx : p rx = rx) (hy : p ry = ry) (hne : rx ≠ ry) (hp : ∀ r, p' r = if r = rx then ry else p r) : ∀ k r, p (zRoot p k r) = zRoot p k r → zRoot p' (k + 1) r = if zRoot p k r = rx then ry else zRoot p k r := by
  have hyy : p' ry = ry := by rw [hp, if_neg (fun e => hne e.symm)]; exact hy
  have hyk : ∀ k, zRoot p' k ry = ry := fun k => by
    cases k with
    | zero => rfl
    | succ k => rw [zRoot, if_pos hyy]
  intro k
  induction k with
  | zero =>
    intro r h
    have h : p r = r := h
    show zRoot p' (0 + 1) r = if r = rx then ry else r
    rw [zRoot, hp]
    by_cases e : r = rx
    · rw [if_pos e, if_pos e, if_neg (fun q => hne (e.symm.trans q.symm))]; rfl
    · rw [if_neg e, if_neg e, if_pos h]
  | succ k ih =>
    intro r h
    rw [zRoot] at h ⊢
    rw [show zRoot p (k + 1) r = if p r = r then r else zRoot p k (p r) from rfl]
    by_cases e : p r = r
    · rw [if_pos e]
      rw [hp]
      by_cases e2 : r = rx
      · rw [if_pos e2, if_pos e2, if_neg (fun q => hne (e2.symm.trans q.symm))]; exact hyk _
      · rw [if_neg e2, if_neg e2, if_pos e]
    · rw [if_neg e] at h ⊢
      have e2 : r ≠ rx := fun q => e (by rw [q]; exact hx)
      rw [hp, if_neg e2, if_neg e]
      exact ih (p r) h
end UN
/-- what the union keeps, after so many pieces were hung -/
def zUi (V : Nat → Nat) (n m : Nat) (q : Nat × zS) : Prop := (∀ e, e < 12 → q.2 27 e = V (29 + e)) ∧ (∀ r, r < n → q.2 28 r < n) ∧ (∀ r, r < n → q.2 28 (zRoot (q.2 28) m r) = zRoot (q.2 28) m r) ∧ m < n ∧ q.1 % 4294967296 + m = n ∧ zcnt n (fun r => q.2 28 r == r) + m = n ∧ ∀ a b, a < n → b < n → zRoot (q.2 28) n a = zRoot (q.2 28) n b → rC V n a b
section UI
variable {V : Nat → Nat} {n m : Nat} {q : Nat × zS}
theorem zUi.root (h : zUi V n m q) {r : Nat} (hr : r < n) : zRoot (q.2 28) n r = zRoot (q.2 28) m r ∧ q.2 28 (zRoot (q.2 28) n r) = zRoot (q.2 28) n r ∧ zRoot (q.2 28) n r < n := by
  have e : zRoot (q.2 28) n r = zRoot (q.2 28) m r := by
    have := zRoot_fix (h.2.2.1 r hr) (n - m)
    have hm := h.2.2.2.1
    rwa [show m + (n - m) = n by omega] at this
  exact ⟨e, by rw [e]; exact h.2.2.1 r hr, zRoot_lt h.2.1 n r hr⟩
theorem zUi.step (N : rNet V n) (h : zUi V n m q) {x y : Nat} (hx : x < n) (hy : y < n) : ∃ m', zUi V n m' (zUniF n x y q) ∧ ((V (29 + x)).testBit y = true → zRoot ((zUniF n x y q).2 28) n x = zRoot ((zUniF n x y q).2 28) n y) ∧ ∀ a b, a < n → b < n → zRoot (q.2 28) n a = zRoot (q.2 28) n b → zRoot ((zUniF n x y q).2 28) n a = zRoot ((zUniF n x y q).2 28) n b := by
  have hz := N.1
  obtain ⟨h1, h2, h3, h4, h5, h6, h7⟩ := id h
  unfold zUniF
  by_cases hl : (q.2 27 x).testBit y = true
  · rw [if_pos hl]
    rw [h1 x (by omega)] at hl
    obtain ⟨x1, x2, x3⟩ := h.root hx
    obtain ⟨y1, y2, y3⟩ := h.root hy
    by_cases e : zRoot (q.2 28) n x = zRoot (q.2 28) n y
    · rw [if_pos e]
      have ep : (zU q.2 28 (zRoot (q.2 28) n x) (zRoot (q.2 28) n y)) 28 = q.2 28 := by
        funext r
        by_cases hr : r = zRoot (q.2 28) n x
        · rw [hr, zU_s, ← e]; exact x2.symm
        · exact zU_j hr
      refine ⟨m, ⟨fun a ha => by dsimp only; rw [zU_o (by decide)]; exact h1 a ha, ?_, ?_, h4, h5, ?_, ?_⟩, fun _ => ?_, ?_⟩ <;> dsimp only <;> rw [ep]
      · exact h2
      · exact h3
      · exact h6
      · exact h7
      · exact e
      · exact fun a b _ _ hab => hab
    · rw [if_neg e]
      obtain ⟨rx, hrx⟩ : ∃ rx, zRoot (q.2 28) n x = rx := ⟨_, rfl⟩
      obtain ⟨ry, hry⟩ : ∃ ry, zRoot (q.2 28) n y = ry := ⟨_, rfl⟩
      rw [hrx] at x1 x2 x3 e ⊢
      rw [hry] at y1 y2 y3 e ⊢
      have hp : ∀ r, (zU q.2 28 rx ry) 28 r = if r = rx then ry else q.2 28 r := fun r => by
        by_cases hr : r = rx
        · rw [if_pos hr, hr, zU_s]
        · rw [if_neg hr, zU_j hr]
      have hm := zRoot_merge (p := q.2 28) (p' := (zU q.2 28 rx ry) 28) x2 y2 e hp
      have hroot : ∀ r, r < n → zRoot ((zU q.2 28 rx ry) 28) (m + 1) r = if zRoot (q.2 28) n r = rx then ry else zRoot (q.2 28) n r := fun r hr => by
        rw [hm m r (h3 r hr), ← (h.root hr).1]
      have hfix : ∀ r, r < n → (zU q.2 28 rx ry) 28 (zRoot ((zU q.2 28 rx ry) 28) (m + 1) r) = zRoot ((zU q.2 28 rx ry) 28) (m + 1) r := fun r hr => by
        rw [hroot r hr]
        by_cases hr2 : zRoot (q.2 28) n r = rx
        · rw [if_pos hr2, hp, if_neg (fun q => e q.symm)]; exact y2
        · rw [if_neg hr2, hp, if_neg hr2]; exact (h.root hr).2.1
      have hcnt : zcnt n (fun r => (zU q.2 28 rx ry) 28 r == r) + 1 = zcnt n (fun r => q.2 28 r == r) := by
        have := zsum_upd (n := n) (i := rx) (f := fun r => (q.2 28 r == r).toNat) (g := fun r => ((zU q.2 28 rx ry) 28 r == r).toNat) x3 (fun j _ hj => by rw [hp, if_neg hj])
        have e1 : ((q.2 28 rx == rx).toNat) = 1 := by rw [x2, beq_self_eq_true]; rfl
        have e2 : (((zU q.2 28 rx ry) 28 rx == rx).toNat) = 0 := by rw [hp, if_pos rfl, beq_eq_false_iff_ne.mpr (fun q => e q.symm)]; rfl
        rw [e1, e2] at this
        have c1 : ∀ P : Nat → Bool, zcnt n P = zsum n (fun r => (P r).toNat) := fun P => rfl
        rw [c1, c1]; omega
      have hpos : 1 ≤ zcnt n (fun r => (zU q.2 28 rx ry) 28 r == r) := by
        have c1 : ∀ P : Nat → Bool, zcnt n P = zsum n (fun r => (P r).toNat) := fun P => rfl
        rw [c1]
        have := zsum_ge (n := n) (i := ry) (f := fun r => ((zU q.2 28 rx ry) 28 r == r).toNat) y3
        have e3 : (((zU q.2 28 rx ry) 28 ry == ry).toNat) = 1 := by rw [hp, if_neg (fun q => e q.symm), y2, beq_self_eq_true]; rfl
        rw [e3] at this; exact this
      have hn2 : m + 1 < n := by omega
      have hfull : ∀ r, r < n → zRoot ((zU q.2 28 rx ry) 28) n r = if zRoot (q.2 28) n r = rx then ry else zRoot (q.2 28) n r := fun r hr => by
        have := zRoot_fix (hfix r hr) (n - (m + 1))
        rw [show m + 1 + (n - (m + 1)) = n from by omega] at this
        rw [this, hroot r hr]
      have hxy : rC V n x y := rC_step N hx hx rC_self hl
      have hrx2 : ∀ a, a < n → zRoot (q.2 28) n a = rx → rC V n a x := fun a ha hr => h7 a x ha hx (hr.trans hrx.symm)
      have hry2 : ∀ a, a < n → zRoot (q.2 28) n a = ry → rC V n a y := fun a ha hr => h7 a y ha hy (hr.trans hry.symm)
      refine ⟨m + 1, ⟨fun a ha => by dsimp only; rw [zU_o (by decide)]; exact h1 a ha, fun r hr => ?_, hfix, hn2, ?_, ?_, fun a b ha hb hab => ?_⟩, fun _ => ?_, fun a b ha hb hab => ?_⟩
      · dsimp only
        rw [hp]; split
        · exact y3
        · exact h2 r hr
      · dsimp only
        omega
      · dsimp only
        omega
      · dsimp only at hab
        rw [hfull a ha, hfull b hb] at hab
        by_cases ea : zRoot (q.2 28) n a = rx
        · by_cases eb : zRoot (q.2 28) n b = rx
          · exact h7 a b ha hb (ea.trans eb.symm)
          · rw [if_pos ea, if_neg eb] at hab
            exact rC_trans N ha (hrx2 a ha ea) (rC_trans N hx hxy (rC_symm N hb (hry2 b hb hab.symm)))
        · by_cases eb : zRoot (q.2 28) n b = rx
          · rw [if_neg ea, if_pos eb] at hab
            exact rC_trans N ha (hry2 a ha hab) (rC_trans N hy (rC_symm N hx hxy) (rC_symm N hb (hrx2 b hb eb)))
          · rw [if_neg ea, if_neg eb] at hab
            exact h7 a b ha hb hab
      · dsimp only
        rw [hfull x hx, hfull y hy, hrx, hry, if_pos rfl, if_neg (fun q => e q.symm)]
      · dsimp only
        rw [hfull a ha, hfull b hb, hab]
  · rw [if_neg hl]
    exact ⟨m, h, fun hv => absurd (by rw [h1 x (by omega)]; exact hv) hl, fun a b _ _ hab => hab⟩
theorem zUi.row (N : rNet V n) (h : zUi V n m q) {x : Nat} (hx : x < n) : ∀ k, k ≤ n → ∃ m', zUi V n m' (zIt (fun y q => zUniF n x y q) k q) ∧ (∀ y, y < k → (V (29 + x)).testBit y = true → zRoot ((zIt (fun y q => zUniF n x y q) k q).2 28) n x = zRoot ((zIt (fun y q => zUniF n x y q) k q).2 28) n y) ∧ ∀ a b, a < n → b < n → zRoot (q.2 28) n a = zRoot (q.2 28) n b → zRoot ((zIt (fun y q => zUniF n x y q) k q).2 28) n a = zRoot ((zIt (fun y q => zUniF n x y q) k q).2 28) n b := by
  intro k
  induction k with
  | zero => intro _; exact ⟨m, h, fun y hy => by omega, fun a b _ _ hab => hab⟩
  | succ k ih =>
    intro hk
    obtain ⟨m1, i1, i2, i3⟩ := ih (by omega)
    obtain ⟨m2, j1, j2, j3⟩ := i1.step N hx (show k < n by omega)
    rw [zIt]
    refine ⟨m2, j1, fun y hy hl => ?_, fun a b ha hb hab => j3 a b ha hb (i3 a b ha hb hab)⟩
    by_cases e : y = k
    · subst e; exact j2 hl
    · exact j3 x y hx (by omega) (i2 y (by omega) hl)
theorem zUi.all (N : rNet V n) (h : zUi V n m q) : ∀ k, k ≤ n → ∃ m', zUi V n m' (zIt (fun x q => zIt (fun y q => zUniF n x y q) x q) k q) ∧ (∀ x y, x < k → y < x → (V (29 + x)).testBit y = true → zRoot ((zIt (fun x q => zIt (fun y q => zUniF n x y q) x q) k q).2 28) n x = zRoot ((zIt (fun x q => zIt (fun y q => zUniF n x y q) x q) k q).2 28) n y) := by
  intro k
  induction k with
  | zero => intro _; exact ⟨m, h, fun x y hx => by omega⟩
  | succ k ih =>
    intro hk
    obtain ⟨m1, i1, i2⟩ := ih (by omega)
    obtain ⟨m2, j1, j2, j3⟩ := i1.row N (show k < n by omega) k (by omega)
    rw [zIt]
    refine ⟨m2, j1, fun x y hx hyx hl => ?_⟩
    by_cases e : x = k
    · subst e; exact j2 y hyx hl
    · exact j3 x y (by omega) (by omega) (i2 x y (by omega) hyx hl)
end UI
section UT
variable {A B : zS} {n t : Nat}
theorem tie_union (T : zTie A 25 (B 13)) (G : zGd A 25) (hn : A 26 0 = n) : nI (zUnion A n).1 = nI (zcnt n (fun e => rClo (B 13) n (1 * 2 ^ e) &&& (1 * 2 ^ e - 1) == 0)) := by
  have N := tie_net T G hn
  have hz := N.1
  by_cases h0 : n = 0
  · subst h0; rfl
  · have hinit : zUi (B 13) n 0 (n, zUni0 A n) := by
      have hr : ∀ r, r < n → zRoot (zUni0 A n 28) n r = r := fun r hr => by
        have := zRoot_fix (p := zUni0 A n 28) (k := 0) (r := r) (zUni0_at hr) n
        rwa [Nat.zero_add] at this
      refine ⟨fun e he => ?_, fun r hr2 => ?_, fun r hr2 => ?_, by omega, ?_, ?_, fun a b ha hb hab => ?_⟩
      · dsimp only
        have : ∀ m, zIt (fun i q => zU q 28 i i) m A 27 e = A 27 e := by
          intro m
          induction m with
          | zero => rfl
          | succ m ih => rw [zIt, zU_o (by decide)]; exact ih
        rw [(T.e he).2.2]; exact this n
      · dsimp only; rw [zUni0_at hr2]; exact hr2
      · exact zUni0_at hr2
      · dsimp only; omega
      · have : ∀ m, m ≤ n → zcnt m (fun r => zUni0 A n 28 r == r) = m := by
          intro m
          induction m with
          | zero => intro _; rfl
          | succ m ih => intro hm; rw [zcnt_s, ih (by omega), zUni0_at (by omega), beq_self_eq_true]; rfl
        exact this n (Nat.le_refl _)
      · dsimp only at hab
        rw [hr a ha, hr b hb] at hab
        subst hab; exact rC_self
    obtain ⟨m, U, hlk⟩ := hinit.all N n (Nat.le_refl _)
    have eU : zUnion A n = zIt (fun x q => zIt (fun y q => zUniF n x y q) x q) n (n, zUni0 A n) := rfl
    rw [← eU] at U hlk
    obtain ⟨q, hq⟩ : ∃ q, zUnion A n = q := ⟨_, rfl⟩
    rw [hq] at U hlk ⊢
    obtain ⟨u1, u2, u3, u4, u5, u6, u7⟩ := id U
    have hlink : ∀ e k, e < n → ((B 13) (29 + e)).testBit k = true → zRoot (q.2 28) n e = zRoot (q.2 28) n k := fun e k he hl => by
      have g := N.2.2 e k (by omega) hl
      rcases Nat.lt_or_ge k e with h | h
      · exact hlk e k he h hl
      · exact (hlk k e g.2.1 (by omega) g.2.2.2).symm
    have hcon : ∀ a b, a < n → rC (B 13) n a b → zRoot (q.2 28) n a = zRoot (q.2 28) n b := fun a b ha hc =>
      rE_least (P := fun k => zRoot (q.2 28) n a = zRoot (q.2 28) n k) (g := 1 * 2 ^ a) (fun k hk => by rw [zOne_in hk]) (fun e k he hP hl => hP.trans (hlink e k he hl)) 12 b hc
    have hfirst : ∀ b a, a ≤ b → a < n → ∃ e, e < n ∧ (rClo (B 13) n (1 * 2 ^ e) &&& (1 * 2 ^ e - 1) == 0) = true ∧ rC (B 13) n a e := by
      intro b
      induction b with
      | zero => intro a hab ha; exact ⟨a, ha, (rFirst N ha).mpr (fun j hj => by omega), rC_self⟩
      | succ b ih =>
        intro a hab ha
        by_cases hf : ∀ j, j < a → ¬ rC (B 13) n a j
        · exact ⟨a, ha, (rFirst N ha).mpr hf, rC_self⟩
        · obtain ⟨j, hj⟩ : ∃ j, ¬ (j < a → ¬ rC (B 13) n a j) := Classical.byContradiction (fun hno => hf (fun j => Classical.byContradiction (fun hj => hno ⟨j, hj⟩)))
          have hja : j < a := Classical.byContradiction (fun h => hj (fun h2 => absurd h2 h))
          have hc : rC (B 13) n a j := Classical.byContradiction (fun h => hj (fun _ => h))
          obtain ⟨e, e1, e2, e3⟩ := ih j (by omega) (by omega)
          exact ⟨e, e1, e2, rC_trans N ha hc e3⟩
    have hrt : ∀ r, q.2 28 r = r → zRoot (q.2 28) n r = r := fun r hr => by
      have := zRoot_fix (p := q.2 28) (k := 0) (r := r) hr n
      rwa [Nat.zero_add] at this
    have le1 : zcnt n (fun r => q.2 28 r == r) ≤ zcnt n (fun e => rClo (B 13) n (1 * 2 ^ e) &&& (1 * 2 ^ e - 1) == 0) :=
      zcnt_rel (R := fun r e => rC (B 13) n r e) n _ (fun i hi hP => by
        obtain ⟨e, e1, e2, e3⟩ := hfirst i i (Nat.le_refl _) hi
        exact ⟨e, e1, e2, e3⟩) (fun i i' j hi hi' hP hP' hR hR' => by
        have h1 := hcon i j hi hR
        have h2 := hcon i' j hi' hR'
        rw [hrt i (beq_iff_eq.mp hP)] at h1
        rw [hrt i' (beq_iff_eq.mp hP')] at h2
        rw [h1, h2])
    have le2 : zcnt n (fun e => rClo (B 13) n (1 * 2 ^ e) &&& (1 * 2 ^ e - 1) == 0) ≤ zcnt n (fun r => q.2 28 r == r) :=
      zcnt_rel (R := fun e r => zRoot (q.2 28) n e = r) n _ (fun i hi hP => ⟨zRoot (q.2 28) n i, (U.root hi).2.2, beq_iff_eq.mpr (U.root hi).2.1, rfl⟩) (fun i i' j hi hi' hP hP' hR hR' => by
        have hc := u7 i i' hi hi' (hR.trans hR'.symm)
        rcases Nat.lt_trichotomy i i' with h | h | h
        · exact absurd (rC_symm N hi hc) ((rFirst N hi').mp hP' i h)
        · exact h
        · exact absurd hc ((rFirst N hi).mp hP i' h))
    have hle : zcnt n (fun e => rClo (B 13) n (1 * 2 ^ e) &&& (1 * 2 ^ e - 1) == 0) ≤ n := by omega
    exact nI_mod (by omega)
end UT
