/-! numbers in letters -/
def zDg : Nat → Nat → List Nat
  | 0, _ => []
  | k + 1, x => if x < 10 then [48 + x] else zDg k (x / 10) ++ [48 + x % 10]
def zDec (x : Nat) : List Nat := zDg 10 x
/-- a number's text -/
def zTxI (v : Int32) : List Nat := (if v < 0 then [45] else []) ++ zDec v.toInt.natAbs
theorem zDg_fuel : ∀ (k k' x : Nat), 1 ≤ k → k ≤ k' → x < 10 ^ k → zDg k' x = zDg k x := by
  intro k
  induction k with
  | zero => intro k' x h; omega
  | succ k ih =>
    intro k' x _ hk hx
    obtain ⟨j, rfl⟩ : ∃ j, k' = j + 1 := ⟨k' - 1, by omega⟩
    rw [zDg, zDg]
    by_cases h : x < 10
    · rw [if_pos h, if_pos h]
    · rw [if_neg h, if_neg h]
      rcases Nat.eq_zero_or_pos k with h0 | h0
      · subst h0; simp at hx; omega
      · rw [ih j (x / 10) h0 (by omega) (by rw [Nat.pow_succ] at hx; omega)]
theorem zDg_len : ∀ (k x : Nat), (zDg k x).length ≤ k := by
  intro k
  induction k with
  | zero => intro x; exact Nat.le_refl _
  | succ k ih =>
    intro x
    rw [zDg]
    split
    · simp
    · have := ih (x / 10); rw [List.length_append]; simp; omega
theorem zDg_lt : ∀ (k x : Nat), ∀ c ∈ zDg k x, c < 128 := by
  intro k
  induction k with
  | zero => intro x c h; cases h
  | succ k ih =>
    intro x c h
    rw [zDg] at h
    split at h
    · rw [List.mem_singleton] at h; omega
    · rcases List.mem_append.mp h with h | h
      · exact ih _ c h
      · rw [List.mem_singleton] at h; omega
theorem zDec_1 {x : Nat} (h : x < 10) : zDec x = [48 + x] := by unfold zDec; rw [zDg, if_pos h]
theorem zDec_10 {x : Nat} (h : ¬ x < 10) (hx : x < 10 ^ 10) : zDec x = zDec (x / 10) ++ [48 + x % 10] := by
  have e : zDec x = zDg 9 (x / 10) ++ [48 + x % 10] := by unfold zDec; rw [zDg, if_neg h]
  rw [e, zDec, zDg_fuel 9 10 (x / 10) (by decide) (by decide) (by omega)]
theorem zDec_100 {x : Nat} (h : ¬ x < 100) (hx : x < 10 ^ 10) : zDec x = zDec (x / 100) ++ [48 + x % 100 / 10, 48 + x % 100 % 10] := by
  rw [zDec_10 (by omega) hx, zDec_10 (x := x / 10) (by omega) (by omega), Nat.div_div_eq_div_mul, List.append_assoc]
  have e1 : x / 10 % 10 = x % 100 / 10 := by omega
  have e2 : x % 10 = x % 100 % 10 := by omega
  rw [e1, e2]; rfl
theorem zDec_2 {x : Nat} (h : ¬ x < 10) (h2 : x < 100) : zDec x = [48 + x / 10, 48 + x % 10] := by
  rw [zDec_10 h (by omega), zDec_1 (x := x / 10) (by omega)]; rfl
theorem zDec_len {k x : Nat} (hk : 1 ≤ k) (hk2 : k ≤ 10) (h1 : x < 10 ^ k) (h2 : k = 1 ∨ 10 ^ (k - 1) ≤ x) : (zDec x).length = k := by
  have main : ∀ k x, 1 ≤ k → x < 10 ^ k → (k = 1 ∨ 10 ^ (k - 1) ≤ x) → (zDg k x).length = k := by
    intro k
    induction k with
    | zero => intro x h; omega
    | succ k ih =>
      intro x _ h1 h2
      rw [zDg]
      rcases Nat.eq_zero_or_pos k with h0 | h0
      · subst h0; simp at h1; rw [if_pos h1]; rfl
      · have h3 : 10 ^ k ≤ x := by rcases h2 with h2 | h2; omega; exact h2
        have h4 : 10 ^ k = 10 ^ (k - 1) * 10 := by rw [← Nat.pow_succ]; congr 1; omega
        have h5 : 1 ≤ 10 ^ (k - 1) := Nat.one_le_pow _ _ (by decide)
        rw [if_neg (by omega), List.length_append, ih (x / 10) h0 (by rw [Nat.pow_succ] at h1; omega) (Or.inr (by omega))]
        rfl
  rw [zDec, zDg_fuel k 10 x hk hk2 h1]
  exact main k x hk h1 h2
theorem zDec_lt {x : Nat} : ∀ c ∈ zDec x, c < 128 := zDg_lt 10 x
theorem zDec_le {x : Nat} : (zDec x).length ≤ 10 := zDg_len 10 x
theorem zTxI_lt {v : Int32} : ∀ c ∈ zTxI v, c < 128 := by
  intro c h
  rcases List.mem_append.mp h with h | h
  · split at h
    · rw [List.mem_singleton] at h; omega
    · cases h
  · exact zDec_lt c h
theorem zTxI_le {v : Int32} : (zTxI v).length ≤ 11 := by
  have := zDec_le (x := v.toInt.natAbs)
  unfold zTxI
  rw [List.length_append]
  split
  · simp; omega
  · simp; omega
/-! the negative numbers of the two methods -/
theorem zNgLt {i : Int32} {x : Nat} (h : i.toInt = -(x : Int)) {m : Nat} (hm : m ≤ 2 ^ 31) {j : Int32} (hj : j.toInt = -(m : Int)) : j < i ↔ x < m := by
  rw [Int32.lt_iff_toInt_lt, h, hj]; omega
theorem zNgLe {i : Int32} {x : Nat} (h : i.toInt = -(x : Int)) {m : Nat} {j : Int32} (hj : j.toInt = -(m : Int)) : j ≤ i ↔ x ≤ m := by
  rw [Int32.le_iff_toInt_le, h, hj]; omega
theorem zNgDiv {i : Int32} {x : Nat} (h : i.toInt = -(x : Int)) (hx : x ≤ 2 ^ 31) : (i / 100).toInt = -((x / 100 : Nat) : Int) := by
  have e : (100 : Int32).toInt = 100 := by decide
  rw [Int32.toInt_div, h, e, Int.neg_tdiv, Int.tdiv_eq_ediv_of_nonneg (by omega), Int.bmod_eq_of_le (by omega) (by omega)]
  omega
theorem zNgRem {i q : Int32} {x : Nat} (h : i.toInt = -(x : Int)) (hx : x ≤ 2 ^ 31) (hq : q.toInt = -((x / 100 : Nat) : Int)) : q * 100 - i = nI (x % 100) := by
  have e : (100 : Int32).toInt = 100 := by decide
  apply Int32.toInt_inj.mp
  have e1 : (nI (x % 100)).toInt = ((x % 100 : Nat) : Int) := nI_toInt (by omega)
  rw [e1, Int32.toInt_sub, Int32.toInt_mul, h, hq, e, Int.bmod_eq_of_le (x := -((x / 100 : Nat) : Int) * 100) (by omega) (by omega), Int.bmod_eq_of_le (by omega) (by omega)]
  omega
theorem zNgNeg {i : Int32} {x : Nat} (h : i.toInt = -(x : Int)) (hx : x < 2 ^ 31) : -i = nI x := by
  apply Int32.toInt_inj.mp
  rw [Int32.toInt_neg, h, nI_toInt hx, Int.bmod_eq_of_le (by omega) (by omega)]
  omega
theorem zNgOf {v : Int32} (h : ¬ v < 0) : (-v).toInt = -((v.toInt.natAbs : Nat) : Int) := by
  have h0 : (0 : Int32).toInt = 0 := rfl
  have h1 : 0 ≤ v.toInt := by
    rw [Int32.lt_iff_toInt_lt, h0] at h; omega
  have h2 := Int32.toInt_lt v
  rw [Int32.toInt_neg, Int.bmod_eq_of_le (by omega) (by omega)]
  omega
theorem zNgIs {v : Int32} (h : v < 0) : v.toInt = -((v.toInt.natAbs : Nat) : Int) := by
  have h0 : (0 : Int32).toInt = 0 := rfl
  rw [Int32.lt_iff_toInt_lt, h0] at h; omega
theorem zNgLe31 {v : Int32} : v.toInt.natAbs ≤ 2 ^ 31 := by
  have h1 := Int32.toInt_lt v
  have h2 := Int32.le_toInt v
  omega

section RD
variable {G : zG} {X : zX} {M : zM} {d mc ms a b pc : Nat} {ls : List (Option Value)} {st : List Value} {ws : va_W}
theorem rw_getD (C : zOK G X M d mc ms) {idx q : Nat} {nm : String} (hq : (q = 350 ∧ nm = "DigitOnes") ∨ (q = 351 ∧ nm = "DigitTens")) (hw : Cond.fieldLink M.1.cls idx "java/lang/Integer" nm "[B" ∈ lw_tbl) (hd : decode M.2.1 pc = .ok (.getstatic idx, 3)) (k : RW G X a b (pc + 3) ls (.ref (G.2.2.1 q) :: st) ws) : RW G X a b pc ls st ws := by
  obtain ⟨p, l, e, R, s, m, args, below, meth, c, Q⟩ := X
  intro H locs arr hl hn hP hD hS
  obtain ⟨hx, hb, hml, hown, hlk, hrt, ⟨hT, hK, -, -, -, -, hfr⟩, -⟩ := id C
  obtain ⟨-, -, -, -, ⟨⟨h5, h6⟩, ⟨h7, h8⟩⟩, -⟩ := hfr
  rcases hq with ⟨rfl, rfl⟩ | ⟨rfl, rfl⟩
  · exact va_gets hx hb h5 hS hown (hT _ hw rfl args) (fun _ h => h) hd (k H locs arr hl hn hP hD hS)
  · exact va_gets hx hb h7 hS hown (hT _ hw rfl args) (fun _ h => h) hd (k H locs arr hl hn hP hD hS)
theorem rw_digB (C : zOK G X M d mc ms) {q i v : Nat} (hq : (q = 350 ∧ v = 48 + i % 10) ∨ (q = 351 ∧ v = 48 + i / 10)) (hi : i < 100) (hd : decode M.2.1 pc = .ok (.baload, 1)) (k : RW G X a b (pc + 1) ls (zi v :: st) ws) : RW G X a b pc ls (zi i :: .ref (G.2.2.1 q) :: st) ws := by
  obtain ⟨p, l, e, R, s, m, args, below, meth, c, Q⟩ := X
  intro H locs arr hl hn hP hD hS
  obtain ⟨hx, hb, hml, hown, hlk, hrt, ⟨hT, hK, -, -, -, -, hfr⟩, -⟩ := id C
  obtain ⟨-, -, -, -, ⟨⟨h5, h6⟩, ⟨h7, h8⟩⟩, -⟩ := hfr
  rcases hq with ⟨rfl, rfl⟩ | ⟨rfl, rfl⟩
  · refine va_tb hx hb h6 hS (i := nI i) (vp_in_nI hi (by decide)) (v := .int (nI (48 + i % 10))) ?_ hd (k H locs arr hl hn hP hD hS)
    rw [nI_clamp (by omega)]
  · refine va_tb hx hb h8 hS (i := nI i) (vp_in_nI hi (by decide)) (v := .int (nI (48 + i / 10))) ?_ hd (k H locs arr hl hn hP hD hS)
    rw [nI_clamp (by omega)]
end RD

set_option maxRecDepth 100000 in
set_option maxHeartbeats 4000000 in
theorem d_J6_stringSize {l : Launch} (hl : l.stackTraces = false) {G : zG} {ws : va_W} {v : Int32} : rCR l G mJ6_stringSize_0f7a4 0 0 0 [.int v] ws (fun r ws' => r = some (zi (zTxI v).length) ∧ ws' = ws) := by
  refine rCR.of hl (by decide) (by simp [Value.category]) (Nat.le_of_ble_eq_true rfl) (ls := [some (.int v), none, none, none]) rfl (fun X C hF => ?_)
  obtain ⟨x, hx⟩ : ∃ x, v.toInt.natAbs = x := ⟨_, rfl⟩
  have hx31 : x ≤ 2 ^ 31 := hx ▸ zNgLe31
  have L16 : ∀ (m k : Nat) (i p : Int32) (s : Nat), k + m = 10 → 1 ≤ k → i.toInt = -(x : Int) → (k ≤ 9 → p.toInt = -((10 ^ k : Nat) : Int)) → (k = 1 ∨ 10 ^ (k - 1) ≤ x) → s ≤ 1 → (zTxI v).length = s + (zDec x).length → RW G X 0 0 16 [some (.int i), some (zi s), some (.int p), some (zi k)] [] ws := by
    intro m
    induction m with
    | zero =>
      intro k i p s hk h1 hi hp hlo hs hL
      have hk10 : k = 10 := by omega
      subst hk10
      have hd := zDec_len (k := 10) (x := x) (by decide) (by decide) (by omega) (by omega)
      refine rw_iload_3 C dJ6_stringSize_0f7a4_16 ?_
      refine rn_bipush C 10 (by decide) dJ6_stringSize_0f7a4_17 ?_
      refine rn_icmp_ge C 42 (by omega) (by omega) dJ6_stringSize_0f7a4_19 (by decide) (fun c19 => ?_) (fun c19 => ?_)
      · refine rn_bipush C 10 (by decide) dJ6_stringSize_0f7a4_42 ?_
        refine rw_iload_1 C dJ6_stringSize_0f7a4_44 ?_
        refine rn_iadd C dJ6_stringSize_0f7a4_45 ?_
        exact rw_iret C rfl rfl hF dJ6_stringSize_0f7a4_46 (by decide) (by decide) ⟨by rw [hL, hd, Nat.add_comm], rfl⟩
      · omega
    | succ m ih =>
      intro k i p s hk h1 hi hp hlo hs hL
      have hp := hp (by omega)
      have h10 : 10 ^ k ≤ 10 ^ 9 := Nat.pow_le_pow_right (by decide) (by omega)
      refine rw_iload_3 C dJ6_stringSize_0f7a4_16 ?_
      refine rn_bipush C 10 (by decide) dJ6_stringSize_0f7a4_17 ?_
      refine rn_icmp_ge C 42 (by omega) (by omega) dJ6_stringSize_0f7a4_19 (by decide) (fun c19 => ?_) (fun c19 => ?_)
      · omega
      · refine rw_iload_0 C dJ6_stringSize_0f7a4_22 ?_
        refine rw_iload_2 C dJ6_stringSize_0f7a4_23 ?_
        refine rw_icmp_le C 31 dJ6_stringSize_0f7a4_24 (by decide) (fun c24 => ?_) (fun c24 => ?_)
        · have hge : 10 ^ k ≤ x := by
            rw [Int32.le_iff_toInt_le, hi, hp] at c24; omega
          refine rn_bipush C 10 (by decide) dJ6_stringSize_0f7a4_31 ?_
          refine rw_iload_2 C dJ6_stringSize_0f7a4_33 ?_
          refine rw_imul C dJ6_stringSize_0f7a4_34 ?_
          refine rw_istore_2 C rfl dJ6_stringSize_0f7a4_35 ?_
          refine rn_iinc_3 C rfl dJ6_stringSize_0f7a4_36 ?_
          refine rw_goto C 16 dJ6_stringSize_0f7a4_39 (by decide) ?_
          refine ih (k + 1) i _ s (by omega) (by omega) hi (fun h9 => ?_) (Or.inr hge) hs hL
          have e10 : (nI 10).toInt = 10 := by decide
          have h8 : 10 ^ k ≤ 10 ^ 8 := Nat.pow_le_pow_right (by decide) (by omega)
          rw [Int32.toInt_mul, e10, hp, Int.bmod_eq_of_le (by omega) (by omega), Nat.pow_succ]
          omega
        · have hlt : x < 10 ^ k := by
            rw [Int32.le_iff_toInt_le, hi, hp] at c24; omega
          refine rw_iload_3 C dJ6_stringSize_0f7a4_27 ?_
          refine rw_iload_1 C dJ6_stringSize_0f7a4_28 ?_
          refine rn_iadd C dJ6_stringSize_0f7a4_29 ?_
          exact rw_iret C rfl rfl hF dJ6_stringSize_0f7a4_30 (by decide) (by decide) ⟨by rw [hL, zDec_len h1 (by omega) hlt hlo, Nat.add_comm], rfl⟩
  have e10 : (nI 4294967286).toInt = -((10 ^ 1 : Nat) : Int) := by decide
  refine rn_iconst C 1 (by decide) dJ6_stringSize_0f7a4_0 ?_
  refine rw_istore_1 C rfl dJ6_stringSize_0f7a4_1 ?_
  refine rw_iload_0 C dJ6_stringSize_0f7a4_2 ?_
  refine rw_if_lt C 11 dJ6_stringSize_0f7a4_3 (by decide) (fun c3 => ?_) (fun c3 => ?_)
  · refine rn_bipush C 4294967286 (by decide) dJ6_stringSize_0f7a4_11 ?_
    refine rw_istore_2 C rfl dJ6_stringSize_0f7a4_13 ?_
    refine rn_iconst C 1 (by decide) dJ6_stringSize_0f7a4_14 ?_
    refine rw_istore_3 C rfl dJ6_stringSize_0f7a4_15 ?_
    exact L16 9 1 v _ 1 (by decide) (by decide) (hx ▸ zNgIs c3) (fun _ => e10) (Or.inl rfl) (by decide) (by unfold zTxI; rw [if_pos c3, hx, List.length_append]; rfl)
  · refine rn_iconst C 0 (by decide) dJ6_stringSize_0f7a4_6 ?_
    refine rw_istore_1 C rfl dJ6_stringSize_0f7a4_7 ?_
    refine rw_iload_0 C dJ6_stringSize_0f7a4_8 ?_
    refine rw_ineg C dJ6_stringSize_0f7a4_9 ?_
    refine rw_istore_0 C dJ6_stringSize_0f7a4_10 ?_
    refine rn_bipush C 4294967286 (by decide) dJ6_stringSize_0f7a4_11 ?_
    refine rw_istore_2 C rfl dJ6_stringSize_0f7a4_13 ?_
    refine rn_iconst C 1 (by decide) dJ6_stringSize_0f7a4_14 ?_
    refine rw_istore_3 C rfl dJ6_stringSize_0f7a4_15 ?_
    exact L16 9 1 (-v) _ 0 (by decide) (by decide) (hx ▸ zNgOf c3) (fun _ => e10) (Or.inl rfl) (by decide) (by unfold zTxI; rw [if_neg c3, hx, List.length_append]; rfl)

/-- a text laid into a row from p on -/
def tAt (f f2 : Nat → Int32) (p : Nat) (L : List Nat) : Prop := (∀ i, fits .byte (.int (f2 i)) = true) ∧ (∀ j, j < p → f2 j = f j) ∧ ∀ j, j < L.length → f2 (p + j) = nI (L.getD j 0)
theorem tAt.tX {f f2 : Nat → Int32} {L L2 : List Nat} (h : tAt f f2 L.length L2) (ht : tX f L) (h2 : ∀ c ∈ L2, c < 128) : tX f2 (L ++ L2) := by
  refine ⟨fun j hj => ?_, h.1, fun c hc => ?_⟩
  · rw [List.length_append] at hj
    rcases Nat.lt_or_ge j L.length with h1 | h1
    · rw [h.2.1 j h1, ht.1 j h1, List.getD_append _ _ _ _ h1]
    · have h3 := h.2.2 (j - L.length) (by omega)
      rw [show L.length + (j - L.length) = j by omega] at h3
      rw [h3, List.getD_append_right _ _ _ _ h1]
  · rcases List.mem_append.mp hc with h1 | h1
    · exact ht.2.2 c h1
    · exact h2 c h1
theorem zByI {f : Nat → Int32} {j x : Nat} (hf : ∀ i, fits .byte (.int (f i)) = true) (hx : x < 128) : ∀ i, fits .byte (.int (upd f j (nI x) i)) = true := by
  intro i
  unfold upd
  split
  · exact (zByt hx).2.2
  · exact hf i

set_option maxRecDepth 100000 in
set_option maxHeartbeats 8000000 in
theorem d_J6_getChars {l : Launch} (hl : l.stackTraces = false) {G : zG} {w : va_W} {c0 : Nat × va_E} {b cap p : Nat} {f : Nat → Int32} {v : Int32} (hf : ∀ i, fits .byte (.int (f i)) = true) (hp : (zTxI v).length ≤ p) (hpc : p ≤ cap) (hc : cap < 2 ^ 20) : rCR l G mJ6_getChars_ba4f3 0 0 0 [.int v, zi p, .ref b] (c0 :: (b, eBy G cap f) :: w) (fun r ws' => ∃ f2, r = some (zi (p - (zTxI v).length)) ∧ ws' = c0 :: (b, eBy G cap f2) :: w ∧ tAt f f2 (p - (zTxI v).length) (zTxI v)) := by
  refine rCR.of hl (by decide) (by simp [Value.category]) (Nat.le_of_ble_eq_true rfl) (ls := [some (.int v), some (zi p), some (.ref b), none, none, none, none]) rfl (fun X C hF => ?_)
  -- the tail: the digits of x are laid from n on, the sign is wanting
  have T104 : ∀ (n s : Nat) (g : Nat → Int32) (u0 u3 u4 : Option Value), (s = if v < 0 then 1 else 0) → n = p - (zDec v.toInt.natAbs).length → tAt f g n (zDec v.toInt.natAbs) → RW G X 0 0 104 [u0, some (zi p), some (.ref b), u3, u4, some (zi n), some (zi s)] [] (c0 :: (b, eBy G cap g) :: w) := by
    intro n s g u0 u3 u4 hs hn hg
    refine rw_iload_6 C dJ6_getChars_ba4f3_104 ?_
    refine rn_if_eq C 118 (by rw [hs]; split <;> decide) dJ6_getChars_ba4f3_106 (by decide) (fun c106 => ?_) (fun c106 => ?_)
    · have hv : ¬ v < 0 := fun h => by rw [if_pos h] at hs; omega
      have e : zTxI v = zDec v.toInt.natAbs := by unfold zTxI; rw [if_neg hv]; rfl
      refine rw_iload_5 C dJ6_getChars_ba4f3_118 ?_
      exact rw_iret C rfl rfl hF dJ6_getChars_ba4f3_120 (by decide) (by decide) ⟨g, by rw [hn, e], rfl, by rw [e, ← hn]; exact hg⟩
    · have hv : v < 0 := Classical.byContradiction (fun h => by rw [if_neg h] at hs; exact c106 hs)
      have e : zTxI v = 45 :: zDec v.toInt.natAbs := by unfold zTxI; rw [if_pos hv]; rfl
      have el : (zTxI v).length = (zDec v.toInt.natAbs).length + 1 := by rw [e]; rfl
      refine rw_aload_2 C dJ6_getChars_ba4f3_109 ?_
      refine rn_idec_5 C rfl (by omega) dJ6_getChars_ba4f3_110 ?_
      refine rw_iload_5 C dJ6_getChars_ba4f3_113 ?_
      refine rn_bipush C 45 (by decide) dJ6_getChars_ba4f3_115 ?_
      refine rp_bast C (k := 1) rfl (by omega) (by omega) (by rw [(zByt (by decide : (45 : Nat) < 128)).2.1]; rfl) dJ6_getChars_ba4f3_117 ?_
      refine rw_iload_5 C dJ6_getChars_ba4f3_118 ?_
      refine rw_iret C rfl rfl hF dJ6_getChars_ba4f3_120 (by decide) (by decide) ⟨upd g (n - 1) (nI 45), by rw [el, hn]; congr 2; omega, rfl, ?_⟩
      rw [el, show p - ((zDec v.toInt.natAbs).length + 1) = n - 1 by omega]
      refine ⟨zByI hg.1 (by decide), fun j hj => ?_, fun j hj => ?_⟩
      · rw [show upd g (n - 1) (nI 45) j = g j from if_neg (by omega)]
        exact hg.2.1 j (by omega)
      · rw [e] at hj ⊢
        cases j with
        | zero => exact if_pos rfl
        | succ j =>
          rw [show upd g (n - 1) (nI 45) (n - 1 + (j + 1)) = g (n - 1 + (j + 1)) from if_neg (by omega), show n - 1 + (j + 1) = n + j by omega]
          rw [hg.2.2 j (by simpa using hj)]
          rfl
  -- the digits, two at a time
  have L22 : ∀ (k x p2 : Nat) (i : Int32) (g : Nat → Int32) (u3 u4 : Option Value) (s : Nat), x < k → x ≤ 2 ^ 31 → i.toInt = -(x : Int) → (zDec x).length ≤ p2 → p2 ≤ p → (s = if v < 0 then 1 else 0) → (∀ i, fits .byte (.int (g i)) = true) → (∀ (g2 : Nat → Int32), tAt g g2 (p2 - (zDec x).length) (zDec x) → (∀ j, p2 ≤ j → g2 j = g j) → tAt f g2 (p - (zDec v.toInt.natAbs).length) (zDec v.toInt.natAbs)) → p2 - (zDec x).length = p - (zDec v.toInt.natAbs).length → RW G X 0 0 22 [some (.int i), some (zi p), some (.ref b), u3, u4, some (zi p2), some (zi s)] [] (c0 :: (b, eBy G cap g) :: w) := by
    intro k
    induction k with
    | zero => intro x p2 i g u3 u4 s h; omega
    | succ k ih =>
      intro x p2 i g u3 u4 s hxk hx hi hp2 hpp hs hg hfin hpos
      have e100 : (nI 4294967196).toInt = -((100 : Nat) : Int) := by decide
      have e9 : (nI 4294967287).toInt = -((9 : Nat) : Int) := by decide
      refine rw_iload_0 C dJ6_getChars_ba4f3_22 ?_
      refine rn_bipush C 4294967196 (by decide) dJ6_getChars_ba4f3_23 ?_
      refine rw_icmp_gt C 72 dJ6_getChars_ba4f3_25 (by decide) (fun c25 => ?_) (fun c25 => ?_)
      · have h100 : x < 100 := (zNgLt hi (by decide) e100).mp c25
        have hneg : -i = nI x := zNgNeg hi (by omega)
        refine rw_aload_2 C dJ6_getChars_ba4f3_72 ?_
        by_cases h9 : x < 10
        · have ed := zDec_1 h9
          have el : (zDec x).length = 1 := by rw [ed]; rfl
          refine rn_idec_5 C rfl (by omega) dJ6_getChars_ba4f3_73 ?_
          refine rw_iload_5 C dJ6_getChars_ba4f3_76 ?_
          refine rw_getD C (Or.inl ⟨rfl, rfl⟩) wSbOnes dJ6_getChars_ba4f3_78 ?_
          refine rw_iload_0 C dJ6_getChars_ba4f3_81 ?_
          refine rw_ineg C dJ6_getChars_ba4f3_82 ?_
          rw [hneg]
          refine rw_digB C (Or.inl ⟨rfl, rfl⟩) h100 dJ6_getChars_ba4f3_83 ?_
          refine rp_bast C (k := 1) rfl (by omega) (by omega) (by rw [(zByt (show 48 + x % 10 < 128 by omega)).2.1]; rfl) dJ6_getChars_ba4f3_84 ?_
          refine rw_iload_0 C dJ6_getChars_ba4f3_85 ?_
          refine rn_bipush C 4294967287 (by decide) dJ6_getChars_ba4f3_86 ?_
          refine rw_icmp_ge C 104 dJ6_getChars_ba4f3_88 (by decide) (fun c88 => ?_) (fun c88 => ?_)
          · refine T104 (p2 - 1) s _ _ _ _ hs (by omega) ?_
            have h := hfin (upd g (p2 - 1) (nI (48 + x % 10))) ?_ (fun j hj => if_neg (by omega))
            · exact h
            · rw [el, ed]
              refine ⟨zByI hg (by omega), fun j hj => if_neg (by omega), fun j hj => ?_⟩
              obtain rfl : j = 0 := by simpa using hj
              rw [show upd g (p2 - 1) (nI (48 + x % 10)) (p2 - 1 + 0) = nI (48 + x % 10) from if_pos rfl, Nat.mod_eq_of_lt h9]
              rfl
          · exact absurd ((zNgLe hi e9).mpr (by omega)) c88
        · have ed := zDec_2 h9 h100
          have el : (zDec x).length = 2 := by rw [ed]; rfl
          refine rn_idec_5 C rfl (by omega) dJ6_getChars_ba4f3_73 ?_
          refine rw_iload_5 C dJ6_getChars_ba4f3_76 ?_
          refine rw_getD C (Or.inl ⟨rfl, rfl⟩) wSbOnes dJ6_getChars_ba4f3_78 ?_
          refine rw_iload_0 C dJ6_getChars_ba4f3_81 ?_
          refine rw_ineg C dJ6_getChars_ba4f3_82 ?_
          rw [hneg]
          refine rw_digB C (Or.inl ⟨rfl, rfl⟩) h100 dJ6_getChars_ba4f3_83 ?_
          refine rp_bast C (k := 1) rfl (by omega) (by omega) (by rw [(zByt (show 48 + x % 10 < 128 by omega)).2.1]; rfl) dJ6_getChars_ba4f3_84 ?_
          refine rw_iload_0 C dJ6_getChars_ba4f3_85 ?_
          refine rn_bipush C 4294967287 (by decide) dJ6_getChars_ba4f3_86 ?_
          refine rw_icmp_ge C 104 dJ6_getChars_ba4f3_88 (by decide) (fun c88 => ?_) (fun c88 => ?_)
          · have := (zNgLe hi e9).mp c88; omega
          · refine rw_aload_2 C dJ6_getChars_ba4f3_91 ?_
            refine rn_idec_5 C rfl (by omega) dJ6_getChars_ba4f3_92 ?_
            refine rw_iload_5 C dJ6_getChars_ba4f3_95 ?_
            refine rw_getD C (Or.inr ⟨rfl, rfl⟩) wSbTens dJ6_getChars_ba4f3_97 ?_
            refine rw_iload_0 C dJ6_getChars_ba4f3_100 ?_
            refine rw_ineg C dJ6_getChars_ba4f3_101 ?_
            rw [hneg]
            refine rw_digB C (Or.inr ⟨rfl, rfl⟩) h100 dJ6_getChars_ba4f3_102 ?_
            refine rp_bast C (k := 1) rfl (by omega) (by omega) (by rw [(zByt (show 48 + x / 10 < 128 by omega)).2.1]; rfl) dJ6_getChars_ba4f3_103 ?_
            refine T104 (p2 - 1 - 1) s _ _ _ _ hs (by omega) ?_
            refine hfin _ ?_ (fun j hj => ?_)
            · rw [el, ed]
              refine ⟨zByI (zByI hg (by omega)) (by omega), fun j hj => ?_, fun j hj => ?_⟩
              · unfold upd; rw [if_neg (by omega), if_neg (by omega)]
              · have hj2 : j < 2 := hj
                obtain rfl | rfl : j = 0 ∨ j = 1 := by omega
                · rw [show p2 - 2 + 0 = p2 - 1 - 1 by omega]
                  exact if_pos rfl
                · rw [show p2 - 2 + 1 = p2 - 1 by omega]
                  unfold upd
                  rw [if_neg (by omega), if_pos rfl]
                  rfl
            · unfold upd; rw [if_neg (by omega), if_neg (by omega)]
      · have h100 : ¬ x < 100 := fun h => c25 ((zNgLt hi (by decide) e100).mpr h)
        have ed := zDec_100 h100 (by omega)
        have el : (zDec x).length = (zDec (x / 100)).length + 2 := by rw [ed, List.length_append]; rfl
        have hq := zNgDiv hi hx
        have hr := zNgRem hi hx hq
        refine rw_iload_0 C dJ6_getChars_ba4f3_28 ?_
        refine rn_bipush C 100 (by decide) dJ6_getChars_ba4f3_29 ?_
        refine rw_idiv C (by decide) dJ6_getChars_ba4f3_31 ?_
        refine rw_istore_3 C rfl dJ6_getChars_ba4f3_32 ?_
        refine rw_iload_3 C dJ6_getChars_ba4f3_33 ?_
        refine rn_bipush C 100 (by decide) dJ6_getChars_ba4f3_34 ?_
        refine rw_imul C dJ6_getChars_ba4f3_36 ?_
        refine rw_iload_0 C dJ6_getChars_ba4f3_37 ?_
        refine rw_isub C dJ6_getChars_ba4f3_38 ?_
        rw [show i / nI 100 * nI 100 - i = nI (x % 100) from hr]
        refine rw_istore_4 C rfl dJ6_getChars_ba4f3_39 ?_
        refine rw_iload_3 C dJ6_getChars_ba4f3_41 ?_
        refine rw_istore_0 C dJ6_getChars_ba4f3_42 ?_
        refine rw_aload_2 C dJ6_getChars_ba4f3_43 ?_
        refine rn_idec_5 C rfl (by omega) dJ6_getChars_ba4f3_44 ?_
        refine rw_iload_5 C dJ6_getChars_ba4f3_47 ?_
        refine rw_getD C (Or.inl ⟨rfl, rfl⟩) wSbOnes dJ6_getChars_ba4f3_49 ?_
        refine rw_iload_4 C dJ6_getChars_ba4f3_52 ?_
        refine rw_digB C (Or.inl ⟨rfl, rfl⟩) (by omega) dJ6_getChars_ba4f3_54 ?_
        refine rp_bast C (k := 1) rfl (by omega) (by omega) (by rw [(zByt (show 48 + x % 100 % 10 < 128 by omega)).2.1]; rfl) dJ6_getChars_ba4f3_55 ?_
        refine rw_aload_2 C dJ6_getChars_ba4f3_56 ?_
        refine rn_idec_5 C rfl (by omega) dJ6_getChars_ba4f3_57 ?_
        refine rw_iload_5 C dJ6_getChars_ba4f3_60 ?_
        refine rw_getD C (Or.inr ⟨rfl, rfl⟩) wSbTens dJ6_getChars_ba4f3_62 ?_
        refine rw_iload_4 C dJ6_getChars_ba4f3_65 ?_
        refine rw_digB C (Or.inr ⟨rfl, rfl⟩) (by omega) dJ6_getChars_ba4f3_67 ?_
        refine rp_bast C (k := 1) rfl (by omega) (by omega) (by rw [(zByt (show 48 + x % 100 / 10 < 128 by omega)).2.1]; rfl) dJ6_getChars_ba4f3_68 ?_
        refine rw_goto C 22 dJ6_getChars_ba4f3_69 (by decide) ?_
        refine ih (x / 100) (p2 - 1 - 1) _ _ _ _ s (by omega) (by omega) hq (by omega) (by omega) hs (zByI (zByI hg (by omega)) (by omega)) (fun g2 h1 h2 => ?_) (by omega)
        refine hfin g2 ?_ (fun j hj => ?_)
        · rw [el]
          rw [show p2 - ((zDec (x / 100)).length + 2) = p2 - 1 - 1 - (zDec (x / 100)).length by omega]
          refine ⟨h1.1, fun j hj => ?_, fun j hj => ?_⟩
          · rw [h1.2.1 j hj]; unfold upd; rw [if_neg (by omega), if_neg (by omega)]
          · rw [el] at hj
            rw [ed]
            rcases Nat.lt_or_ge j (zDec (x / 100)).length with h3 | h3
            · rw [List.getD_append _ _ _ _ h3]; exact h1.2.2 j h3
            · rw [List.getD_append_right _ _ _ _ h3]
              obtain h4 | h4 : j = (zDec (x / 100)).length ∨ j = (zDec (x / 100)).length + 1 := by omega
              · subst h4
                rw [show p2 - 1 - 1 - (zDec (x / 100)).length + (zDec (x / 100)).length = p2 - 1 - 1 by omega, h2 _ (Nat.le_refl _), Nat.sub_self]
                exact if_pos rfl
              · subst h4
                rw [show p2 - 1 - 1 - (zDec (x / 100)).length + ((zDec (x / 100)).length + 1) = p2 - 1 by omega, h2 _ (by omega), Nat.add_sub_cancel_left]
                unfold upd
                rw [if_neg (by omega), if_pos rfl]
                rfl
        · rw [h2 j (by omega)]; unfold upd; rw [if_neg (by omega), if_neg (by omega)]
  refine rw_iload_1 C dJ6_getChars_ba4f3_0 ?_
  refine rw_istore_5 C rfl dJ6_getChars_ba4f3_1 ?_
  refine rw_iload_0 C dJ6_getChars_ba4f3_3 ?_
  refine rw_if_ge C 11 dJ6_getChars_ba4f3_4 (by decide) (fun c4 => ?_) (fun c4 => ?_)
  · have hv : ¬ v < 0 := Int32.not_lt.mpr c4
    have e : zTxI v = zDec v.toInt.natAbs := by unfold zTxI; rw [if_neg hv]; rfl
    refine rn_iconst C 0 (by decide) dJ6_getChars_ba4f3_11 ?_
    refine rw_istore_6 C rfl dJ6_getChars_ba4f3_12 ?_
    refine rw_iload_6 C dJ6_getChars_ba4f3_14 ?_
    refine rn_if_ne C 22 (by decide) dJ6_getChars_ba4f3_16 (by decide) (fun c16 => absurd rfl c16) (fun c16 => ?_)
    refine rw_iload_0 C dJ6_getChars_ba4f3_19 ?_
    refine rw_ineg C dJ6_getChars_ba4f3_20 ?_
    refine rw_istore_0 C dJ6_getChars_ba4f3_21 ?_
    exact L22 (v.toInt.natAbs + 1) _ p _ f _ _ 0 (Nat.lt_succ_self _) zNgLe31 (zNgOf hv) (by rw [← e]; exact hp) (Nat.le_refl _) (by rw [if_neg hv]) hf (fun g2 h1 _ => h1) rfl
  · have hv : v < 0 := Int32.not_le.mp c4
    have e : (zTxI v).length = (zDec v.toInt.natAbs).length + 1 := by unfold zTxI; rw [if_pos hv, List.length_append, Nat.add_comm]; rfl
    refine rn_iconst C 1 (by decide) dJ6_getChars_ba4f3_7 ?_
    refine rw_goto C 12 dJ6_getChars_ba4f3_8 (by decide) ?_
    refine rw_istore_6 C rfl dJ6_getChars_ba4f3_12 ?_
    refine rw_iload_6 C dJ6_getChars_ba4f3_14 ?_
    refine rn_if_ne C 22 (by decide) dJ6_getChars_ba4f3_16 (by decide) (fun c16 => ?_) (fun c16 => absurd c16 (by decide))
    exact L22 (v.toInt.natAbs + 1) _ p _ f _ _ 1 (Nat.lt_succ_self _) zNgLe31 (zNgIs hv) (by omega) (Nat.le_refl _) (by rw [if_pos hv]) hf (fun g2 h1 _ => h1) rfl

set_option maxRecDepth 100000 in
set_option maxHeartbeats 4000000 in
theorem d_J5_appendI {l : Launch} (hl : l.stackTraces = false) {G : zG} {w : va_W} {q b cap : Nat} {f : Nat → Int32} {L : List Nat} {v : Int32} (ht : tX f L) (hlc : L.length ≤ cap) (hs : max (L.length + 11) (2 * cap + 2) < 2 ^ 20) : rCR l G mJ5_append_c97b9 4 1 (tCost cap (L.length + (zTxI v).length)) [.ref q, .int v] ((q, eSb b L.length) :: (b, eBy G cap f) :: w) (fun r ws' => r = some (.ref q) ∧ ∃ b2 f2, ws' = (q, eSb b2 (L ++ zTxI v).length) :: (b2, eBy G (tCap cap (L.length + (zTxI v).length)) f2) :: w ∧ tX f2 (L ++ zTxI v)) := by
  have h11 := zTxI_le (v := v)
  refine rCR.of hl (by decide) (by simp [Value.category]) (Nat.le_of_ble_eq_true rfl) (ls := [some (.ref q), some (.int v), none, none]) rfl (fun X C hF => ?_)
  refine rw_aload_0 C dJ5_append_c97b9_0 ?_
  refine rp_get C (k := 0) (j := 3) fJ5_79 rfl rfl dJ5_append_c97b9_1 ?_
  refine rw_istore_2 C rfl dJ5_append_c97b9_4 ?_
  refine rw_iload_2 C dJ5_append_c97b9_5 ?_
  refine rw_iload_1 C dJ5_append_c97b9_6 ?_
  refine rw_callS (as := [.int v]) C vJ6_stringSize_0f7a4 lJ5_245 dJ5_append_c97b9_7 rfl (by simp [Value.category]) (d_J6_stringSize hl) (by decide) (by decide) (by omega) (fun r ws2 hq => ?_)
  obtain ⟨rfl, rfl⟩ := hq
  refine rn_iadd C dJ5_append_c97b9_10 ?_
  refine rw_istore_3 C rfl dJ5_append_c97b9_11 ?_
  refine rw_aload_0 C dJ5_append_c97b9_12 ?_
  refine rw_iload_3 C dJ5_append_c97b9_13 ?_
  refine rw_callP (as := [zi (L.length + (zTxI v).length)]) C pJ5_ensureCapacityInternal_d00df kJ5_100 (k0 := 0) rfl dJ5_append_c97b9_14 rfl (by simp [Value.category]) (d_J5_ensure hl ht.2.1 (by omega)) (by decide) (by decide) (by omega) (fun r ws2 hq => ?_)
  obtain ⟨rfl, b2, f2, rfl, hf2, hk2⟩ := hq
  have ht2 : tX f2 L := ⟨fun j hj => by rw [hk2 j (by omega)]; exact ht.1 j hj, hf2, ht.2.2⟩
  have hge := tCap_ge (cap := cap) (m := L.length + (zTxI v).length)
  have hle : tCap cap (L.length + (zTxI v).length) < 2 ^ 20 := by unfold tCap; split <;> omega
  refine rw_aload_0 C dJ5_append_c97b9_17 ?_
  refine rw_callU (as := []) C uJ5_isLatin1_aae02 wSbIL kJ5_83 (k0 := 0) rfl dJ5_append_c97b9_18 rfl (by simp) (d_J5_isLatin1 hl (k := 0) rfl) (by decide) (by decide) (by omega) (fun r ws2 hq => ?_)
  obtain ⟨rfl, rfl⟩ := hq
  refine rn_if_eq C 37 (by decide) dJ5_append_c97b9_21 (by decide) (fun c21 => absurd c21 (by decide)) (fun c21 => ?_)
  refine rw_iload_1 C dJ5_append_c97b9_24 ?_
  refine rw_iload_3 C dJ5_append_c97b9_25 ?_
  refine rw_aload_0 C dJ5_append_c97b9_26 ?_
  refine rp_get C (k := 0) (j := 0) fJ5_15 rfl rfl dJ5_append_c97b9_27 ?_
  refine rw_callS (as := [.int v, zi (L.length + (zTxI v).length), .ref b2]) C vJ6_getChars_ba4f3 lJ5_248 dJ5_append_c97b9_30 rfl (by simp [Value.category]) (d_J6_getChars hl hf2 (by omega) (by omega) hle) (by decide) (by decide) (by omega) (fun r ws2 hq => ?_)
  obtain ⟨f3, rfl, rfl, h3⟩ := hq
  rw [Nat.add_sub_cancel] at h3
  refine rw_pop C rfl dJ5_append_c97b9_33 ?_
  refine rw_goto C 48 dJ5_append_c97b9_34 (by decide) ?_
  refine rw_aload_0 C dJ5_append_c97b9_48 ?_
  refine rw_iload_3 C dJ5_append_c97b9_49 ?_
  refine rp_put C (k := 0) (j := 3) fJ5_79 rfl rfl rfl rfl rfl (by decide) rfl dJ5_append_c97b9_50 ?_
  refine rw_aload_0 C dJ5_append_c97b9_53 ?_
  exact rw_aret C rfl rfl hF dJ5_append_c97b9_54 (by omega) (by omega) ⟨rfl, b2, f3, by rw [List.length_append]; rfl, h3.tX ht2 zTxI_lt⟩

set_option maxRecDepth 100000 in
set_option maxHeartbeats 4000000 in
theorem d_J4_appendI {l : Launch} (hl : l.stackTraces = false) {G : zG} {w : va_W} {q b cap : Nat} {f : Nat → Int32} {L : List Nat} {v : Int32} (ht : tX f L) (hlc : L.length ≤ cap) (hs : max (L.length + 11) (2 * cap + 2) < 2 ^ 20) : rCR l G mJ4_append_bf812 5 1 (tCost cap (L.length + (zTxI v).length)) [.ref q, .int v] ((q, eSb b L.length) :: (b, eBy G cap f) :: w) (fun r ws' => r = some (.ref q) ∧ ∃ b2 f2, ws' = (q, eSb b2 (L ++ zTxI v).length) :: (b2, eBy G (tCap cap (L.length + (zTxI v).length)) f2) :: w ∧ tX f2 (L ++ zTxI v)) := by
  refine rCR.of hl (by decide) (by simp [Value.category]) (Nat.le_of_ble_eq_true rfl) (ls := [some (.ref q), some (.int v)]) rfl (fun X C hF => ?_)
  refine rw_aload_0 C dJ4_append_bf812_0 ?_
  refine rw_iload_1 C dJ4_append_bf812_1 ?_
  refine rw_callSup (as := [.int v]) C rfl uJ5_append_c97b9 kJ4_53 (k0 := 0) rfl dJ4_append_bf812_2 rfl (by simp) (d_J5_appendI hl ht hlc hs) (by decide) (by decide) (by omega) (fun r ws2 hq => ?_)
  obtain ⟨rfl, b2, f2, rfl, hf2⟩ := hq
  refine rw_pop C rfl dJ4_append_bf812_5 ?_
  refine rw_aload_0 C dJ4_append_bf812_6 ?_
  exact rw_aret C rfl rfl hF dJ4_append_bf812_7 (by omega) (by omega) ⟨rfl, b2, f2, rfl, hf2⟩
