/-- a form against the text from p on: whole or not, and the reader's numbers: reached, how many, first, second -/
def zMt (S : zS) (k : Nat) : Nat → Nat → Nat → Nat → Nat → Nat → Bool × Nat × Nat × Nat × Nat
  | 0, _, r, m, f, s => (true, r, m, f, s)
  | n + 1, i, r, m, f, s =>
    if (zTake S (zFch k i) r m f s).1 then zMt S k n (i + 1) (zTake S (zFch k i) r m f s).2.1 (zTake S (zFch k i) r m f s).2.2.1 (zTake S (zFch k i) r m f s).2.2.2.1 (zTake S (zFch k i) r m f s).2.2.2.2
    else (false, (zTake S (zFch k i) r m f s).2)
def zMatch (S : zS) (k p : Nat) : Bool × Nat × Nat × Nat × Nat := zMt S k (zFl k) 0 p 0 0 0
theorem zTake_len {S : zS} {w r m f s : Nat} (hr : r ≤ S 5 1) : (zTake S w r m f s).2.1 ≤ S 5 1 := by
  unfold zTake
  split
  · exact zDig_len _ _ _ hr
  · split
    · simp; omega
    · exact hr
theorem zTake_m {S : zS} {w r m f s : Nat} : (zTake S w r m f s).2.2.1 ≤ m + 1 := by
  unfold zTake
  split
  · exact Nat.le_refl _
  · split <;> simp
theorem zMt_len {S : zS} {k : Nat} : ∀ (n i r m f s : Nat), r ≤ S 5 1 → (zMt S k n i r m f s).2.1 ≤ S 5 1 := by
  intro n
  induction n with
  | zero => intro i r m f s h; exact h
  | succ n ih =>
    intro i r m f s h
    rw [zMt]
    split
    · exact ih _ _ _ _ _ (zTake_len h)
    · exact zTake_len h
theorem zMatch_len {S : zS} {k p : Nat} (h : p ≤ S 5 1) : (zMatch S k p).2.1 ≤ S 5 1 := zMt_len _ _ _ _ _ _ h
/-- the memory after a match -/
def zMmem (S : zS) (k p : Nat) : zS := zScr S (zMatch S k p).2.1 (zMatch S k p).1.toNat (zMatch S k p).2.2.1 (zMatch S k p).2.2.2.1 (zMatch S k p).2.2.2.2
theorem zFch_lt {k i : Nat} (hk : k < 10) (hi : i < zFl k) : zFch k i < 128 := (zFch_eq ⟨k, hk⟩ ⟨i, by have : zFl k ≤ 10 := zFl_le ⟨k, hk⟩; omega⟩ hi).2

set_option maxRecDepth 100000 in
set_option maxHeartbeats 4000000 in
theorem c_X4_match {l : Launch} (hl : l.stackTraces = false) {G : zG} {S : zS} {J : Int64} {E : UInt64} {r c m f s : Nat} (htx : zTxt S) {k p : Nat} (hk : k < 10) (hp : p ≤ S 5 1) : nCR l G mX4_match 4 0 0 [.ref 5, zi k, zi p] (zScr S r c m f s) J E none (zMmem S k p) J E := by
  refine nCR.of hl (by decide) rfl (Nat.le_of_ble_eq_true rfl) (ls := [some (.ref 5), some (zi k), some (zi p), none, none]) rfl (fun X C hF hX => ?_)
  subst hX
  have hl60 := htx.1
  have hfl9 : zFl k ≤ 10 := zFl_le ⟨k, hk⟩
  refine sw_iload_1 C dX4_match_0 ?_
  refine sn_cS1r C vX4_formOf lX4_79 dX4_match_1 (Nat.le_of_ble_eq_true rfl) (c_X4_formOf hl hk) (by decide) (by decide) (by decide) ?_
  refine sw_astore_3 C rfl dX4_match_4 ?_
  refine sw_aload_0 C dX4_match_5 ?_
  refine sw_iload_2 C dX4_match_6 ?_
  refine sn_putI C fX4_32 rfl (by decide) rfl rfl dX4_match_7 ?_
  rw [zScr_6]
  refine sw_aload_0 C dX4_match_10 ?_
  refine sn_iconst C 0 (by decide) dX4_match_11 ?_
  refine sn_putZN C (by decide) fX4_35 rfl (by decide) rfl rfl dX4_match_12 ?_
  rw [zScr_7]
  refine sw_aload_0 C dX4_match_15 ?_
  refine sn_iconst C 0 (by decide) dX4_match_16 ?_
  refine sn_putI C fX4_39 rfl (by decide) rfl rfl dX4_match_17 ?_
  rw [zScr_8]
  refine sw_aload_0 C dX4_match_20 ?_
  refine sn_iconst C 0 (by decide) dX4_match_21 ?_
  refine sn_putI C fX4_42 rfl (by decide) rfl rfl dX4_match_22 ?_
  rw [zScr_9]
  refine sw_aload_0 C dX4_match_25 ?_
  refine sn_iconst C 0 (by decide) dX4_match_26 ?_
  refine sn_putI C fX4_45 rfl (by decide) rfl rfl dX4_match_27 ?_
  rw [zScr_10]
  refine sn_iconst C 0 (by decide) dX4_match_30 ?_
  refine sw_istore_4 C rfl dX4_match_31 ?_
  have L33 : ∀ (kM i : Nat) (r : Nat) (m : Nat) (f : Nat) (s : Nat), i ≤ zFl k → (r ≤ S 5 1) → (m ≤ i) → (zMt S k (zFl k - i) i r m f s = zMatch S k p) → zFl k - i < kM → SN G X 0 0 33 [some (.ref 5), some (zi k), some (zi p), some (.ref (300 + k)), some (zi i)] [] (zScr S r 0 m f s) J E := by
    intro kM
    induction kM with
    | zero => intro i r m f s _ _ _ _ hkM; exact absurd hkM (by omega)
    | succ kM ih33 =>
      intro i r m f s hi hr hm hq hkM
      refine sw_iload_4 C dX4_match_33 ?_
      refine sw_aload_3 C dX4_match_35 ?_
      refine sn_cX0r C vJ0_length_8abf5 lX4_83 hk rfl dX4_match_36 (Nat.le_of_ble_eq_true rfl) (c_J0_length_8abf5 hl hk) (by decide) (by decide) (by decide) ?_
      refine sn_icmp_ge C 62 (by have h9 : zFl k ≤ 10 := zFl_le ⟨k, hk⟩; omega) (by have h9 : zFl k ≤ 10 := zFl_le ⟨k, hk⟩; omega) dX4_match_39 (by decide) (fun c39 => ?_) (fun c39 => ?_)
      · refine sw_aload_0 C dX4_match_62 ?_
        refine sn_iconst C 1 (by decide) dX4_match_63 ?_
        refine sn_putZN C (by decide) fX4_35 rfl (by decide) rfl rfl dX4_match_64 ?_
        rw [zScr_7]
        exact sn_vret C rfl hF dX4_match_67 (by decide) (by decide) (by
            rw [show zFl k - i = 0 from by omega] at hq
            unfold zMmem
            rw [← hq]
            rfl) rfl rfl
      · refine sw_aload_0 C dX4_match_42 ?_
        refine sw_aload_3 C dX4_match_43 ?_
        refine sw_iload_4 C dX4_match_44 ?_
        have hi2 : i < zFl k := by omega
        refine sn_cX1r C vJ0_charAt_5068e lX4_88 hk rfl dX4_match_46 (Nat.le_of_ble_eq_true rfl) (c_J0_charAt_5068e hl hk hi2) (by decide) (by decide) (by decide) ?_
        refine sn_cV1r C vX4_takes lX4_92 rfl (by decide) rfl rfl dX4_match_49 (Nat.le_of_ble_eq_true rfl) (c_X4_takes hl htx hr (by have := zFch_lt hk hi2; omega) (by omega)) (by decide) (by decide) (by decide) ?_
        refine sn_if_neB C 56 dX4_match_52 (by decide) (fun c52 => ?_) (fun c52 => ?_)
        · refine sn_iinc_4 C rfl dX4_match_56 ?_
          refine sw_goto C 33 dX4_match_59 (by decide) ?_
          exact ih33 (i + 1) _ _ _ _ (by omega) (zTake_len hr) (by have := zTake_m (S := S) (w := zFch k i) (r := r) (m := m) (f := f) (s := s); omega) (by rw [show zFl k - i = zFl k - (i + 1) + 1 from by omega, zMt, if_pos (by simpa using c52)] at hq; exact hq) (by omega)
        · exact sn_vret C rfl hF dX4_match_55 (by decide) (by decide) (by
              rw [show zFl k - i = zFl k - (i + 1) + 1 from by omega, zMt, if_neg (by simpa using c52)] at hq
              unfold zMmem
              rw [← hq]
              rfl) rfl rfl
  exact L33 _ 0 _ _ _ _ (by omega) hp (by omega) rfl (Nat.lt_succ_self _)

/-- a command kept -/
def zKc (Q : zS) (k f s : Nat) : zS := zU (zU (zU (zU Q 7 (Q 5 5) k) 8 (Q 5 5) (if k = 8 then 1 else f)) 9 (Q 5 5) s) 5 5 (Q 5 5 + 1)
/-- a command kept at place i -/
def zKq (i : Nat) (Q : zS) (k f s : Nat) : zS := zU (zU (zU (zU Q 7 i k) 8 i (if k = 8 then 1 else f)) 9 i s) 5 5 (i + 1)
theorem zKq_c {i : Nat} {Q : zS} {k f s : Nat} : zKq i Q k f s = zKc (zU Q 5 5 i) k f s := by
  unfold zKq zKc
  rw [zU_s]
  funext x y
  unfold zU
  by_cases h : x = 5 ∧ y = 5
  · obtain ⟨rfl, rfl⟩ := h; simp
  · simp [h]
theorem zScr_off {S : zS} {r c m f s a b v : Nat} (h : a ≠ 5 ∨ b < 6) : zU (zScr S r c m f s) a b v = zScr (zU S a b v) r c m f s := by
  funext x y; unfold zU zScr
  by_cases h1 : x = a ∧ y = b
  · obtain ⟨rfl, rfl⟩ := h1
    rcases h with h | h
    · simp [h]
    · have h6 : x ≠ 5 ∨ x = 5 := by omega
      simp; intro _; (repeat' split) <;> first | rfl | omega
  · simp [h1]

set_option maxRecDepth 100000 in
set_option maxHeartbeats 4000000 in
theorem c_X4_keepCommand {l : Launch} (hl : l.stackTraces = false) {G : zG} {S : zS} {J : Int64} {E : UInt64} {r c m f s : Nat} (htx : zTxt S) {i k : Nat} (hk : k < 10) (hi : i < 60) : nCR l G mX4_keepCommand 1 0 0 [.ref 5, zi i, zi k] (zScr S r c m f s) J E none (zScr (zKq i S k f s) r c m f s) J E := by
  refine nCR.of hl (by decide) rfl (Nat.le_of_ble_eq_true rfl) (ls := [some (.ref 5), some (zi i), some (zi k)]) rfl (fun X C hF hX => ?_)
  subst hX
  have hl60 := htx.1
  refine sw_aload_0 C dX4_keepCommand_0 ?_
  refine sw_getR C (o' := 7) fX4_19 rfl (by decide) rfl rfl (by decide) dX4_keepCommand_1 ?_
  refine sw_iload_1 C dX4_keepCommand_4 ?_
  refine sw_iload_2 C dX4_keepCommand_5 ?_
  refine sn_iast C rfl (by decide) (by omega) (by decide) dX4_keepCommand_6 ?_
  rw [zScr_off (Or.inl (by decide))]
  refine sw_aload_0 C dX4_keepCommand_7 ?_
  refine sw_getR C (o' := 8) fX4_23 rfl (by decide) rfl rfl (by decide) dX4_keepCommand_8 ?_
  refine sw_iload_1 C dX4_keepCommand_11 ?_
  refine sw_iload_2 C dX4_keepCommand_12 ?_
  refine sn_bipush C 8 (by decide) dX4_keepCommand_13 ?_
  refine sn_icmp_ne C 22 (by omega) (by omega) dX4_keepCommand_15 (by decide) (fun c15 => ?_) (fun c15 => ?_)
  · refine sw_aload_0 C dX4_keepCommand_22 ?_
    refine sn_getIe C (f) rfl fX4_42 rfl (by decide) rfl dX4_keepCommand_23 ?_
    refine sn_iast C rfl (by decide) (by omega) (by decide) dX4_keepCommand_26 ?_
    rw [zScr_off (Or.inl (by decide))]
    refine sw_aload_0 C dX4_keepCommand_27 ?_
    refine sw_getR C (o' := 9) fX4_26 rfl (by decide) rfl rfl (by decide) dX4_keepCommand_28 ?_
    refine sw_iload_1 C dX4_keepCommand_31 ?_
    refine sw_aload_0 C dX4_keepCommand_32 ?_
    refine sn_getIe C (s) rfl fX4_45 rfl (by decide) rfl dX4_keepCommand_33 ?_
    refine sn_iast C rfl (by decide) (by omega) (by decide) dX4_keepCommand_36 ?_
    rw [zScr_off (Or.inl (by decide))]
    refine sw_aload_0 C dX4_keepCommand_37 ?_
    refine sw_iload_1 C dX4_keepCommand_38 ?_
    refine sn_iconst C 1 (by decide) dX4_keepCommand_39 ?_
    refine sn_iadd C dX4_keepCommand_40 ?_
    refine sn_putI C fX4_29 rfl (by decide) rfl rfl dX4_keepCommand_41 ?_
    rw [zScr_off (Or.inr (by decide))]
    exact sn_vret C rfl hF dX4_keepCommand_44 (by decide) (by decide) (by unfold zKq; first | rw [if_pos c15] | rw [if_neg c15]) rfl rfl
  · refine sn_iconst C 1 (by decide) dX4_keepCommand_18 ?_
    refine sw_goto C 26 dX4_keepCommand_19 (by decide) ?_
    refine sn_iast C rfl (by decide) (by omega) (by decide) dX4_keepCommand_26 ?_
    rw [zScr_off (Or.inl (by decide))]
    refine sw_aload_0 C dX4_keepCommand_27 ?_
    refine sw_getR C (o' := 9) fX4_26 rfl (by decide) rfl rfl (by decide) dX4_keepCommand_28 ?_
    refine sw_iload_1 C dX4_keepCommand_31 ?_
    refine sw_aload_0 C dX4_keepCommand_32 ?_
    refine sn_getIe C (s) rfl fX4_45 rfl (by decide) rfl dX4_keepCommand_33 ?_
    refine sn_iast C rfl (by decide) (by omega) (by decide) dX4_keepCommand_36 ?_
    rw [zScr_off (Or.inl (by decide))]
    refine sw_aload_0 C dX4_keepCommand_37 ?_
    refine sw_iload_1 C dX4_keepCommand_38 ?_
    refine sn_iconst C 1 (by decide) dX4_keepCommand_39 ?_
    refine sn_iadd C dX4_keepCommand_40 ?_
    refine sn_putI C fX4_29 rfl (by decide) rfl rfl dX4_keepCommand_41 ?_
    rw [zScr_off (Or.inr (by decide))]
    exact sn_vret C rfl hF dX4_keepCommand_44 (by decide) (by decide) (by unfold zKq; first | rw [if_pos c15] | rw [if_neg c15]) rfl rfl

/-- the furthest kind: the kind, and how far it came and one more -/
def zFur (S : zS) (p : Nat) : Nat × Nat := zIt (fun k w => if (zMatch S k p).2.1 < w.2 then w else (k, (zMatch S k p).2.1 + 1)) 10 (0, 0)
theorem zFur_lt (S : zS) (p : Nat) : (zFur S p).1 < 10 := zIt_inv (fun w : Nat × Nat => w.1 < 10) (by decide) (fun i q hi hq => by split <;> first | exact hq | exact hi)
theorem zSb1 (r : Nat) : nI r = nI (r + 1) - nI 1 := by rw [pk_sub (by omega)]; rfl
theorem zGe1 {r g : Nat} (hr : r < 2 ^ 30) (hg : g < 2 ^ 30) : nI r ≤ nI g - nI 1 ↔ r < g := by
  rcases Nat.eq_zero_or_pos g with rfl | h0
  · have e : nI 0 - nI 1 = -1 := by decide
    rw [e]
    constructor
    · intro h
      have h3 : nI 0 ≤ nI r := (nI_leI (by decide) (by omega)).mpr (Nat.zero_le _)
      rw [Int32.le_iff_toInt_le] at h h3
      have e1 : (-1 : Int32).toInt = -1 := by decide
      have e2 : (nI 0).toInt = 0 := by decide
      omega
    · intro h; omega
  · rw [pk_sub h0, nI_leI (by omega) (by omega)]
    omega
theorem zScr_scr {S : zS} {r c m f s r' c' m' f' s' : Nat} : zScr (zScr S r c m f s) r' c' m' f' s' = zScr S r' c' m' f' s' := by
  funext a b; unfold zScr
  by_cases h : a = 5
  · simp only [h, if_true]
    (repeat' split) <;> first | rfl | omega
  · simp [h]

set_option maxRecDepth 100000 in
set_option maxHeartbeats 4000000 in
theorem c_X4_furthestKind {l : Launch} (hl : l.stackTraces = false) {G : zG} {S : zS} {J : Int64} {E : UInt64} {r c m f s : Nat} (htx : zTxt S) {p : Nat} (hp : p ≤ S 5 1) : nCR l G mX4_furthestKind 5 0 0 [.ref 5, zi p] (zScr S r c m f s) J E (some (zi (zFur S p).1)) (zMmem S 9 p) J E := by
  refine nCR.of hl (by decide) rfl (Nat.le_of_ble_eq_true rfl) (ls := [some (.ref 5), some (zi p), none, none, none]) rfl (fun X C hF hX => ?_)
  subst hX
  have hl60 := htx.1
  refine sn_iconst C 0 (by decide) dX4_furthestKind_0 ?_
  refine sw_istore_2 C rfl dX4_furthestKind_1 ?_
  refine sn_iconst C 4294967295 (by decide) dX4_furthestKind_2 ?_
  rw [show zi 4294967295 = Value.int (nI 0 - nI 1) from by decide]
  refine sw_istore_3 C rfl dX4_furthestKind_3 ?_
  refine sn_iconst C 0 (by decide) dX4_furthestKind_4 ?_
  refine sw_istore_4 C rfl dX4_furthestKind_5 ?_
  have L7 : ∀ (kM i : Nat) (w : Nat × Nat) (r : Nat) (c : Nat) (m : Nat) (f : Nat) (s : Nat), i ≤ 10 → (w.2 ≤ 61) → (w = zIt (fun k w => if (zMatch S k p).2.1 < w.2 then w else (k, (zMatch S k p).2.1 + 1)) i (0, 0)) → ((i = 10 → zScr S r c m f s = zMmem S 9 p)) → 10 - i < kM → SN G X 0 0 7 [some (.ref 5), some (zi p), some (zi w.1), some (.int (nI w.2 - nI 1)), some (zi i)] [] (zScr S r c m f s) J E := by
    intro kM
    induction kM with
    | zero => intro i w r c m f s _ _ _ _ hkM; exact absurd hkM (by omega)
    | succ kM ih7 =>
      intro i w r c m f s hi hw2 hq hlast hkM
      refine sw_iload_4 C dX4_furthestKind_7 ?_
      refine sn_bipush C 10 (by decide) dX4_furthestKind_9 ?_
      refine sn_icmp_ge C 43 (by omega) (by omega) dX4_furthestKind_11 (by decide) (fun c11 => ?_) (fun c11 => ?_)
      · refine sw_iload_2 C dX4_furthestKind_43 ?_
        exact sn_iret C rfl hF dX4_furthestKind_44 (by decide) (by decide) (by rw [hq, show i = 10 from by omega]; rfl) (by exact hlast (by omega)) rfl rfl
      · refine sw_aload_0 C dX4_furthestKind_14 ?_
        refine sw_iload_4 C dX4_furthestKind_15 ?_
        refine sw_iload_1 C dX4_furthestKind_17 ?_
        refine sn_cV2v C vX4_match lX4_52 rfl (by decide) rfl rfl dX4_furthestKind_18 (Nat.le_of_ble_eq_true rfl) (c_X4_match hl htx (by omega) hp) (by decide) (by decide) (by decide) ?_
        unfold zMmem
        have hml := zMatch_len (S := S) (k := i) hp
        refine sw_aload_0 C dX4_furthestKind_21 ?_
        refine sn_getIe C ((zMatch S i p).2.1) rfl fX4_32 rfl (by decide) rfl dX4_furthestKind_22 ?_
        refine sw_iload_3 C dX4_furthestKind_25 ?_
        refine sw_icmp_le C 37 dX4_furthestKind_26 (by decide) (fun c26 => ?_) (fun c26 => ?_)
        · have c26 := (zGe1 (by omega) (by omega)).mp c26
          refine sn_iinc_4 C rfl dX4_furthestKind_37 ?_
          refine sw_goto C 7 dX4_furthestKind_40 (by decide) ?_
          first | exact ih7 (i + 1) w _ _ _ _ _ (by omega) hw2 (by rw [zIt, ← hq, if_pos c26]) (fun h => by rw [show i = 9 from by omega]; rfl) (by omega) | exact ih7 (i + 1) (i, (zMatch S i p).2.1 + 1) _ _ _ _ _ (by omega) (by have := zMatch_len (S := S) (k := i) hp; simp only; omega) (by rw [zIt, ← hq, if_neg c26]) (fun h => by rw [show i = 9 from by omega]; rfl) (by omega)
        · have c26 := fun q => c26 ((zGe1 (by omega) (by omega)).mpr q)
          refine sw_iload_4 C dX4_furthestKind_29 ?_
          refine sw_istore_2 C rfl dX4_furthestKind_31 ?_
          refine sw_aload_0 C dX4_furthestKind_32 ?_
          refine sn_getIe C ((zMatch S i p).2.1) rfl fX4_32 rfl (by decide) rfl dX4_furthestKind_33 ?_
          rw [show zi (zMatch S i p).2.1 = Value.int (nI ((zMatch S i p).2.1 + 1) - nI 1) from congrArg Value.int (zSb1 _)]
          refine sw_istore_3 C rfl dX4_furthestKind_36 ?_
          refine sn_iinc_4 C rfl dX4_furthestKind_37 ?_
          refine sw_goto C 7 dX4_furthestKind_40 (by decide) ?_
          first | exact ih7 (i + 1) w _ _ _ _ _ (by omega) hw2 (by rw [zIt, ← hq, if_pos c26]) (fun h => by rw [show i = 9 from by omega]; rfl) (by omega) | exact ih7 (i + 1) (i, (zMatch S i p).2.1 + 1) _ _ _ _ _ (by omega) (by have := zMatch_len (S := S) (k := i) hp; simp only; omega) (by rw [zIt, ← hq, if_neg c26]) (fun h => by rw [show i = 9 from by omega]; rfl) (by omega)
  exact L7 _ 0 (0, 0) _ _ _ _ _ (by omega) (by decide) rfl (by omega) (Nat.lt_succ_self _)

/-- the reading of all commands: the error's place or none, and the memory -/
def zRead : Nat → Nat → zS → Nat × zS
  | 0, p, Q => (p, Q)
  | k + 1, p, Q =>
    let kd := (zFur Q p).1
    let t := zMatch Q kd p
    if t.1 = false then (t.2.1, zMmem Q kd p)
    else if t.2.1 = Q 5 1 then (4294967295, zScr (zKc Q kd t.2.2.2.1 t.2.2.2.2) t.2.1 1 t.2.2.1 t.2.2.2.1 t.2.2.2.2)
    else if Q 6 t.2.1 = 59 then zRead k (t.2.1 + 1) (zScr (zKc Q kd t.2.2.2.1 t.2.2.2.2) t.2.1 1 t.2.2.1 t.2.2.2.1 t.2.2.2.2)
    else (t.2.1, zScr (zKc Q kd t.2.2.2.1 t.2.2.2.2) t.2.1 1 t.2.2.1 t.2.2.2.1 t.2.2.2.2)

theorem zScr_g6 {S : zS} {r c m f s : Nat} : zScr S r c m f s 5 6 = r := rfl
theorem zScr_g7 {S : zS} {r c m f s : Nat} : zScr S r c m f s 5 7 = c := rfl
theorem zKc_o {Q : zS} {k f s a b : Nat} (h : a ≠ 7) (h2 : a ≠ 8) (h3 : a ≠ 9) (h4 : a ≠ 5 ∨ b ≠ 5) : zKc Q k f s a b = Q a b := by
  unfold zKc
  rcases h4 with h4 | h4
  · rw [zU_o h4, zU_o h3, zU_o h2, zU_o h]
  · rw [zU_j h4, zU_o h3, zU_o h2, zU_o h]
theorem zKc_n {Q : zS} {k f s : Nat} : zKc Q k f s 5 5 = Q 5 5 + 1 := by unfold zKc; rw [zU_s]
theorem zScr_at {S : zS} {r c m f s a b : Nat} (h : a ≠ 5 ∨ b < 6) : zScr S r c m f s a b = S a b := by
  unfold zScr
  rcases h with h | h
  · simp [h]
  · by_cases h5 : a = 5
    · simp only [h5, if_true]
      (repeat' split) <;> first | rfl | omega
    · simp [h5]

theorem zRead_s {k p kd rr mm ff ss : Nat} {Q : zS} {ok : Bool} (h1 : (zFur Q p).1 = kd) (h2 : zMatch Q kd p = (ok, rr, mm, ff, ss)) : zRead (k + 1) p Q = if ok = false then (rr, zScr Q rr ok.toNat mm ff ss) else if rr = Q 5 1 then (4294967295, zScr (zKc Q kd ff ss) rr 1 mm ff ss) else if Q 6 rr = 59 then zRead k (rr + 1) (zScr (zKc Q kd ff ss) rr 1 mm ff ss) else (rr, zScr (zKc Q kd ff ss) rr 1 mm ff ss) := by
  rw [zRead]
  unfold zMmem
  simp only [h1, h2]
theorem zMmem_s {k p rr mm ff ss : Nat} {Q : zS} {ok : Bool} (h2 : zMatch Q k p = (ok, rr, mm, ff, ss)) : zMmem Q k p = zScr Q rr ok.toNat mm ff ss := by
  unfold zMmem
  rw [h2]
