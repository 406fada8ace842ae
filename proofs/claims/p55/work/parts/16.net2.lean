/-- a link made, a link cut -/
def zJoin (S : zS) (x y : Nat) : zS := zU (zU (zU S 27 x (S 27 x ||| 1 * 2 ^ y)) 27 y ((zU S 27 x (S 27 x ||| 1 * 2 ^ y)) 27 y ||| 1 * 2 ^ x)) 26 1 (S 26 1 + 1)
def zCut (S : zS) (x y : Nat) : zS := zU (zU (zU S 27 x (S 27 x &&& (1 * 2 ^ y ^^^ 4294967295))) 27 y ((zU S 27 x (S 27 x &&& (1 * 2 ^ y ^^^ 4294967295))) 27 y &&& (1 * 2 ^ x ^^^ 4294967295))) 26 1 (S 26 1 + 4294967295)
theorem nI_subw (x : Nat) : nI x - nI 1 = nI (x + 4294967295) := by
  rw [← nI_add, show nI 4294967295 = -1 from by decide, show nI 1 = 1 from rfl, Int32.sub_eq_add_neg]

set_option maxRecDepth 100000 in
set_option maxHeartbeats 4000000 in
theorem c_X1_join {l : Launch} (hl : l.stackTraces = false) {G : zG} {S : zS} {J : Int64} {E : UInt64} {x y : Nat} (hx : x < 12) (hy : y < 12) : nCR l G mX1_join 0 0 0 [.ref 26, zi x, zi y] S J E (some (zi (S 26 1 + 1))) (zJoin S x y) J E := by
  refine nCR.of hl (by decide) rfl (Nat.le_of_ble_eq_true rfl) (ls := [some (.ref 26), some (zi x), some (zi y)]) rfl (fun X C hF hX => ?_)
  subst hX
  refine sw_aload_0 C dX1_join_0 ?_
  refine sw_getR C (o' := 27) fX1_18 rfl (by decide) rfl rfl (by decide) dX1_join_1 ?_
  refine sw_iload_1 C dX1_join_4 ?_
  refine sw_dup2 C rfl rfl dX1_join_5 ?_
  refine sn_iald C rfl (by decide) (by omega) (by decide) dX1_join_6 ?_
  refine sn_iconst C 1 (by decide) dX1_join_7 ?_
  refine sw_iload_2 C dX1_join_8 ?_
  refine sn_ishl C (by omega) dX1_join_9 ?_
  refine sn_ior C dX1_join_10 ?_
  refine sn_iast C rfl (by decide) (by omega) (by decide) dX1_join_11 ?_
  refine sw_aload_0 C dX1_join_12 ?_
  refine sw_getR C (o' := 27) fX1_18 rfl (by decide) rfl rfl (by decide) dX1_join_13 ?_
  refine sw_iload_2 C dX1_join_16 ?_
  refine sw_dup2 C rfl rfl dX1_join_17 ?_
  refine sn_iald C rfl (by decide) (by omega) (by decide) dX1_join_18 ?_
  refine sn_iconst C 1 (by decide) dX1_join_19 ?_
  refine sw_iload_1 C dX1_join_20 ?_
  refine sn_ishl C (by omega) dX1_join_21 ?_
  refine sn_ior C dX1_join_22 ?_
  refine sn_iast C rfl (by decide) (by omega) (by decide) dX1_join_23 ?_
  refine sw_aload_0 C dX1_join_24 ?_
  refine sw_dup C rfl dX1_join_25 ?_
  refine sn_getI C fX1_15 rfl (by decide) rfl dX1_join_26 ?_
  refine sn_iconst C 1 (by decide) dX1_join_29 ?_
  refine sn_iadd C dX1_join_30 ?_
  refine sn_putI C fX1_15 rfl (by decide) rfl rfl dX1_join_31 ?_
  refine sw_aload_0 C dX1_join_34 ?_
  refine sn_getI C fX1_15 rfl (by decide) rfl dX1_join_35 ?_
  exact sn_iret C rfl hF dX1_join_38 (by decide) (by decide) (by rfl) rfl rfl rfl

set_option maxRecDepth 100000 in
set_option maxHeartbeats 4000000 in
theorem c_X1_cut {l : Launch} (hl : l.stackTraces = false) {G : zG} {S : zS} {J : Int64} {E : UInt64} {x y : Nat} (hx : x < 12) (hy : y < 12) : nCR l G mX1_cut 0 0 0 [.ref 26, zi x, zi y] S J E (some (zi (S 26 1 + 4294967295))) (zCut S x y) J E := by
  refine nCR.of hl (by decide) rfl (Nat.le_of_ble_eq_true rfl) (ls := [some (.ref 26), some (zi x), some (zi y)]) rfl (fun X C hF hX => ?_)
  subst hX
  refine sw_aload_0 C dX1_cut_0 ?_
  refine sw_getR C (o' := 27) fX1_18 rfl (by decide) rfl rfl (by decide) dX1_cut_1 ?_
  refine sw_iload_1 C dX1_cut_4 ?_
  refine sw_dup2 C rfl rfl dX1_cut_5 ?_
  refine sn_iald C rfl (by decide) (by omega) (by decide) dX1_cut_6 ?_
  refine sn_iconst C 1 (by decide) dX1_cut_7 ?_
  refine sw_iload_2 C dX1_cut_8 ?_
  refine sn_ishl C (by omega) dX1_cut_9 ?_
  refine sn_iconst C 4294967295 (by decide) dX1_cut_10 ?_
  refine sn_ixor C dX1_cut_11 ?_
  refine sn_iand C dX1_cut_12 ?_
  refine sn_iast C rfl (by decide) (by omega) (by decide) dX1_cut_13 ?_
  refine sw_aload_0 C dX1_cut_14 ?_
  refine sw_getR C (o' := 27) fX1_18 rfl (by decide) rfl rfl (by decide) dX1_cut_15 ?_
  refine sw_iload_2 C dX1_cut_18 ?_
  refine sw_dup2 C rfl rfl dX1_cut_19 ?_
  refine sn_iald C rfl (by decide) (by omega) (by decide) dX1_cut_20 ?_
  refine sn_iconst C 1 (by decide) dX1_cut_21 ?_
  refine sw_iload_1 C dX1_cut_22 ?_
  refine sn_ishl C (by omega) dX1_cut_23 ?_
  refine sn_iconst C 4294967295 (by decide) dX1_cut_24 ?_
  refine sn_ixor C dX1_cut_25 ?_
  refine sn_iand C dX1_cut_26 ?_
  refine sn_iast C rfl (by decide) (by omega) (by decide) dX1_cut_27 ?_
  refine sw_aload_0 C dX1_cut_28 ?_
  refine sw_dup C rfl dX1_cut_29 ?_
  refine sn_getI C fX1_15 rfl (by decide) rfl dX1_cut_30 ?_
  refine sn_iconst C 1 (by decide) dX1_cut_33 ?_
  refine sw_isub C dX1_cut_34 ?_
  rw [nI_subw]
  refine sn_putI C fX1_15 rfl (by decide) rfl rfl dX1_cut_35 ?_
  refine sw_aload_0 C dX1_cut_38 ?_
  refine sn_getI C fX1_15 rfl (by decide) rfl dX1_cut_39 ?_
  exact sn_iret C rfl hF dX1_cut_42 (by decide) (by decide) (by rfl) rfl rfl rfl

set_option maxRecDepth 100000 in
set_option maxHeartbeats 4000000 in
theorem c_X1_rootOf {l : Launch} (hl : l.stackTraces = false) {G : zG} {S : zS} {J : Int64} {E : UInt64} {n : Nat} (hn : S 26 0 = n) (hz : n ≤ 12) {x : Nat} (hx : x < n) (hp : ∀ r, r < n → S 28 r < n) : nCR l G mX1_rootOf 0 0 0 [.ref 26, zi x] S J E (some (zi (zRoot (S 28) (n) x))) S J E := by
  refine nCR.of hl (by decide) rfl (Nat.le_of_ble_eq_true rfl) (ls := [some (.ref 26), some (zi x), none, none]) rfl (fun X C hF hX => ?_)
  subst hX
  refine sw_iload_1 C dX1_rootOf_0 ?_
  refine sw_istore_2 C rfl dX1_rootOf_1 ?_
  refine sn_iconst C 0 (by decide) dX1_rootOf_2 ?_
  refine sw_istore_3 C rfl dX1_rootOf_3 ?_
  have L4 : ∀ (k s : Nat) (r : Nat), s ≤ n → (r < n) → (zRoot (S 28) (n - s) r = zRoot (S 28) (n) x) → n - s < k → SN G X 0 0 4 [some (.ref 26), some (zi x), some (zi r), some (zi s)] [] S J E := by
    intro k
    induction k with
    | zero => intro s r _ _ _ hk; exact absurd hk (by omega)
    | succ k ih4 =>
      intro s r hs hr hw hk
      have hpr := hp r hr
      refine sw_iload_3 C dX1_rootOf_4 ?_
      refine sw_aload_0 C dX1_rootOf_5 ?_
      refine sn_getI C fX1_9 rfl (by decide) rfl dX1_rootOf_6 ?_
      refine sn_icmp_ge C 35 (by omega) (by omega) dX1_rootOf_9 (by decide) (fun c9 => ?_) (fun c9 => ?_)
      · try rw [show n - s = n - (s + 1) + 1 from by omega, zRoot] at hw
        refine sw_iload_2 C dX1_rootOf_35 ?_
        exact sn_iret C rfl hF dX1_rootOf_36 (by decide) (by decide) (by first | (rw [if_pos c19] at hw; exact hw) | (rw [show n - s = 0 from by omega] at hw; exact hw)) rfl rfl rfl
      · refine sw_aload_0 C dX1_rootOf_12 ?_
        refine sw_getR C (o' := 28) fX1_22 rfl (by decide) rfl rfl (by decide) dX1_rootOf_13 ?_
        refine sw_iload_2 C dX1_rootOf_16 ?_
        refine sn_iald C rfl (by decide) (by omega) (by decide) dX1_rootOf_17 ?_
        refine sw_iload_2 C dX1_rootOf_18 ?_
        refine sn_icmp_eq C 35 (by omega) (by omega) dX1_rootOf_19 (by decide) (fun c19 => ?_) (fun c19 => ?_)
        · try rw [show n - s = n - (s + 1) + 1 from by omega, zRoot] at hw
          refine sw_iload_2 C dX1_rootOf_35 ?_
          exact sn_iret C rfl hF dX1_rootOf_36 (by decide) (by decide) (by first | (rw [if_pos c19] at hw; exact hw) | (rw [show n - s = 0 from by omega] at hw; exact hw)) rfl rfl rfl
        · refine sw_aload_0 C dX1_rootOf_22 ?_
          refine sw_getR C (o' := 28) fX1_22 rfl (by decide) rfl rfl (by decide) dX1_rootOf_23 ?_
          refine sw_iload_2 C dX1_rootOf_26 ?_
          refine sn_iald C rfl (by decide) (by omega) (by decide) dX1_rootOf_27 ?_
          refine sw_istore_2 C rfl dX1_rootOf_28 ?_
          refine sn_iinc_3 C rfl dX1_rootOf_29 ?_
          refine sw_goto C 4 dX1_rootOf_32 (by decide) ?_
          exact ih4 (s + 1) _ (by omega) (hp r hr) (by rw [show n - s = n - (s + 1) + 1 from by omega, zRoot, if_neg c19] at hw; exact hw) (by omega)
  exact L4 _ 0 x (by omega) hx rfl (Nat.lt_succ_self _)

set_option maxRecDepth 100000 in
set_option maxHeartbeats 4000000 in
theorem c_X1_unite {l : Launch} (hl : l.stackTraces = false) {G : zG} {S : zS} {J : Int64} {E : UInt64} {n : Nat} (hn : S 26 0 = n) (hz : n ≤ 12) {x y : Nat} (hx : x < n) (hy : y < n) (hp : ∀ r, r < n → S 28 r < n) (h1 : zRoot (S 28) (n) x < n) (h2 : zRoot (S 28) (n) y < n) : nCR l G mX1_unite 1 0 0 [.ref 26, zi x, zi y] S J E (some (zi (!decide (zRoot (S 28) (n) x = zRoot (S 28) (n) y)).toNat)) (zU S 28 (zRoot (S 28) (n) x) (zRoot (S 28) (n) y)) J E := by
  refine nCR.of hl (by decide) rfl (Nat.le_of_ble_eq_true rfl) (ls := [some (.ref 26), some (zi x), some (zi y), none, none]) rfl (fun X C hF hX => ?_)
  subst hX
  refine sw_aload_0 C dX1_unite_0 ?_
  refine sw_iload_1 C dX1_unite_1 ?_
  refine sn_cV1r C vX1_rootOf lX1_51 rfl (by decide) rfl rfl dX1_unite_2 (Nat.le_of_ble_eq_true rfl) (c_X1_rootOf hl hn hz hx hp) (by decide) (by decide) (by decide) ?_
  refine sw_istore_3 C rfl dX1_unite_5 ?_
  refine sw_aload_0 C dX1_unite_6 ?_
  refine sw_iload_2 C dX1_unite_7 ?_
  refine sn_cV1r C vX1_rootOf lX1_51 rfl (by decide) rfl rfl dX1_unite_8 (Nat.le_of_ble_eq_true rfl) (c_X1_rootOf hl hn hz hy hp) (by decide) (by decide) (by decide) ?_
  refine sw_istore_4 C rfl dX1_unite_11 ?_
  refine sw_aload_0 C dX1_unite_13 ?_
  refine sw_getR C (o' := 28) fX1_22 rfl (by decide) rfl rfl (by decide) dX1_unite_14 ?_
  refine sw_iload_3 C dX1_unite_17 ?_
  refine sw_iload_4 C dX1_unite_18 ?_
  refine sn_iast C rfl (by decide) (by omega) (by decide) dX1_unite_20 ?_
  refine sw_iload_3 C dX1_unite_21 ?_
  refine sw_iload_4 C dX1_unite_22 ?_
  refine sn_icmp_eq C 31 (by omega) (by omega) dX1_unite_24 (by decide) (fun c24 => ?_) (fun c24 => ?_)
  · refine sn_iconst C 0 (by decide) dX1_unite_31 ?_
    exact sn_zret C (v := false) rfl hF dX1_unite_32 (by decide) (by decide) (by simp [c24]) rfl rfl rfl
  · refine sn_iconst C 1 (by decide) dX1_unite_27 ?_
    refine sw_goto C 32 dX1_unite_28 (by decide) ?_
    exact sn_zret C (v := true) rfl hF dX1_unite_32 (by decide) (by decide) (by simp [c24]) rfl rfl rfl

theorem zRoot_lt {p : Nat → Nat} {n : Nat} (hp : ∀ r, r < n → p r < n) : ∀ (k r : Nat), r < n → zRoot p k r < n := by
  intro k
  induction k with
  | zero => intro r h; exact h
  | succ k ih =>
    intro r h
    rw [zRoot]
    split
    · exact h
    · exact ih _ (hp r h)
def zUni0 (S : zS) (n : Nat) : zS := zIt (fun i q => zU q 28 i i) n S
/-- one link in the union: pieces left, and the parents -/
def zUniF (n x y : Nat) (q : Nat × zS) : Nat × zS :=
  if (q.2 27 x).testBit y then
    (if zRoot (q.2 28) n x = zRoot (q.2 28) n y then q.1 else q.1 + 4294967295, zU q.2 28 (zRoot (q.2 28) n x) (zRoot (q.2 28) n y))
  else q
theorem zUni0_at {S : zS} {n r : Nat} (h : r < n) : zUni0 S n 28 r = r := by
  unfold zUni0
  induction n with
  | zero => omega
  | succ n ih =>
    rw [zIt]
    by_cases hr : r = n
    · subst hr; exact zU_s
    · rw [zU_j hr]; exact ih (by omega)
theorem zUniF_par {n x y : Nat} {q : Nat × zS} (hp : ∀ r, r < n → q.2 28 r < n) (hx : x < n) (hy : y < n) : ∀ r, r < n → (zUniF n x y q).2 28 r < n := by
  intro r hr
  unfold zUniF
  split
  · by_cases h : r = zRoot (q.2 28) n x
    · subst h; simp only [zU_s]; exact zRoot_lt hp n y hy
    · simp only [zU_j h]; exact hp r hr
  · exact hp r hr
def zUnion (S : zS) (n : Nat) : Nat × zS := zIt (fun x q => zIt (fun y q => zUniF n x y q) x q) n (n, zUni0 S n)
