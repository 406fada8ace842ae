/-! the lines written -/
theorem zPutc_o {S : zS} {c a b : Nat} (h : a ≠ 10) (h2 : a ≠ 11) : zPutc S c a b = S a b := by
  unfold zPutc; rw [zU_o h2, zU_o h]; exact zSbR_o h2 (fun q => h q.1)
theorem zPuti_o {S : zS} {c a b : Nat} (h : a ≠ 10) (h2 : a ≠ 11) : zPuti S c a b = S a b := by
  unfold zPuti; rw [zU_o h, zDgs_o h2]; exact zSbR_o h2 (fun q => h q.1)
theorem zEmp_o {S : zS} {a b : Nat} (h : a ≠ 10) : zEmp S a b = S a b := by
  unfold zEmp; rw [zU_o h]; split
  · rfl
  · exact zU_o h
theorem zPutc_len {S : zS} {c : Nat} : zPutc S c 10 3 = S 10 3 + 1 := by unfold zPutc; rw [zU_o (by decide), zU_s]
theorem zPuti_len {S : zS} {c : Nat} : zPuti S c 10 3 = S 10 3 + zSz c := by unfold zPuti; rw [zU_s]
theorem zEmp_len {S : zS} : zEmp S 10 3 = 0 := by unfold zEmp; rw [zU_s]
/-- the sign of a listener -/
def zSgn (S : zS) (r e : Nat) : Nat := if (S (33 + 2 * r) 3).testBit e then 43 else if (S (33 + 2 * r) 4).testBit e then 45 else 46
theorem zSgn_lt {S : zS} {r e : Nat} : zSgn S r e < 128 := by unfold zSgn; split
                                                              · decide
                                                              · split <;> decide
/-- a rumour's line -/
def zRR0 (S : zS) (r : Nat) : zS := zPuti (zPutc (zPuti (zPutc (zEmp S) 114) r) 58) (S (33 + 2 * r) 1)
def zRR1 (S : zS) (r : Nat) : zS := if S (33 + 2 * r) 2 = 0 then zPutc (zRR0 S r) 120 else zRR0 S r
def zRR (S : zS) (n r : Nat) : zS := zIt (fun e q => zPutc q (zSgn S r e)) n (zRR1 S r)
/-- a hive's line -/
def zRHs (m e : Nat) (q : zS) : zS := if m.testBit e then zPuti (if 0 < q 10 3 then zPutc q 44 else q) e else q
def zRH (S : zS) (n x : Nat) : zS := zIt (fun e q => zRHs (zMem S n x) e q) n (zEmp S)
theorem zRR0_o {S : zS} {r a b : Nat} (h : a ≠ 10) (h2 : a ≠ 11) : zRR0 S r a b = S a b := by
  unfold zRR0; rw [zPuti_o h h2, zPutc_o h h2, zPuti_o h h2, zPutc_o h h2, zEmp_o h]
theorem zRR1_o {S : zS} {r a b : Nat} (h : a ≠ 10) (h2 : a ≠ 11) : zRR1 S r a b = S a b := by
  unfold zRR1; split
  · rw [zPutc_o h h2, zRR0_o h h2]
  · exact zRR0_o h h2
theorem zRHs_o {m e a b : Nat} {q : zS} (h : a ≠ 10) (h2 : a ≠ 11) : zRHs m e q a b = q a b := by
  unfold zRHs; split
  · rw [zPuti_o h h2]; split
    · exact zPutc_o h h2
    · rfl
  · rfl

set_option maxRecDepth 100000 in
set_option maxHeartbeats 4000000 in
theorem c_X5_renderRumour {l : Launch} (hl : l.stackTraces = false) {G : zG} {S : zS} {J : Int64} {E : UInt64} {n t : Nat} (hw : zNow S n t) (hG : G.2.2.1 298 ≠ 1) (B : zSB S) {x : Nat} (hx : x < 2 ^ 32) (hxt : x < t) : nCR l G mX5_renderRumour 6 18 612 [.ref 0, zi x] S J E (some (zi (zRR S n x 10 3))) (zRR S n x) J E := by
  refine nCR.of hl (by decide) rfl (Nat.le_of_ble_eq_true rfl) (ls := [some (.ref 0), some (zi x), none, none]) rfl (fun X C hF hX => ?_)
  subst hX
  obtain ⟨hn, hz, ht, ht4, hnb, hhv, hdb, hru⟩ := id hw
  obtain ⟨f1, f2, f3, f4⟩ := hru x (by omega)
  have B0 := zEmp_sb B
  have l0 : zEmp S 10 3 = 0 := zEmp_len
  have B1 := zPutc_sb (c := 114) B0 (by omega) (by decide)
  have l1 : zPutc (zEmp S) 114 10 3 = 1 := by rw [zPutc_len, l0]
  have B2 := zPuti_sb (x := x) B1 (by omega) (by omega)
  have l2 : zPuti (zPutc (zEmp S) 114) x 10 3 = 2 := by rw [zPuti_len, l1]; unfold zSz; rw [if_pos (by omega)]
  have B3 := zPutc_sb (c := 58) B2 (by omega) (by decide)
  have l3 : zPutc (zPuti (zPutc (zEmp S) 114) x) 58 10 3 = 3 := by rw [zPutc_len, l2]
  have B4 : zSB (zRR0 S x) := zPuti_sb (x := S (33 + 2 * x) 1) B3 (by omega) (by omega)
  have l4 : zRR0 S x 10 3 = 4 := by unfold zRR0; rw [zPuti_len, l3]; unfold zSz; rw [if_pos (by omega)]
  refine sw_aload_0 C dX5_renderRumour_0 ?_
  refine sw_iload_1 C dX5_renderRumour_1 ?_
  refine sn_cV1v C vX5_needRumour lX5_117 rfl (by decide) rfl rfl dX5_renderRumour_2 (Nat.le_of_ble_eq_true rfl) (c_X5_needRumour hl ht ht4 hx hxt) (by decide) (by omega) (by omega) ?_
  refine sw_aload_0 C dX5_renderRumour_5 ?_
  refine sw_getR C (o' := 25) fX5_10 rfl (by decide) rfl rfl (by decide) dX5_renderRumour_6 ?_
  refine sw_getR C (o' := 32) fX5_120 rfl (by decide) rfl rfl (by decide) dX5_renderRumour_9 ?_
  refine sw_iload_1 C dX5_renderRumour_12 ?_
  refine sn_aald C (o' := (33 + 2 * x)) rfl (by decide) (by decide) (by omega) (by decide) (zP32 (by omega)) (by omega) dX5_renderRumour_13 ?_
  refine sw_astore_2 C rfl dX5_renderRumour_14 ?_
  refine sw_aload_0 C dX5_renderRumour_15 ?_
  refine sw_getR C (o' := 10) fX5_46 rfl (by decide) rfl rfl (by decide) dX5_renderRumour_16 ?_
  refine sn_iconst C 0 (by decide) dX5_renderRumour_19 ?_
  refine sn_cV1v C vJ4_setLength_d00df lX5_231 rfl (by decide) rfl rfl dX5_renderRumour_20 (Nat.le_of_ble_eq_true rfl) (c_J4_setLength hl hG B) (by decide) (by omega) (by omega) ?_
  refine sw_aload_0 C dX5_renderRumour_23 ?_
  refine sw_getR C (o' := 10) fX5_46 rfl (by decide) rfl rfl (by decide) dX5_renderRumour_24 ?_
  refine sn_bipush C 114 (by decide) dX5_renderRumour_27 ?_
  refine sn_cV1r C vJ4_append_cf468 lX5_234 rfl (by decide) rfl rfl dX5_renderRumour_29 (Nat.le_of_ble_eq_true rfl) (c_J4_appendC hl hG B0 (by omega) (c := 114) (by decide)) (by decide) (by omega) (by omega) ?_
  refine sw_iload_1 C dX5_renderRumour_32 ?_
  refine sn_cV1r C vJ4_append_bf812 lX5_238 rfl (by decide) rfl rfl dX5_renderRumour_33 (Nat.le_of_ble_eq_true rfl) (c_J4_appendI hl hG B1 (by omega) (x := x) (by omega)) (by decide) (by omega) (by omega) ?_
  refine sn_bipush C 58 (by decide) dX5_renderRumour_36 ?_
  refine sn_cV1r C vJ4_append_cf468 lX5_234 rfl (by decide) rfl rfl dX5_renderRumour_38 (Nat.le_of_ble_eq_true rfl) (c_J4_appendC hl hG B2 (by omega) (c := 58) (by decide)) (by decide) (by omega) (by omega) ?_
  refine sw_aload_2 C dX5_renderRumour_41 ?_
  refine sn_getIe C (S (33 + 2 * x) 1) ((zPutc_o (by omega) (by omega)).trans ((zPuti_o (by omega) (by omega)).trans ((zPutc_o (by omega) (by omega)).trans (zEmp_o (by omega))))) fX5_124 (zRu0 (by omega)).1 (zRu0 (by omega)).2.1 rfl dX5_renderRumour_42 ?_
  refine sn_cV1r C vJ4_append_bf812 lX5_238 rfl (by decide) rfl rfl dX5_renderRumour_45 (Nat.le_of_ble_eq_true rfl) (c_J4_appendI hl hG B3 (by omega) (x := S (33 + 2 * x) 1) (by omega)) (by decide) (by omega) (by omega) ?_
  refine sw_pop C rfl dX5_renderRumour_48 ?_
  refine sw_aload_2 C dX5_renderRumour_49 ?_
  refine sn_getIe C (S (33 + 2 * x) 2) (zRR0_o (S := S) (r := x) (by omega) (by omega)) fX5_127 (zRu0 (by omega)).1 (zRu0 (by omega)).2.1 rfl dX5_renderRumour_50 ?_
  refine sn_if_ne C 66 (by omega) dX5_renderRumour_53 (by decide) (fun c53 => ?_) (fun c53 => ?_)
  · refine sn_iconst C 0 (by decide) dX5_renderRumour_66 ?_
    refine sw_istore_3 C rfl dX5_renderRumour_67 ?_
    have L68 : ∀ (kM i : Nat) (q : zS) (aa : Nat) (bb : Nat), i ≤ n → (∀ a b, a ≠ 10 → a ≠ 11 → q a b = S a b) → (zSB q) → (q 10 3 ≤ 5 + i) → (aa ≤ 6 + i) → (bb ≤ 34 * (6 + i)) → (q = zIt (fun e q => zPutc q (zSgn S x e)) i (zRR1 S x)) → n - i < kM → SN G X aa bb 68 [some (.ref 0), some (zi x), some (.ref (33 + 2 * x)), some (zi i)] [] q J E := by
      intro kM
      induction kM with
      | zero => intro i q aa bb _ _ _ _ _ _ _ hkM; exact absurd hkM (by omega)
      | succ kM ih68 =>
        intro i q aa bb hi hfr hB hlen ha hb hq hkM
        have hqn : q 26 0 = n := (hfr 26 0 (by decide) (by decide)).trans hn
        have hsg : (if (q (33 + 2 * x) 3).testBit i then 43 else if (q (33 + 2 * x) 4).testBit i then 45 else 46) = zSgn S x i := by unfold zSgn; rw [hfr _ 3 (by omega) (by omega), hfr _ 4 (by omega) (by omega)]
        refine sw_iload_3 C dX5_renderRumour_68 ?_
        refine sw_aload_0 C dX5_renderRumour_69 ?_
        refine sw_getR C (o' := 25) fX5_10 rfl (by decide) rfl rfl (by decide) dX5_renderRumour_70 ?_
        refine sw_getR C (o' := 26) fX5_65 rfl (by decide) rfl rfl (by decide) dX5_renderRumour_73 ?_
        refine sn_getIe C (n) hqn fX5_69 rfl (by decide) rfl dX5_renderRumour_76 ?_
        refine sn_icmp_ge C 101 (by omega) (by omega) dX5_renderRumour_79 (by decide) (fun c79 => ?_) (fun c79 => ?_)
        · refine sw_aload_0 C dX5_renderRumour_101 ?_
          refine sw_getR C (o' := 10) fX5_46 rfl (by decide) rfl rfl (by decide) dX5_renderRumour_102 ?_
          refine sn_cV0r C vJ4_length_8abf5 lX5_245 rfl (by decide) rfl rfl dX5_renderRumour_105 (Nat.le_of_ble_eq_true rfl) (c_J4_length hl) (by decide) (by omega) (by omega) ?_
          exact sn_iret C rfl hF dX5_renderRumour_108 (by omega) (by omega) (by rw [hq, show i = n from by omega]; rfl) (by rw [hq, show i = n from by omega]; rfl) rfl rfl
        · refine sw_aload_0 C dX5_renderRumour_82 ?_
          refine sw_getR C (o' := 10) fX5_46 rfl (by decide) rfl rfl (by decide) dX5_renderRumour_83 ?_
          refine sw_aload_2 C dX5_renderRumour_86 ?_
          refine sw_iload_3 C dX5_renderRumour_87 ?_
          refine sn_cV1r (v := zi (zSgn S x i)) C vX2_signOf lX5_241 (zRu0 (by omega)).1 (zRu0 (by omega)).2.1 rfl rfl dX5_renderRumour_88 (Nat.le_of_ble_eq_true rfl) (by rw [← hsg]; exact c_X2_signOf hl (zRu0 (by omega)) (by omega)) (by decide) (by omega) (by omega) ?_
          refine sn_cV1r C vJ4_append_cf468 lX5_234 rfl (by decide) rfl rfl dX5_renderRumour_91 (Nat.le_of_ble_eq_true rfl) (c_J4_appendC hl hG hB (by omega) (c := zSgn S x i) zSgn_lt) (by decide) (by omega) (by omega) ?_
          refine sw_pop C rfl dX5_renderRumour_94 ?_
          refine sn_iinc_3 C rfl dX5_renderRumour_95 ?_
          refine sw_goto C 68 dX5_renderRumour_98 (by decide) ?_
          exact ih68 (i + 1) _ _ _ (by omega) (fun a b h h2 => (zPutc_o h h2).trans (hfr a b h h2)) (zPutc_sb hB (by omega) zSgn_lt) (by rw [zPutc_len]; omega) (by omega) (by omega) (by rw [zIt, ← hq]) (by omega)
    exact L68 _ 0 _ _ _ (by omega) (by first | exact (fun a b h h2 => zRR0_o h h2) | exact (fun a b h h2 => (zPutc_o h h2).trans (zRR0_o h h2))) (by first | exact B4 | exact zPutc_sb B4 (by omega) (by decide)) (by first | (show zRR0 S x 10 3 ≤ _; omega) | (show zPutc (zRR0 S x) 120 10 3 ≤ _; rw [zPutc_len]; omega)) (by omega) (by omega) (by first | exact (show zRR1 S x = _ from if_pos c53).symm | exact (show zRR1 S x = _ from if_neg c53).symm) (Nat.lt_succ_self _)
  · refine sw_aload_0 C dX5_renderRumour_56 ?_
    refine sw_getR C (o' := 10) fX5_46 rfl (by decide) rfl rfl (by decide) dX5_renderRumour_57 ?_
    refine sn_bipush C 120 (by decide) dX5_renderRumour_60 ?_
    refine sn_cV1r C vJ4_append_cf468 lX5_234 rfl (by decide) rfl rfl dX5_renderRumour_62 (Nat.le_of_ble_eq_true rfl) (c_J4_appendC hl hG B4 (by omega) (c := 120) (by decide)) (by decide) (by omega) (by omega) ?_
    refine sw_pop C rfl dX5_renderRumour_65 ?_
    refine sn_iconst C 0 (by decide) dX5_renderRumour_66 ?_
    refine sw_istore_3 C rfl dX5_renderRumour_67 ?_
    have L68 : ∀ (kM i : Nat) (q : zS) (aa : Nat) (bb : Nat), i ≤ n → (∀ a b, a ≠ 10 → a ≠ 11 → q a b = S a b) → (zSB q) → (q 10 3 ≤ 5 + i) → (aa ≤ 6 + i) → (bb ≤ 34 * (6 + i)) → (q = zIt (fun e q => zPutc q (zSgn S x e)) i (zRR1 S x)) → n - i < kM → SN G X aa bb 68 [some (.ref 0), some (zi x), some (.ref (33 + 2 * x)), some (zi i)] [] q J E := by
      intro kM
      induction kM with
      | zero => intro i q aa bb _ _ _ _ _ _ _ hkM; exact absurd hkM (by omega)
      | succ kM ih68 =>
        intro i q aa bb hi hfr hB hlen ha hb hq hkM
        have hqn : q 26 0 = n := (hfr 26 0 (by decide) (by decide)).trans hn
        have hsg : (if (q (33 + 2 * x) 3).testBit i then 43 else if (q (33 + 2 * x) 4).testBit i then 45 else 46) = zSgn S x i := by unfold zSgn; rw [hfr _ 3 (by omega) (by omega), hfr _ 4 (by omega) (by omega)]
        refine sw_iload_3 C dX5_renderRumour_68 ?_
        refine sw_aload_0 C dX5_renderRumour_69 ?_
        refine sw_getR C (o' := 25) fX5_10 rfl (by decide) rfl rfl (by decide) dX5_renderRumour_70 ?_
        refine sw_getR C (o' := 26) fX5_65 rfl (by decide) rfl rfl (by decide) dX5_renderRumour_73 ?_
        refine sn_getIe C (n) hqn fX5_69 rfl (by decide) rfl dX5_renderRumour_76 ?_
        refine sn_icmp_ge C 101 (by omega) (by omega) dX5_renderRumour_79 (by decide) (fun c79 => ?_) (fun c79 => ?_)
        · refine sw_aload_0 C dX5_renderRumour_101 ?_
          refine sw_getR C (o' := 10) fX5_46 rfl (by decide) rfl rfl (by decide) dX5_renderRumour_102 ?_
          refine sn_cV0r C vJ4_length_8abf5 lX5_245 rfl (by decide) rfl rfl dX5_renderRumour_105 (Nat.le_of_ble_eq_true rfl) (c_J4_length hl) (by decide) (by omega) (by omega) ?_
          exact sn_iret C rfl hF dX5_renderRumour_108 (by omega) (by omega) (by rw [hq, show i = n from by omega]; rfl) (by rw [hq, show i = n from by omega]; rfl) rfl rfl
        · refine sw_aload_0 C dX5_renderRumour_82 ?_
          refine sw_getR C (o' := 10) fX5_46 rfl (by decide) rfl rfl (by decide) dX5_renderRumour_83 ?_
          refine sw_aload_2 C dX5_renderRumour_86 ?_
          refine sw_iload_3 C dX5_renderRumour_87 ?_
          refine sn_cV1r (v := zi (zSgn S x i)) C vX2_signOf lX5_241 (zRu0 (by omega)).1 (zRu0 (by omega)).2.1 rfl rfl dX5_renderRumour_88 (Nat.le_of_ble_eq_true rfl) (by rw [← hsg]; exact c_X2_signOf hl (zRu0 (by omega)) (by omega)) (by decide) (by omega) (by omega) ?_
          refine sn_cV1r C vJ4_append_cf468 lX5_234 rfl (by decide) rfl rfl dX5_renderRumour_91 (Nat.le_of_ble_eq_true rfl) (c_J4_appendC hl hG hB (by omega) (c := zSgn S x i) zSgn_lt) (by decide) (by omega) (by omega) ?_
          refine sw_pop C rfl dX5_renderRumour_94 ?_
          refine sn_iinc_3 C rfl dX5_renderRumour_95 ?_
          refine sw_goto C 68 dX5_renderRumour_98 (by decide) ?_
          exact ih68 (i + 1) _ _ _ (by omega) (fun a b h h2 => (zPutc_o h h2).trans (hfr a b h h2)) (zPutc_sb hB (by omega) zSgn_lt) (by rw [zPutc_len]; omega) (by omega) (by omega) (by rw [zIt, ← hq]) (by omega)
    exact L68 _ 0 _ _ _ (by omega) (by first | exact (fun a b h h2 => zRR0_o h h2) | exact (fun a b h h2 => (zPutc_o h h2).trans (zRR0_o h h2))) (by first | exact B4 | exact zPutc_sb B4 (by omega) (by decide)) (by first | (show zRR0 S x 10 3 ≤ _; omega) | (show zPutc (zRR0 S x) 120 10 3 ≤ _; rw [zPutc_len]; omega)) (by omega) (by omega) (by first | exact (show zRR1 S x = _ from if_pos c53).symm | exact (show zRR1 S x = _ from if_neg c53).symm) (Nat.lt_succ_self _)

set_option maxRecDepth 100000 in
set_option maxHeartbeats 4000000 in
theorem t1_X5_renderRumour {l : Launch} (hl : l.stackTraces = false) {G : zG} {S : zS} {J : Int64} {E : UInt64} {n t : Nat} (hw : zNow S n t) {x : Nat} (hx : x < 2 ^ 32) (hxt : ¬ x < t) : nCT l G mX5_renderRumour 6 1 6 [.ref 0, zi x] S J E "java/lang/IndexOutOfBoundsException" S J E := by
  refine nCT.of hl (by decide) rfl (Nat.le_of_ble_eq_true rfl) (ls := [some (.ref 0), some (zi x), none, none]) rfl (fun X C hF hX => ?_)
  subst hX
  obtain ⟨hn, hz, ht, ht4, hnb, hhv, hdb, hru⟩ := id hw
  refine sw_aload_0 C dX5_renderRumour_0 ?_
  refine sw_iload_1 C dX5_renderRumour_1 ?_
  exact sn_cV1T C vX5_needRumour kX5_117 rfl (by decide) rfl rfl dX5_renderRumour_2 (Nat.le_of_ble_eq_true rfl) (t_X5_needRumour hl ht ht4 hx hxt) (by decide) (by decide) (by decide) hF

set_option maxRecDepth 100000 in
set_option maxHeartbeats 4000000 in
theorem c_X5_renderHive {l : Launch} (hl : l.stackTraces = false) {G : zG} {S : zS} {J : Int64} {E : UInt64} {n t : Nat} (hw : zNow S n t) (hG : G.2.2.1 298 ≠ 1) (B : zSB S) {x : Nat} (hx : x < 2 ^ 32) (h4 : x < 4) : nCR l G mX5_renderHive 6 25 850 [.ref 0, zi x] S J E (some (zi (zRH S n x 10 3))) (zRH S n x) J E := by
  refine nCR.of hl (by decide) rfl (Nat.le_of_ble_eq_true rfl) (ls := [some (.ref 0), some (zi x), none, none]) rfl (fun X C hF hX => ?_)
  subst hX
  obtain ⟨hn, hz, ht, ht4, hnb, hhv, hdb, hru⟩ := id hw
  refine sw_iload_1 C dX5_renderHive_0 ?_
  refine sn_cS1v C vX5_needHive lX5_101 dX5_renderHive_1 (Nat.le_of_ble_eq_true rfl) (c_X5_needHive hl hx h4) (by decide) (by omega) (by omega) ?_
  refine sw_aload_0 C dX5_renderHive_4 ?_
  refine sw_getR C (o' := 25) fX5_10 rfl (by decide) rfl rfl (by decide) dX5_renderHive_5 ?_
  refine sw_iload_1 C dX5_renderHive_8 ?_
  refine sn_cV1r C vX3_membersOf lX5_104 rfl (by decide) rfl rfl dX5_renderHive_9 (Nat.le_of_ble_eq_true rfl) (c_X3_membersOf hl hn hz hhv (by omega)) (by decide) (by omega) (by omega) ?_
  refine sw_istore_2 C rfl dX5_renderHive_12 ?_
  refine sw_aload_0 C dX5_renderHive_13 ?_
  refine sw_getR C (o' := 10) fX5_46 rfl (by decide) rfl rfl (by decide) dX5_renderHive_14 ?_
  refine sn_iconst C 0 (by decide) dX5_renderHive_17 ?_
  refine sn_cV1v C vJ4_setLength_d00df lX5_231 rfl (by decide) rfl rfl dX5_renderHive_18 (Nat.le_of_ble_eq_true rfl) (c_J4_setLength hl hG B) (by decide) (by omega) (by omega) ?_
  refine sn_iconst C 0 (by decide) dX5_renderHive_21 ?_
  refine sw_istore_3 C rfl dX5_renderHive_22 ?_
  have L23 : ∀ (kM i : Nat) (q : zS) (aa : Nat) (bb : Nat), i ≤ n → (∀ a b, a ≠ 10 → a ≠ 11 → q a b = S a b) → (zSB q) → (q 10 3 ≤ 2 * i + (i - 10)) → (aa ≤ 1 + 2 * i) → (bb ≤ 34 * (1 + 2 * i)) → (q = zIt (fun e q => zRHs (zMem S n x) e q) i (zEmp S)) → n - i < kM → SN G X aa bb 23 [some (.ref 0), some (zi x), some (zi (zMem S n x)), some (zi i)] [] q J E := by
    intro kM
    induction kM with
    | zero => intro i q aa bb _ _ _ _ _ _ _ hkM; exact absurd hkM (by omega)
    | succ kM ih23 =>
      intro i q aa bb hi hfr hB hlen ha hb hq hkM
      have hqn : q 26 0 = n := (hfr 26 0 (by decide) (by decide)).trans hn
      have hcl : q 10 3 ≤ 34 := by have := hB.2.1; have := hB.2.2.1; omega
      refine sw_iload_3 C dX5_renderHive_23 ?_
      refine sw_aload_0 C dX5_renderHive_24 ?_
      refine sw_getR C (o' := 25) fX5_10 rfl (by decide) rfl rfl (by decide) dX5_renderHive_25 ?_
      refine sw_getR C (o' := 26) fX5_65 rfl (by decide) rfl rfl (by decide) dX5_renderHive_28 ?_
      refine sn_getIe C (n) hqn fX5_69 rfl (by decide) rfl dX5_renderHive_31 ?_
      refine sn_icmp_ge C 80 (by omega) (by omega) dX5_renderHive_34 (by decide) (fun c34 => ?_) (fun c34 => ?_)
      · refine sw_aload_0 C dX5_renderHive_80 ?_
        refine sw_getR C (o' := 10) fX5_46 rfl (by decide) rfl rfl (by decide) dX5_renderHive_81 ?_
        refine sn_cV0r C vJ4_length_8abf5 lX5_245 rfl (by decide) rfl rfl dX5_renderHive_84 (Nat.le_of_ble_eq_true rfl) (c_J4_length hl) (by decide) (by omega) (by omega) ?_
        exact sn_iret C rfl hF dX5_renderHive_87 (by omega) (by omega) (by rw [hq, show i = n from by omega]; rfl) (by rw [hq, show i = n from by omega]; rfl) rfl rfl
      · refine sw_iload_2 C dX5_renderHive_37 ?_
        refine sw_iload_3 C dX5_renderHive_38 ?_
        refine sn_cS2r C vX5_contains lX5_136 dX5_renderHive_39 (Nat.le_of_ble_eq_true rfl) (c_X5_contains hl (by omega)) (by decide) (by omega) (by omega) ?_
        refine sn_if_eqB C 74 dX5_renderHive_42 (by decide) (fun c42 => ?_) (fun c42 => ?_)
        · refine sn_iinc_3 C rfl dX5_renderHive_74 ?_
          refine sw_goto C 23 dX5_renderHive_77 (by decide) ?_
          exact ih23 (i + 1) _ _ _ (by omega) (by first | exact hfr | exact (fun a b h h2 => (zPuti_o h h2).trans (hfr a b h h2)) | exact (fun a b h h2 => (zPuti_o h h2).trans ((zPutc_o h h2).trans (hfr a b h h2)))) (by first | exact hB | exact zPuti_sb hB (by omega) (by omega) | exact zPuti_sb (zPutc_sb hB (by omega) (by decide)) (by omega) (by rw [zPutc_len]; omega)) (by first | omega | (rw [zPuti_len, zPutc_len]; unfold zSz; split <;> omega) | (rw [zPuti_len]; unfold zSz; split <;> omega)) (by omega) (by omega) (by rw [zIt, ← hq]; first | (unfold zRHs; rw [if_neg (by rw [c42]; decide)]; done) | (unfold zRHs; rw [if_pos c42, if_pos c52]; done) | (unfold zRHs; rw [if_pos c42, if_neg (by omega)]; done)) (by omega)
        · refine sw_aload_0 C dX5_renderHive_45 ?_
          refine sw_getR C (o' := 10) fX5_46 rfl (by decide) rfl rfl (by decide) dX5_renderHive_46 ?_
          refine sn_cV0r C vJ4_length_8abf5 lX5_245 rfl (by decide) rfl rfl dX5_renderHive_49 (Nat.le_of_ble_eq_true rfl) (c_J4_length hl) (by decide) (by omega) (by omega) ?_
          refine sn_if_le C 65 (by omega) dX5_renderHive_52 (by decide) (fun c52 => ?_) (fun c52 => ?_)
          · refine sw_aload_0 C dX5_renderHive_65 ?_
            refine sw_getR C (o' := 10) fX5_46 rfl (by decide) rfl rfl (by decide) dX5_renderHive_66 ?_
            refine sw_iload_3 C dX5_renderHive_69 ?_
            refine sn_cV1r C vJ4_append_bf812 lX5_238 rfl (by decide) rfl rfl dX5_renderHive_70 (Nat.le_of_ble_eq_true rfl) (by first | exact c_J4_appendI hl hG hB (by omega) (x := i) (by omega) | exact c_J4_appendI hl hG (zPutc_sb hB (by omega) (by decide)) (by rw [zPutc_len]; omega) (x := i) (by omega)) (by decide) (by omega) (by omega) ?_
            refine sw_pop C rfl dX5_renderHive_73 ?_
            refine sn_iinc_3 C rfl dX5_renderHive_74 ?_
            refine sw_goto C 23 dX5_renderHive_77 (by decide) ?_
            exact ih23 (i + 1) _ _ _ (by omega) (by first | exact hfr | exact (fun a b h h2 => (zPuti_o h h2).trans (hfr a b h h2)) | exact (fun a b h h2 => (zPuti_o h h2).trans ((zPutc_o h h2).trans (hfr a b h h2)))) (by first | exact hB | exact zPuti_sb hB (by omega) (by omega) | exact zPuti_sb (zPutc_sb hB (by omega) (by decide)) (by omega) (by rw [zPutc_len]; omega)) (by first | omega | (rw [zPuti_len, zPutc_len]; unfold zSz; split <;> omega) | (rw [zPuti_len]; unfold zSz; split <;> omega)) (by omega) (by omega) (by rw [zIt, ← hq]; first | (unfold zRHs; rw [if_neg (by rw [c42]; decide)]; done) | (unfold zRHs; rw [if_pos c42, if_pos c52]; done) | (unfold zRHs; rw [if_pos c42, if_neg (by omega)]; done)) (by omega)
          · refine sw_aload_0 C dX5_renderHive_55 ?_
            refine sw_getR C (o' := 10) fX5_46 rfl (by decide) rfl rfl (by decide) dX5_renderHive_56 ?_
            refine sn_bipush C 44 (by decide) dX5_renderHive_59 ?_
            refine sn_cV1r C vJ4_append_cf468 lX5_234 rfl (by decide) rfl rfl dX5_renderHive_61 (Nat.le_of_ble_eq_true rfl) (c_J4_appendC hl hG hB (by omega) (c := 44) (by decide)) (by decide) (by omega) (by omega) ?_
            refine sw_pop C rfl dX5_renderHive_64 ?_
            refine sw_aload_0 C dX5_renderHive_65 ?_
            refine sw_getR C (o' := 10) fX5_46 rfl (by decide) rfl rfl (by decide) dX5_renderHive_66 ?_
            refine sw_iload_3 C dX5_renderHive_69 ?_
            refine sn_cV1r C vJ4_append_bf812 lX5_238 rfl (by decide) rfl rfl dX5_renderHive_70 (Nat.le_of_ble_eq_true rfl) (by first | exact c_J4_appendI hl hG hB (by omega) (x := i) (by omega) | exact c_J4_appendI hl hG (zPutc_sb hB (by omega) (by decide)) (by rw [zPutc_len]; omega) (x := i) (by omega)) (by decide) (by omega) (by omega) ?_
            refine sw_pop C rfl dX5_renderHive_73 ?_
            refine sn_iinc_3 C rfl dX5_renderHive_74 ?_
            refine sw_goto C 23 dX5_renderHive_77 (by decide) ?_
            exact ih23 (i + 1) _ _ _ (by omega) (by first | exact hfr | exact (fun a b h h2 => (zPuti_o h h2).trans (hfr a b h h2)) | exact (fun a b h h2 => (zPuti_o h h2).trans ((zPutc_o h h2).trans (hfr a b h h2)))) (by first | exact hB | exact zPuti_sb hB (by omega) (by omega) | exact zPuti_sb (zPutc_sb hB (by omega) (by decide)) (by omega) (by rw [zPutc_len]; omega)) (by first | omega | (rw [zPuti_len, zPutc_len]; unfold zSz; split <;> omega) | (rw [zPuti_len]; unfold zSz; split <;> omega)) (by omega) (by omega) (by rw [zIt, ← hq]; first | (unfold zRHs; rw [if_neg (by rw [c42]; decide)]; done) | (unfold zRHs; rw [if_pos c42, if_pos c52]; done) | (unfold zRHs; rw [if_pos c42, if_neg (by omega)]; done)) (by omega)
  exact L23 _ 0 _ _ _ (by omega) (fun a b h h2 => zEmp_o h) (zEmp_sb B) (by rw [zEmp_len]; omega) (by omega) (by omega) rfl (Nat.lt_succ_self _)

set_option maxRecDepth 100000 in
set_option maxHeartbeats 4000000 in
theorem t1_X5_renderHive {l : Launch} (hl : l.stackTraces = false) {G : zG} {S : zS} {J : Int64} {E : UInt64} {n t : Nat} (hw : zNow S n t) {x : Nat} (hx : x < 2 ^ 32) (h4 : ¬ x < 4) : nCT l G mX5_renderHive 6 1 6 [.ref 0, zi x] S J E "java/lang/IndexOutOfBoundsException" S J E := by
  refine nCT.of hl (by decide) rfl (Nat.le_of_ble_eq_true rfl) (ls := [some (.ref 0), some (zi x), none, none]) rfl (fun X C hF hX => ?_)
  subst hX
  obtain ⟨hn, hz, ht, ht4, hnb, hhv, hdb, hru⟩ := id hw
  refine sw_iload_1 C dX5_renderHive_0 ?_
  exact sn_cS1T C vX5_needHive kX5_101 dX5_renderHive_1 (Nat.le_of_ble_eq_true rfl) (t_X5_needHive hl hx h4) (by decide) (by decide) (by decide) hF

set_option maxRecDepth 100000 in
set_option maxHeartbeats 4000000 in
theorem c_X5_outputAt {l : Launch} (hl : l.stackTraces = false) {G : zG} {S : zS} {J : Int64} {E : UInt64} (hG : G.2.2.1 298 ≠ 1) (B : zSB S) {x : Nat} (hx : x < S 10 3) : nCR l G mX5_outputAt 6 0 0 [.ref 0, zi x] S J E (some (zi (S 11 x))) S J E := by
  refine nCR.of hl (by decide) rfl (Nat.le_of_ble_eq_true rfl) (ls := [some (.ref 0), some (zi x)]) rfl (fun X C hF hX => ?_)
  subst hX
  have hcl : S 10 3 ≤ 34 := by have := B.2.1; have := B.2.2.1; omega
  have hb := B.2.2.2 x
  refine sw_iload_1 C dX5_outputAt_0 ?_
  refine sn_if_lt C 15 (by omega) dX5_outputAt_1 (by decide) (fun c1 => ?_) (fun c1 => ?_)
  · exfalso; first | omega | (simp_all; done) | (simp_all; omega)
  · refine sw_iload_1 C dX5_outputAt_4 ?_
    refine sw_aload_0 C dX5_outputAt_5 ?_
    refine sw_getR C (o' := 10) fX5_46 rfl (by decide) rfl rfl (by decide) dX5_outputAt_6 ?_
    refine sn_cV0r C vJ4_length_8abf5 lX5_245 rfl (by decide) rfl rfl dX5_outputAt_9 (Nat.le_of_ble_eq_true rfl) (c_J4_length hl) (by decide) (by decide) (by decide) ?_
    refine sn_icmp_lt C 25 (by omega) (by omega) dX5_outputAt_12 (by decide) (fun c12 => ?_) (fun c12 => ?_)
    · refine sw_aload_0 C dX5_outputAt_25 ?_
      refine sw_getR C (o' := 10) fX5_46 rfl (by decide) rfl rfl (by decide) dX5_outputAt_26 ?_
      refine sw_iload_1 C dX5_outputAt_29 ?_
      refine sn_cV1r C vJ4_charAt_5068e lX5_253 rfl (by decide) rfl rfl dX5_outputAt_30 (Nat.le_of_ble_eq_true rfl) (c_J4_charAt hl hG B hx) (by decide) (by decide) (by decide) ?_
      exact sn_cret C (by omega) rfl hF dX5_outputAt_33 (by decide) (by decide) (by first | rfl | (simp [*]; done)) rfl rfl rfl
    · exfalso; first | omega | (simp_all; done) | (simp_all; omega)

set_option maxRecDepth 100000 in
set_option maxHeartbeats 4000000 in
theorem t1_X5_outputAt {l : Launch} (hl : l.stackTraces = false) {G : zG} {S : zS} {J : Int64} {E : UInt64} (B : zSB S) {x : Nat} (hx : x < 2 ^ 32) (hx3 : ¬ x < S 10 3) : nCT l G mX5_outputAt 6 1 6 [.ref 0, zi x] S J E "java/lang/IndexOutOfBoundsException" S J E := by
  refine nCT.of hl (by decide) rfl (Nat.le_of_ble_eq_true rfl) (ls := [some (.ref 0), some (zi x)]) rfl (fun X C hF hX => ?_)
  subst hX
  have hcl : S 10 3 ≤ 34 := by have := B.2.1; have := B.2.2.1; omega
  refine sw_iload_1 C dX5_outputAt_0 ?_
  refine sn_if_lt C 15 (by omega) dX5_outputAt_1 (by decide) (fun c1 => ?_) (fun c1 => ?_)
  · exact sw_throw C (text := "no such index of the output text") zThI qX5_248 (by decide +kernel) hF dX5_outputAt_15 dX5_outputAt_18 dX5_outputAt_19 dX5_outputAt_21 dX5_outputAt_24 (by decide) (Nat.le_of_ble_eq_true rfl) (by decide) (by decide)
  · refine sw_iload_1 C dX5_outputAt_4 ?_
    refine sw_aload_0 C dX5_outputAt_5 ?_
    refine sw_getR C (o' := 10) fX5_46 rfl (by decide) rfl rfl (by decide) dX5_outputAt_6 ?_
    refine sn_cV0r C vJ4_length_8abf5 lX5_245 rfl (by decide) rfl rfl dX5_outputAt_9 (Nat.le_of_ble_eq_true rfl) (c_J4_length hl) (by decide) (by decide) (by decide) ?_
    refine sn_icmp_lt C 25 (by omega) (by omega) dX5_outputAt_12 (by decide) (fun c12 => ?_) (fun c12 => ?_)
    · omega
    · exact sw_throw C (text := "no such index of the output text") zThI qX5_248 (by decide +kernel) hF dX5_outputAt_15 dX5_outputAt_18 dX5_outputAt_19 dX5_outputAt_21 dX5_outputAt_24 (by decide) (Nat.le_of_ble_eq_true rfl) (by decide) (by decide)
