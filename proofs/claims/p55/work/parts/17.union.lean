set_option maxRecDepth 100000 in
set_option maxHeartbeats 4000000 in
theorem c_X1_piecesByUnion {l : Launch} (hl : l.stackTraces = false) {G : zG} {S : zS} {J : Int64} {E : UInt64} {n : Nat} (hn : S 26 0 = n) (hz : n ≤ 12) : nCR l G mX1_piecesByUnion 2 0 0 [.ref 26] S J E (some (zi (zUnion S n).1)) (zUnion S n).2 J E := by
  refine nCR.of hl (by decide) rfl (Nat.le_of_ble_eq_true rfl) (ls := [some (.ref 26), none, none, none]) rfl (fun X C hF hX => ?_)
  subst hX
  refine sn_iconst C 0 (by decide) dX1_piecesByUnion_0 ?_
  refine sw_istore_1 C rfl dX1_piecesByUnion_1 ?_
  have L2 : ∀ (k i : Nat) (q : zS), i ≤ n → ((∀ o k, o ≠ 28 → q o k = S o k)) → (q = zIt (fun i q => zU q 28 i i) i S) → n - i < k → SN G X 0 0 2 [some (.ref 26), some (zi i), none, none] [] q J E := by
    intro k
    induction k with
    | zero => intro i q _ _ _ hk; exact absurd hk (by omega)
    | succ k ih2 =>
      intro i q hi hfr hq hk
      have hnq : q 26 0 = n := (hfr 26 0 (by decide)).trans hn
      refine sw_iload_1 C dX1_piecesByUnion_2 ?_
      refine sw_aload_0 C dX1_piecesByUnion_3 ?_
      refine sn_getI C fX1_9 rfl (by decide) rfl dX1_piecesByUnion_4 ?_
      refine sn_icmp_ge C 23 (by omega) (by omega) dX1_piecesByUnion_7 (by decide) (fun c7 => ?_) (fun c7 => ?_)
      · have hie : i = n := by omega
        have hpp0 : ∀ r, r < n → q 28 r < n := fun r hr => by
          have h0 := zUni0_at (S := S) hr
          unfold zUni0 at h0
          rw [hq, hie, h0]; exact hr
        refine sw_aload_0 C dX1_piecesByUnion_23 ?_
        refine sn_getI C fX1_9 rfl (by decide) rfl dX1_piecesByUnion_24 ?_
        refine sw_istore_1 C rfl dX1_piecesByUnion_27 ?_
        refine sn_iconst C 0 (by decide) dX1_piecesByUnion_28 ?_
        refine sw_istore_2 C rfl dX1_piecesByUnion_29 ?_
        have L30 : ∀ (k i : Nat) (q : Nat × zS) (u : Option Value), i ≤ n → ((∀ o k, o ≠ 28 → q.2 o k = S o k)) → ((∀ r, r < n → q.2 28 r < n)) → (q = zIt (fun x q => zIt (fun y q => zUniF n x y q) x q) i (n, zUni0 S n)) → n - i < k → SN G X 0 0 30 [some (.ref 26), some (zi q.1), some (zi i), u] [] q.2 J E := by
          intro k
          induction k with
          | zero => intro i q u _ _ _ _ hk; exact absurd hk (by omega)
          | succ k ih30 =>
            intro i q u hi hfr hpp hq hk
            have hnq : q.2 26 0 = n := (hfr 26 0 (by decide)).trans hn
            refine sw_iload_2 C dX1_piecesByUnion_30 ?_
            refine sw_aload_0 C dX1_piecesByUnion_31 ?_
            refine sn_getI C fX1_9 rfl (by decide) rfl dX1_piecesByUnion_32 ?_
            refine sn_icmp_ge C 78 (by omega) (by omega) dX1_piecesByUnion_35 (by decide) (fun c35 => ?_) (fun c35 => ?_)
            · refine sw_iload_1 C dX1_piecesByUnion_78 ?_
              exact sn_iret C rfl hF dX1_piecesByUnion_79 (by decide) (by decide) (by rw [hq, show i = n from by omega]; rfl) (by rw [hq, show i = n from by omega]; rfl) rfl rfl
            · refine sn_iconst C 0 (by decide) dX1_piecesByUnion_38 ?_
              refine sw_istore_3 C rfl dX1_piecesByUnion_39 ?_
              have L40 : ∀ (k j : Nat) (q2 : Nat × zS), j ≤ i → ((∀ o k, o ≠ 28 → q2.2 o k = S o k)) → ((∀ r, r < n → q2.2 28 r < n)) → (q2 = zIt (fun y q => zUniF n i y q) j q) → i - j < k → SN G X 0 0 40 [some (.ref 26), some (zi q2.1), some (zi i), some (zi j)] [] q2.2 J E := by
                intro k
                induction k with
                | zero => intro j q2 _ _ _ _ hk; exact absurd hk (by omega)
                | succ k ih40 =>
                  intro j q2 hj hfr2 hpp2 hq2 hk
                  have hnext : ∀ r, r < n → (zUniF n i j q2).2 28 r < n := zUniF_par hpp2 (by omega) (by omega)
                  refine sw_iload_3 C dX1_piecesByUnion_40 ?_
                  refine sw_iload_2 C dX1_piecesByUnion_41 ?_
                  refine sn_icmp_ge C 72 (by omega) (by omega) dX1_piecesByUnion_42 (by decide) (fun c42 => ?_) (fun c42 => ?_)
                  · refine sn_iinc_2 C rfl dX1_piecesByUnion_72 ?_
                    refine sw_goto C 30 dX1_piecesByUnion_75 (by decide) ?_
                    exact ih30 (i + 1) q2 _ (by omega) hfr2 hpp2 (by rw [zIt, ← hq, hq2, show j = i from by omega]) (by omega)
                  · refine sw_aload_0 C dX1_piecesByUnion_45 ?_
                    refine sw_iload_2 C dX1_piecesByUnion_46 ?_
                    refine sw_iload_3 C dX1_piecesByUnion_47 ?_
                    refine sn_cV2r C vX1_joined lX1_45 rfl (by decide) rfl rfl dX1_piecesByUnion_48 (Nat.le_of_ble_eq_true rfl) (c_X1_joined (S := q2.2) hl (by omega) (by omega)) (by decide) (by decide) (by decide) ?_
                    refine sn_if_eqB C 66 dX1_piecesByUnion_51 (by decide) (fun c51 => ?_) (fun c51 => ?_)
                    · have e2 : zUniF n i j q2 = q2 := by unfold zUniF; rw [c51]; rfl
                      refine sn_iinc_3 C rfl dX1_piecesByUnion_66 ?_
                      refine sw_goto C 40 dX1_piecesByUnion_69 (by decide) ?_
                      have hb := ih40 (j + 1) (zUniF n i j q2) (by omega) (fun o k h => by unfold zUniF; split <;> first | exact (zU_o h).trans (hfr2 o k h) | exact hfr2 o k h) hnext (by rw [zIt, ← hq2]) (by omega)
                      first | (rw [e3] at hb; exact hb) | (rw [e2] at hb; exact hb)
                    · have e2 : zUniF n i j q2 = (if zRoot (q2.2 28) n i = zRoot (q2.2 28) n j then q2.1 else q2.1 + 4294967295, zU q2.2 28 (zRoot (q2.2 28) n i) (zRoot (q2.2 28) n j)) := by unfold zUniF; rw [c51]; rfl
                      have hn2 : q2.2 26 0 = n := (hfr2 26 0 (by decide)).trans hn
                      have h1 := zRoot_lt hpp2 n i (by omega)
                      have h2 := zRoot_lt hpp2 n j (by omega)
                      refine sw_aload_0 C dX1_piecesByUnion_54 ?_
                      refine sw_iload_2 C dX1_piecesByUnion_55 ?_
                      refine sw_iload_3 C dX1_piecesByUnion_56 ?_
                      refine sn_cV2r C vX1_unite lX1_48 rfl (by decide) rfl rfl dX1_piecesByUnion_57 (Nat.le_of_ble_eq_true rfl) (c_X1_unite (S := q2.2) hl hn2 hz (by omega) (by omega) hpp2 h1 h2) (by decide) (by decide) (by decide) ?_
                      refine sn_if_eqB C 66 dX1_piecesByUnion_60 (by decide) (fun c60 => ?_) (fun c60 => ?_)
                      · have e3 : zUniF n i j q2 = (q2.1, zU q2.2 28 (zRoot (q2.2 28) n i) (zRoot (q2.2 28) n j)) := by rw [e2, if_pos (by simpa using c60)]
                        refine sn_iinc_3 C rfl dX1_piecesByUnion_66 ?_
                        refine sw_goto C 40 dX1_piecesByUnion_69 (by decide) ?_
                        have hb := ih40 (j + 1) (zUniF n i j q2) (by omega) (fun o k h => by unfold zUniF; split <;> first | exact (zU_o h).trans (hfr2 o k h) | exact hfr2 o k h) hnext (by rw [zIt, ← hq2]) (by omega)
                        first | (rw [e3] at hb; exact hb) | (rw [e2] at hb; exact hb)
                      · have e3 : zUniF n i j q2 = (q2.1 + 4294967295, zU q2.2 28 (zRoot (q2.2 28) n i) (zRoot (q2.2 28) n j)) := by rw [e2, if_neg (by simpa using c60)]
                        refine sw_iinc_1 C rfl (v := nI (q2.1 + 4294967295)) (by rw [← nI_add]; rfl) dX1_piecesByUnion_63 ?_
                        refine sn_iinc_3 C rfl dX1_piecesByUnion_66 ?_
                        refine sw_goto C 40 dX1_piecesByUnion_69 (by decide) ?_
                        have hb := ih40 (j + 1) (zUniF n i j q2) (by omega) (fun o k h => by unfold zUniF; split <;> first | exact (zU_o h).trans (hfr2 o k h) | exact hfr2 o k h) hnext (by rw [zIt, ← hq2]) (by omega)
                        first | (rw [e3] at hb; exact hb) | (rw [e2] at hb; exact hb)
              exact L40 _ 0 q (by omega) hfr hpp rfl (Nat.lt_succ_self _)
        exact L30 _ 0 (q 26 0, q) _ (by omega) (fun o k h => hfr o k h) hpp0 (by rw [hnq, hq, hie]; rfl) (Nat.lt_succ_self _)
      · refine sw_aload_0 C dX1_piecesByUnion_10 ?_
        refine sw_getR C (o' := 28) fX1_22 rfl (by decide) rfl rfl (by decide) dX1_piecesByUnion_11 ?_
        refine sw_iload_1 C dX1_piecesByUnion_14 ?_
        refine sw_iload_1 C dX1_piecesByUnion_15 ?_
        refine sn_iast C rfl (by decide) (by omega) (by decide) dX1_piecesByUnion_16 ?_
        refine sn_iinc_1 C rfl dX1_piecesByUnion_17 ?_
        refine sw_goto C 2 dX1_piecesByUnion_20 (by decide) ?_
        exact ih2 (i + 1) _ (by omega) (fun o k h => (zU_o h).trans (hfr o k h)) (by rw [zIt, ← hq]) (by omega)
  exact L2 _ 0 S (by omega) (fun _ _ _ => rfl) rfl (Nat.lt_succ_self _)
