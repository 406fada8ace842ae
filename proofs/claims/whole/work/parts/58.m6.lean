theorem zU_zU {S : zS} {o j x y : Nat} : zU (zU S o j x) o j y = zU S o j y := by
  funext a b; unfold zU; by_cases h : a = o ∧ b = j
  · rw [if_pos h, if_pos h]
  · rw [if_neg h, if_neg h, if_neg h]
/-- the distance: steps taken, from a set that grows -/
def rDist (V : Nat → Nat) (n g : Nat) : Nat → Nat → Nat → Nat
  | 0, _, _ => 4294967295
  | k + 1, i, s => if ¬ s &&& g = 0 then i else if rStep V n s s = s then 4294967295 else rDist V n g k (i + 1) (rStep V n s s)

set_option maxRecDepth 100000 in
set_option maxHeartbeats 4000000 in
theorem c_X6_distance {l : Launch} (hl : l.stackTraces = false) {G : zG} {S : zS} {J : Int64} {E : UInt64} {n t : Nat} (hm : mNow S n t) {x y : Nat} (hx : x < 2 ^ 32) (hy : y < 2 ^ 32) : nCR l G mX6_distance 7 0 0 [.ref 12, zi x, zi y] S J E (some (zi (if x < t ∧ y < n then (if rDist (S 13) n (S 13 (41 + 5 * x + 3)) 13 0 (1 * 2 ^ y) = 4294967295 then 0 else rDist (S 13) n (S 13 (41 + 5 * x + 3)) 13 0 (1 * 2 ^ y)) else 0))) (zU S 12 0 (if x < t ∧ y < n then (if rDist (S 13) n (S 13 (41 + 5 * x + 3)) 13 0 (1 * 2 ^ y) = 4294967295 then 2 else 0) else 1)) J E := by
  refine nCR.of hl (by decide) rfl (Nat.le_of_ble_eq_true rfl) (ls := [some (.ref 12), some (zi x), some (zi y), none, none, none, none]) rfl (fun X C hF hX => ?_)
  subst hX
  obtain ⟨hn, hz, ht, ht4, hls, hrs⟩ := id hm
  refine sw_aload_0 C dX6_distance_0 ?_
  refine sw_iload_1 C dX6_distance_1 ?_
  refine sn_cV1r C vX6_isRumour lX6_115 rfl (by decide) rfl rfl dX6_distance_2 (Nat.le_of_ble_eq_true rfl) (c_X6_isRumour hl ht (by omega) hx) (by decide) (by decide) (by decide) ?_
  refine sn_if_eqB C 16 dX6_distance_5 (by decide) (fun c5 => ?_) (fun c5 => ?_)
  · simp only [decide_eq_false_iff_not, decide_eq_true_eq] at c5
    refine sw_aload_0 C dX6_distance_16 ?_
    refine sn_iconst C 1 (by decide) dX6_distance_17 ?_
    refine sn_cV1r C vX6_fail lX6_72 rfl (by decide) rfl rfl dX6_distance_18 (Nat.le_of_ble_eq_true rfl) (c_X6_fail hl) (by decide) (by decide) (by decide) ?_
    exact sn_iret C rfl hF dX6_distance_21 (by decide) (by decide) (by first | (simp [c5, c13]; done) | (simp [c5]; done)) (by first | (simp [c5, c13]; done) | (simp [c5]; done)) rfl rfl
  · simp only [decide_eq_false_iff_not, decide_eq_true_eq] at c5
    refine sw_aload_0 C dX6_distance_8 ?_
    refine sw_iload_2 C dX6_distance_9 ?_
    refine sn_cV1r C vX6_isEar lX6_88 rfl (by decide) rfl rfl dX6_distance_10 (Nat.le_of_ble_eq_true rfl) (c_X6_isEar hl hn (by omega) hy) (by decide) (by decide) (by decide) ?_
    refine sn_if_neB C 22 dX6_distance_13 (by decide) (fun c13 => ?_) (fun c13 => ?_)
    · simp only [decide_eq_false_iff_not, decide_eq_true_eq] at c13
      obtain ⟨g, hg⟩ : ∃ g, S 13 (41 + 5 * x + 3) = g := ⟨_, rfl⟩
      have hg4 : g < 4096 := by have := (hrs x (by omega)).2.2.1; omega
      have hb0 : ¬ 1 * 2 ^ y = 0 := by have := Nat.one_le_two_pow (n := y); omega
      rw [hg] at hF
      refine sw_aload_0 C dX6_distance_22 ?_
      refine sn_iconst C 0 (by decide) dX6_distance_23 ?_
      refine sn_putI C fX6_47 rfl (by decide) rfl rfl dX6_distance_24 ?_
      refine sn_iconst C 1 (by decide) dX6_distance_27 ?_
      refine sw_iload_2 C dX6_distance_28 ?_
      refine sn_ishl C (by omega) dX6_distance_29 ?_
      refine sw_istore_3 C rfl dX6_distance_30 ?_
      refine sn_iconst C 0 (by decide) dX6_distance_31 ?_
      refine sw_istore_4 C rfl dX6_distance_32 ?_
      refine sn_iconst C 0 (by decide) dX6_distance_34 ?_
      refine sw_istore_5 C rfl dX6_distance_35 ?_
      have L37 : ∀ (kM i : Nat) (s : Nat) (w : Nat) (u : Option Value), i ≤ 13 → (s = rE (S 13) n (1 * 2 ^ y) i) → ((i = 0 ∧ w = 0) ∨ (1 ≤ i ∧ i ≤ zpop w + 1 ∧ w = rE (S 13) n (1 * 2 ^ y) (i - 1))) → ((s = w ∧ rDist (S 13) n g 13 0 (1 * 2 ^ y) = 4294967295 ∧ s &&& g = 0) ∨ (¬ s = w ∧ i ≤ 12 ∧ rDist (S 13) n g (13 - i) i s = rDist (S 13) n g 13 0 (1 * 2 ^ y))) → 13 - i < kM → SN G X 0 0 37 [some (.ref 12), some (zi x), some (zi y), some (zi s), some (zi w), some (zi i), u] [] (zU S 12 0 0) J E := by
        intro kM
        induction kM with
        | zero => intro i s w u _ _ _ _ hkM; exact absurd hkM (by omega)
        | succ kM ih37 =>
          intro i s w u hi hs hw hd hkM
          have hs4 : s < 4096 := by rw [hs]; exact rE_lt hz (fun e he => (hls e he).2.2) (zBit_lt (by omega))
          have hw4 : w < 4096 := by
            rcases hw with hw | hw
            · omega
            · rw [hw.2.2]; exact rE_lt hz (fun e he => (hls e he).2.2) (zBit_lt (by omega))
          refine sw_iload_3 C dX6_distance_37 ?_
          refine sw_aload_0 C dX6_distance_38 ?_
          refine sw_getR C (o' := 13) fX6_16 rfl (by decide) rfl rfl (by decide) dX6_distance_39 ?_
          refine sw_iload_1 C dX6_distance_42 ?_
          refine sn_iconst C 3 (by decide) dX6_distance_43 ?_
          refine sn_cS2r C vX6_of lX6_61 dX6_distance_44 (Nat.le_of_ble_eq_true rfl) (c_X6_of hl) (by decide) (by decide) (by decide) ?_
          refine sn_ialde C (g) ((zU_o (by decide)).trans hg) rfl (by decide) (by omega) (by decide) dX6_distance_47 ?_
          refine sn_iand C dX6_distance_48 ?_
          refine sn_if_ne C 110 (by have := zAnd_lt (y := g) hs4; omega) dX6_distance_49 (by decide) (fun c49 => ?_) (fun c49 => ?_)
          · refine sw_iload_3 C dX6_distance_110 ?_
            refine sw_aload_0 C dX6_distance_111 ?_
            refine sw_getR C (o' := 13) fX6_16 rfl (by decide) rfl rfl (by decide) dX6_distance_112 ?_
            refine sw_iload_1 C dX6_distance_115 ?_
            refine sn_iconst C 3 (by decide) dX6_distance_116 ?_
            refine sn_cS2r C vX6_of lX6_61 dX6_distance_117 (Nat.le_of_ble_eq_true rfl) (c_X6_of hl) (by decide) (by decide) (by decide) ?_
            refine sn_ialde C (g) ((zU_o (by decide)).trans hg) rfl (by decide) (by omega) (by decide) dX6_distance_120 ?_
            refine sn_iand C dX6_distance_121 ?_
            refine sn_if_ne C 133 (by have := zAnd_lt (y := g) hs4; omega) dX6_distance_122 (by decide) (fun c122 => ?_) (fun c122 => ?_)
            · refine sw_iload_5 C dX6_distance_133 ?_
              exact sn_iret C rfl hF dX6_distance_135 (by decide) (by decide) (by
                  have hok : x < t ∧ y < n := ⟨by omega, by omega⟩
                  rw [if_pos hok]
                  rcases hd with ⟨hd1, hd2, hd3⟩ | ⟨hd1, hd2, hd3⟩
                  · rw [hd2]; first | rfl | (rw [if_pos rfl]; exact zU_zU) | (exact absurd hd3 (by assumption))
                  · rw [show 13 - i = 12 - i + 1 from by omega, rDist] at hd3
                    first | (rw [if_pos (by assumption)] at hd3; rw [← hd3, if_neg (by omega)]; done) | (exfalso; omega)) (by
                  have hok : x < t ∧ y < n := ⟨by omega, by omega⟩
                  rw [if_pos hok]
                  rcases hd with ⟨hd1, hd2, hd3⟩ | ⟨hd1, hd2, hd3⟩
                  · rw [hd2]; first | rfl | (rw [if_pos rfl]; exact zU_zU) | (exact absurd hd3 (by assumption))
                  · rw [show 13 - i = 12 - i + 1 from by omega, rDist] at hd3
                    first | (rw [if_pos (by assumption)] at hd3; rw [← hd3, if_neg (by omega)]; done) | (exfalso; omega)) rfl rfl
            · refine sw_aload_0 C dX6_distance_125 ?_
              refine sn_iconst C 2 (by decide) dX6_distance_126 ?_
              refine sn_cV1r C vX6_fail lX6_72 rfl (by decide) rfl rfl dX6_distance_127 (Nat.le_of_ble_eq_true rfl) (c_X6_fail hl) (by decide) (by decide) (by decide) ?_
              refine sw_goto C 135 dX6_distance_130 (by decide) ?_
              exact sn_iret C rfl hF dX6_distance_135 (by decide) (by decide) (by
                  have hok : x < t ∧ y < n := ⟨by omega, by omega⟩
                  rw [if_pos hok]
                  rcases hd with ⟨hd1, hd2, hd3⟩ | ⟨hd1, hd2, hd3⟩
                  · rw [hd2]; first | rfl | (rw [if_pos rfl]; exact zU_zU) | (exact absurd hd3 (by assumption))
                  · rw [show 13 - i = 12 - i + 1 from by omega, rDist] at hd3
                    first | (rw [if_pos (by assumption)] at hd3; rw [← hd3, if_neg (by omega)]; done) | (exfalso; omega)) (by
                  have hok : x < t ∧ y < n := ⟨by omega, by omega⟩
                  rw [if_pos hok]
                  rcases hd with ⟨hd1, hd2, hd3⟩ | ⟨hd1, hd2, hd3⟩
                  · rw [hd2]; first | rfl | (rw [if_pos rfl]; exact zU_zU) | (exact absurd hd3 (by assumption))
                  · rw [show 13 - i = 12 - i + 1 from by omega, rDist] at hd3
                    first | (rw [if_pos (by assumption)] at hd3; rw [← hd3, if_neg (by omega)]; done) | (exfalso; omega)) rfl rfl
          · refine sw_iload_3 C dX6_distance_52 ?_
            refine sw_iload_4 C dX6_distance_53 ?_
            refine sn_icmp_eq C 110 (by omega) (by omega) dX6_distance_55 (by decide) (fun c55 => ?_) (fun c55 => ?_)
            · refine sw_iload_3 C dX6_distance_110 ?_
              refine sw_aload_0 C dX6_distance_111 ?_
              refine sw_getR C (o' := 13) fX6_16 rfl (by decide) rfl rfl (by decide) dX6_distance_112 ?_
              refine sw_iload_1 C dX6_distance_115 ?_
              refine sn_iconst C 3 (by decide) dX6_distance_116 ?_
              refine sn_cS2r C vX6_of lX6_61 dX6_distance_117 (Nat.le_of_ble_eq_true rfl) (c_X6_of hl) (by decide) (by decide) (by decide) ?_
              refine sn_ialde C (g) ((zU_o (by decide)).trans hg) rfl (by decide) (by omega) (by decide) dX6_distance_120 ?_
              refine sn_iand C dX6_distance_121 ?_
              refine sn_if_ne C 133 (by have := zAnd_lt (y := g) hs4; omega) dX6_distance_122 (by decide) (fun c122 => ?_) (fun c122 => ?_)
              · refine sw_iload_5 C dX6_distance_133 ?_
                exact sn_iret C rfl hF dX6_distance_135 (by decide) (by decide) (by
                    have hok : x < t ∧ y < n := ⟨by omega, by omega⟩
                    rw [if_pos hok]
                    rcases hd with ⟨hd1, hd2, hd3⟩ | ⟨hd1, hd2, hd3⟩
                    · rw [hd2]; first | rfl | (rw [if_pos rfl]; exact zU_zU) | (exact absurd hd3 (by assumption))
                    · rw [show 13 - i = 12 - i + 1 from by omega, rDist] at hd3
                      first | (rw [if_pos (by assumption)] at hd3; rw [← hd3, if_neg (by omega)]; done) | (exfalso; omega)) (by
                    have hok : x < t ∧ y < n := ⟨by omega, by omega⟩
                    rw [if_pos hok]
                    rcases hd with ⟨hd1, hd2, hd3⟩ | ⟨hd1, hd2, hd3⟩
                    · rw [hd2]; first | rfl | (rw [if_pos rfl]; exact zU_zU) | (exact absurd hd3 (by assumption))
                    · rw [show 13 - i = 12 - i + 1 from by omega, rDist] at hd3
                      first | (rw [if_pos (by assumption)] at hd3; rw [← hd3, if_neg (by omega)]; done) | (exfalso; omega)) rfl rfl
              · refine sw_aload_0 C dX6_distance_125 ?_
                refine sn_iconst C 2 (by decide) dX6_distance_126 ?_
                refine sn_cV1r C vX6_fail lX6_72 rfl (by decide) rfl rfl dX6_distance_127 (Nat.le_of_ble_eq_true rfl) (c_X6_fail hl) (by decide) (by decide) (by decide) ?_
                refine sw_goto C 135 dX6_distance_130 (by decide) ?_
                exact sn_iret C rfl hF dX6_distance_135 (by decide) (by decide) (by
                    have hok : x < t ∧ y < n := ⟨by omega, by omega⟩
                    rw [if_pos hok]
                    rcases hd with ⟨hd1, hd2, hd3⟩ | ⟨hd1, hd2, hd3⟩
                    · rw [hd2]; first | rfl | (rw [if_pos rfl]; exact zU_zU) | (exact absurd hd3 (by assumption))
                    · rw [show 13 - i = 12 - i + 1 from by omega, rDist] at hd3
                      first | (rw [if_pos (by assumption)] at hd3; rw [← hd3, if_neg (by omega)]; done) | (exfalso; omega)) (by
                    have hok : x < t ∧ y < n := ⟨by omega, by omega⟩
                    rw [if_pos hok]
                    rcases hd with ⟨hd1, hd2, hd3⟩ | ⟨hd1, hd2, hd3⟩
                    · rw [hd2]; first | rfl | (rw [if_pos rfl]; exact zU_zU) | (exact absurd hd3 (by assumption))
                    · rw [show 13 - i = 12 - i + 1 from by omega, rDist] at hd3
                      first | (rw [if_pos (by assumption)] at hd3; rw [← hd3, if_neg (by omega)]; done) | (exfalso; omega)) rfl rfl
            · have hin : i + 1 ≤ zpop s + 1 := by
                rcases hw with hw | hw
                · omega
                · obtain ⟨h1, h2, h3⟩ := hw
                  have h4 : ∀ k, w.testBit k = true → s.testBit k = true := fun k hk => by rw [hs, show i = i - 1 + 1 from by omega, rE_s, ← h3]; exact rStep_mono hk
                  have := zpop_lt hw4 hs4 h4 (fun h => c55 h.symm)
                  omega
              have hle := zpop_le s
              refine sw_iload_3 C dX6_distance_58 ?_
              refine sw_istore_4 C rfl dX6_distance_59 ?_
              refine sn_iconst C 0 (by decide) dX6_distance_61 ?_
              refine sw_istore_6 C rfl dX6_distance_62 ?_
              have L64 : ∀ (kM j : Nat) (r : Nat), j ≤ n → (r = zIt (fun e q => if s.testBit e = true then q ||| S 13 (29 + e) else q) j s) → n - j < kM → SN G X 0 0 64 [some (.ref 12), some (zi x), some (zi y), some (zi r), some (zi s), some (zi i), some (zi j)] [] (zU S 12 0 0) J E := by
                intro kM
                induction kM with
                | zero => intro j r _ _ hkM; exact absurd hkM (by omega)
                | succ kM ih64 =>
                  intro j r hj hr hkM
                  refine sw_iload_6 C dX6_distance_64 ?_
                  refine sw_aload_0 C dX6_distance_66 ?_
                  refine sw_getR C (o' := 13) fX6_16 rfl (by decide) rfl rfl (by decide) dX6_distance_67 ?_
                  refine sn_iconst C 0 (by decide) dX6_distance_70 ?_
                  refine sn_ialde C (n) ((zU_o (by decide)).trans hn) rfl (by decide) (by omega) (by decide) dX6_distance_71 ?_
                  refine sn_icmp_ge C 104 (by omega) (by omega) dX6_distance_72 (by decide) (fun c72 => ?_) (fun c72 => ?_)
                  · have ht0 : rStep (S 13) n s s = r := by rw [hr, show j = n from by omega]; rfl
                    have hdn : (r = s ∧ rDist (S 13) n g 13 0 (1 * 2 ^ y) = 4294967295 ∧ r &&& g = 0) ∨ (¬ r = s ∧ i + 1 ≤ 12 ∧ rDist (S 13) n g (13 - (i + 1)) (i + 1) r = rDist (S 13) n g 13 0 (1 * 2 ^ y)) := by
                      rcases hd with hd | ⟨hd1, hd2, hd3⟩
                      · exact absurd hd.1 c55
                      · rw [show 13 - i = 13 - (i + 1) + 1 from by omega, rDist, if_neg (fun h => h c49), ht0] at hd3
                        by_cases hrs2 : r = s
                        · rw [if_pos hrs2] at hd3
                          exact Or.inl ⟨hrs2, hd3.symm, by rw [hrs2]; exact c49⟩
                        · rw [if_neg hrs2] at hd3
                          have h4 : ∀ k, s.testBit k = true → r.testBit k = true := fun k hk => by rw [← ht0]; exact rStep_mono hk
                          have hr4 : r < 4096 := by rw [← ht0]; exact rStep_lt hz (fun e he => (hls e he).2.2) hs4
                          have h5 := zpop_lt hs4 hr4 h4 (fun h => hrs2 h.symm)
                          have h6 := zpop_le r
                          exact Or.inr ⟨hrs2, by omega, hd3⟩
                    refine sn_iinc_5 C rfl dX6_distance_104 ?_
                    refine sw_goto C 37 dX6_distance_107 (by decide) ?_
                    exact ih37 (i + 1) _ _ _ (by omega) (by rw [rE_s, ← hs, ht0]) (Or.inr ⟨by omega, hin, hs⟩) hdn (by omega)
                  · refine sw_iload_4 C dX6_distance_75 ?_
                    refine sw_iload_6 C dX6_distance_77 ?_
                    refine sn_cS2r C vX6_has lX6_91 dX6_distance_79 (Nat.le_of_ble_eq_true rfl) (c_X6_has hl (by omega) (by omega)) (by decide) (by decide) (by decide) ?_
                    refine sn_if_eqB C 98 dX6_distance_82 (by decide) (fun c82 => ?_) (fun c82 => ?_)
                    · refine sn_iinc_6 C rfl dX6_distance_98 ?_
                      refine sw_goto C 64 dX6_distance_101 (by decide) ?_
                      exact ih64 (j + 1) _ (by omega) (by rw [zIt, ← hr]; simp [c82]) (by omega)
                    · refine sw_iload_3 C dX6_distance_85 ?_
                      refine sw_aload_0 C dX6_distance_86 ?_
                      refine sw_getR C (o' := 13) fX6_16 rfl (by decide) rfl rfl (by decide) dX6_distance_87 ?_
                      refine sn_bipush C 29 (by decide) dX6_distance_90 ?_
                      refine sw_iload_6 C dX6_distance_92 ?_
                      refine sn_iadd C dX6_distance_94 ?_
                      refine sn_ialde C (S 13 (29 + j)) (zU_o (by decide)) rfl (by decide) (by omega) (by decide) dX6_distance_95 ?_
                      refine sn_ior C dX6_distance_96 ?_
                      refine sw_istore_3 C rfl dX6_distance_97 ?_
                      refine sn_iinc_6 C rfl dX6_distance_98 ?_
                      refine sw_goto C 64 dX6_distance_101 (by decide) ?_
                      exact ih64 (j + 1) _ (by omega) (by rw [zIt, ← hr]; simp [c82]) (by omega)
              exact L64 _ 0 _ (by omega) rfl (Nat.lt_succ_self _)
      exact L37 _ 0 _ _ _ (by omega) rfl (Or.inl ⟨rfl, rfl⟩) (Or.inr ⟨hb0, by decide, rfl⟩) (Nat.lt_succ_self _)
    · simp only [decide_eq_false_iff_not, decide_eq_true_eq] at c13
      refine sw_aload_0 C dX6_distance_16 ?_
      refine sn_iconst C 1 (by decide) dX6_distance_17 ?_
      refine sn_cV1r C vX6_fail lX6_72 rfl (by decide) rfl rfl dX6_distance_18 (Nat.le_of_ble_eq_true rfl) (c_X6_fail hl) (by decide) (by decide) (by decide) ?_
      exact sn_iret C rfl hF dX6_distance_21 (by decide) (by decide) (by first | (simp [c5, c13]; done) | (simp [c5]; done)) (by first | (simp [c5, c13]; done) | (simp [c5]; done)) rfl rfl

set_option maxRecDepth 100000 in
set_option maxHeartbeats 4000000 in
theorem c_X6_distanceByRelaxation {l : Launch} (hl : l.stackTraces = false) {G : zG} {S : zS} {J : Int64} {E : UInt64} {n t : Nat} (hm : mNow S n t) {x y : Nat} (hx : x < 2 ^ 32) (hy : y < 2 ^ 32) : nCR l G mX6_distanceByRelaxation 8 0 0 [.ref 12, zi x, zi y] S J E (some (zi (if x < t ∧ y < n then (if rDist (S 13) n (S 13 (41 + 5 * x + 3)) 13 0 (1 * 2 ^ y) = 4294967295 then 0 else rDist (S 13) n (S 13 (41 + 5 * x + 3)) 13 0 (1 * 2 ^ y)) else 0))) (zU S 12 0 (if x < t ∧ y < n then (if rDist (S 13) n (S 13 (41 + 5 * x + 3)) 13 0 (1 * 2 ^ y) = 4294967295 then 2 else 0) else 1)) J E := by
  refine nCR.of hl (by decide) rfl (Nat.le_of_ble_eq_true rfl) (ls := [some (.ref 12), some (zi x), some (zi y)]) rfl (fun X C hF hX => ?_)
  subst hX
  obtain ⟨hn, hz, ht, ht4, hls, hrs⟩ := id hm
  refine sw_aload_0 C dX6_distanceByRelaxation_0 ?_
  refine sw_iload_1 C dX6_distanceByRelaxation_1 ?_
  refine sw_iload_2 C dX6_distanceByRelaxation_2 ?_
  refine sn_cV2r C vX6_distance lX6_160 rfl (by decide) rfl rfl dX6_distanceByRelaxation_3 (Nat.le_of_ble_eq_true rfl) (c_X6_distance hl hm hx hy) (by decide) (by decide) (by decide) ?_
  exact sn_iret C rfl hF dX6_distanceByRelaxation_6 (by decide) (by decide) (by first | rfl | (simp [*]; done)) rfl rfl rfl

theorem mHears_row {S Q : zS} {n r : Nat} (h : ∀ b, Q 13 b = S 13 b) : mHears Q n r = mHears S n r := by
  unfold mHears zmk mHrB; simp only [h]
theorem mBel_row {S Q : zS} {n r : Nat} (h : ∀ b, Q 13 b = S 13 b) : mBel Q n r = mBel S n r := by
  unfold mBel zmk mBlB; simp only [h, mHears_row h]
theorem mNow_row {S Q : zS} {n t : Nat} (h : ∀ b, b < 109 → Q 13 b = S 13 b) (hm : mNow S n t) : mNow Q n t := by
  obtain ⟨hn, hz, ht, ht4, hls, hrs⟩ := hm
  refine ⟨(h _ (by decide)).trans hn, hz, (h _ (by decide)).trans ht, ht4, fun e he => ?_, fun r hr => ?_⟩
  · rw [h _ (by omega), h _ (by omega), h _ (by omega)]; exact hls e he
  · rw [h _ (by omega), h _ (by omega), h _ (by omega), h _ (by omega)]; exact hrs r hr

set_option maxRecDepth 100000 in
set_option maxHeartbeats 4000000 in
theorem c_X6_nextSpreaders {l : Launch} (hl : l.stackTraces = false) {G : zG} {S : zS} {J : Int64} {E : UInt64} {n t : Nat} (hm : mNow S n t) {x : Nat} (hx : x < 2 ^ 32) : nCR l G mX6_nextSpreaders 7 0 0 [.ref 12, zi x] S J E (some (zi (if x < t then zpop (mBel S n x) else 0))) (zU S 12 0 (if x < t then 0 else 1)) J E := by
  refine nCR.of hl (by decide) rfl (Nat.le_of_ble_eq_true rfl) (ls := [some (.ref 12), some (zi x)]) rfl (fun X C hF hX => ?_)
  subst hX
  obtain ⟨hn, hz, ht, ht4, hls, hrs⟩ := id hm
  refine sw_aload_0 C dX6_nextSpreaders_0 ?_
  refine sw_aload_0 C dX6_nextSpreaders_1 ?_
  refine sw_iload_1 C dX6_nextSpreaders_2 ?_
  refine sn_cV1r C vX6_isRumour lX6_115 rfl (by decide) rfl rfl dX6_nextSpreaders_3 (Nat.le_of_ble_eq_true rfl) (c_X6_isRumour hl ht (by omega) hx) (by decide) (by decide) (by decide) ?_
  refine sn_if_eqB C 13 dX6_nextSpreaders_6 (by decide) (fun c6 => ?_) (fun c6 => ?_)
  · simp only [decide_eq_false_iff_not, decide_eq_true_eq] at c6
    refine sn_iconst C 1 (by decide) dX6_nextSpreaders_13 ?_
    refine sn_putI C fX6_47 rfl (by decide) rfl rfl dX6_nextSpreaders_14 ?_
    refine sw_aload_0 C dX6_nextSpreaders_17 ?_
    refine sn_getIe C (_) zU_s fX6_47 rfl (by decide) rfl dX6_nextSpreaders_18 ?_
    refine sn_if_ne C 35 (by omega) dX6_nextSpreaders_21 (by decide) (fun c21 => ?_) (fun c21 => ?_)
    · refine sn_iconst C 0 (by decide) dX6_nextSpreaders_35 ?_
      exact sn_iret C rfl hF dX6_nextSpreaders_36 (by decide) (by decide) (by first | (rw [if_pos c6]; exact congrArg zpop (mBel_row (fun b => zU_o (by decide)))) | (simp [c6]; done) | (exfalso; omega)) (by first | (simp [c6]; done) | (exfalso; omega)) rfl rfl
    · refine sw_aload_0 C dX6_nextSpreaders_24 ?_
      refine sw_iload_1 C dX6_nextSpreaders_25 ?_
      refine sn_cV1r C vX6_believes lX6_133 rfl (by decide) rfl rfl dX6_nextSpreaders_26 (Nat.le_of_ble_eq_true rfl) (c_X6_believes hl (mNow_row (fun b _ => zU_o (by decide)) hm) (by omega)) (by decide) (by decide) (by decide) ?_
      refine sn_cS1r C vX6_bits lX6_85 dX6_nextSpreaders_29 (Nat.le_of_ble_eq_true rfl) (c_X6_bits hl (zmk_lt hz _)) (by decide) (by decide) (by decide) ?_
      refine sw_goto C 36 dX6_nextSpreaders_32 (by decide) ?_
      exact sn_iret C rfl hF dX6_nextSpreaders_36 (by decide) (by decide) (by first | (rw [if_pos c6]; exact congrArg zpop (mBel_row (fun b => zU_o (by decide)))) | (simp [c6]; done) | (exfalso; omega)) (by first | (simp [c6]; done) | (exfalso; omega)) rfl rfl
  · simp only [decide_eq_false_iff_not, decide_eq_true_eq] at c6
    refine sn_iconst C 0 (by decide) dX6_nextSpreaders_9 ?_
    refine sw_goto C 14 dX6_nextSpreaders_10 (by decide) ?_
    refine sn_putI C fX6_47 rfl (by decide) rfl rfl dX6_nextSpreaders_14 ?_
    refine sw_aload_0 C dX6_nextSpreaders_17 ?_
    refine sn_getIe C (_) zU_s fX6_47 rfl (by decide) rfl dX6_nextSpreaders_18 ?_
    refine sn_if_ne C 35 (by omega) dX6_nextSpreaders_21 (by decide) (fun c21 => ?_) (fun c21 => ?_)
    · refine sn_iconst C 0 (by decide) dX6_nextSpreaders_35 ?_
      exact sn_iret C rfl hF dX6_nextSpreaders_36 (by decide) (by decide) (by first | (rw [if_pos c6]; exact congrArg zpop (mBel_row (fun b => zU_o (by decide)))) | (simp [c6]; done) | (exfalso; omega)) (by first | (simp [c6]; done) | (exfalso; omega)) rfl rfl
    · refine sw_aload_0 C dX6_nextSpreaders_24 ?_
      refine sw_iload_1 C dX6_nextSpreaders_25 ?_
      refine sn_cV1r C vX6_believes lX6_133 rfl (by decide) rfl rfl dX6_nextSpreaders_26 (Nat.le_of_ble_eq_true rfl) (c_X6_believes hl (mNow_row (fun b _ => zU_o (by decide)) hm) (by omega)) (by decide) (by decide) (by decide) ?_
      refine sn_cS1r C vX6_bits lX6_85 dX6_nextSpreaders_29 (Nat.le_of_ble_eq_true rfl) (c_X6_bits hl (zmk_lt hz _)) (by decide) (by decide) (by decide) ?_
      refine sw_goto C 36 dX6_nextSpreaders_32 (by decide) ?_
      exact sn_iret C rfl hF dX6_nextSpreaders_36 (by decide) (by decide) (by first | (rw [if_pos c6]; exact congrArg zpop (mBel_row (fun b => zU_o (by decide)))) | (simp [c6]; done) | (exfalso; omega)) (by first | (simp [c6]; done) | (exfalso; omega)) rfl rfl

/-- rounds until heard: how many, and the memory -/
def mHL (n t r e : Nat) : Nat → Nat → zS → Nat × zS
  | 0, i, Q => (i, Q)
  | k + 1, i, Q => if (Q 13 (41 + 5 * r + 3) ||| Q 13 (41 + 5 * r + 4)).testBit e = true then (i, Q) else mHL n t r e k (i + 1) (mRds n t 1 Q).2
def mKp (S : zS) : zS := zCp (zU S 12 0 0) 13 16 109
def mRuh (S : zS) (n t r e : Nat) : Nat × zS :=
  if (((mHL n t r e 40 0 (mKp S)).2 13 (41 + 5 * r + 3) ||| (mHL n t r e 40 0 (mKp S)).2 13 (41 + 5 * r + 4)).testBit e) = true then ((mHL n t r e 40 0 (mKp S)).1, zCp (mHL n t r e 40 0 (mKp S)).2 16 13 109)
  else (0, zU (zCp (mHL n t r e 40 0 (mKp S)).2 16 13 109) 12 0 3)
def mRuhF (S : zS) (n t x y : Nat) : Nat × zS :=
  if x < t ∧ y < n then (if (S 13 (41 + 5 * x + 3) ||| S 13 (41 + 5 * x + 4)).testBit y = true then mFl S 2 else mRuh S n t x y) else mFl S 1
theorem mKp_row {S : zS} (b : Nat) : mKp S 13 b = S 13 b := by unfold mKp; rw [zCp_o (by decide)]; exact zU_o (by decide)
theorem mKp_12 {S : zS} (b : Nat) : mKp S 12 b = if b = 0 then 0 else S 12 b := by unfold mKp; rw [zCp_o (by decide)]; simp [zU]

set_option maxRecDepth 100000 in
set_option maxHeartbeats 4000000 in
theorem c_X6_roundsUntilHeard {l : Launch} (hl : l.stackTraces = false) {G : zG} {S : zS} {J : Int64} {E : UInt64} {n t : Nat} (hm : mNow S n t) {x y : Nat} (hx : x < 2 ^ 32) (hy : y < 2 ^ 32) : nCR l G mX6_roundsUntilHeard 8 0 0 [.ref 12, zi x, zi y] S J E (some (zi (mRuhF S n t x y).1)) (mRuhF S n t x y).2 J E := by
  refine nCR.of hl (by decide) rfl (Nat.le_of_ble_eq_true rfl) (ls := [some (.ref 12), some (zi x), some (zi y), none, none, none]) rfl (fun X C hF hX => ?_)
  subst hX
  obtain ⟨hn, hz, ht, ht4, hls, hrs⟩ := id hm
  refine sw_aload_0 C dX6_roundsUntilHeard_0 ?_
  refine sw_iload_1 C dX6_roundsUntilHeard_1 ?_
  refine sn_cV1r C vX6_isRumour lX6_115 rfl (by decide) rfl rfl dX6_roundsUntilHeard_2 (Nat.le_of_ble_eq_true rfl) (c_X6_isRumour hl ht (by omega) hx) (by decide) (by decide) (by decide) ?_
  refine sn_if_eqB C 16 dX6_roundsUntilHeard_5 (by decide) (fun c5 => ?_) (fun c5 => ?_)
  · simp only [decide_eq_false_iff_not, decide_eq_true_eq] at c5
    refine sw_aload_0 C dX6_roundsUntilHeard_16 ?_
    refine sn_iconst C 1 (by decide) dX6_roundsUntilHeard_17 ?_
    refine sn_cV1r C vX6_fail lX6_72 rfl (by decide) rfl rfl dX6_roundsUntilHeard_18 (Nat.le_of_ble_eq_true rfl) (c_X6_fail hl) (by decide) (by decide) (by decide) ?_
    exact sn_iret C rfl hF dX6_roundsUntilHeard_21 (by decide) (by decide) (by unfold mRuhF; rw [if_neg (by omega)]; try rfl) (by unfold mRuhF; rw [if_neg (by omega)]; try rfl) rfl rfl
  · simp only [decide_eq_false_iff_not, decide_eq_true_eq] at c5
    refine sw_aload_0 C dX6_roundsUntilHeard_8 ?_
    refine sw_iload_2 C dX6_roundsUntilHeard_9 ?_
    refine sn_cV1r C vX6_isEar lX6_88 rfl (by decide) rfl rfl dX6_roundsUntilHeard_10 (Nat.le_of_ble_eq_true rfl) (c_X6_isEar hl hn (by omega) hy) (by decide) (by decide) (by decide) ?_
    refine sn_if_neB C 22 dX6_roundsUntilHeard_13 (by decide) (fun c13 => ?_) (fun c13 => ?_)
    · simp only [decide_eq_false_iff_not, decide_eq_true_eq] at c13
      refine sw_aload_0 C dX6_roundsUntilHeard_22 ?_
      refine sw_iload_1 C dX6_roundsUntilHeard_23 ?_
      refine sn_cV1r C vX6_aware lX6_127 rfl (by decide) rfl rfl dX6_roundsUntilHeard_24 (Nat.le_of_ble_eq_true rfl) (c_X6_aware hl (by omega)) (by decide) (by decide) (by decide) ?_
      refine sw_iload_2 C dX6_roundsUntilHeard_27 ?_
      refine sn_cS2r C vX6_has lX6_91 dX6_roundsUntilHeard_28 (Nat.le_of_ble_eq_true rfl) (c_X6_has hl (by have h3 := (hrs x (by omega)).2.2.1; have h4 := (hrs x (by omega)).2.2.2; have := zOr_lt h3 h4; omega) (by omega)) (by decide) (by decide) (by decide) ?_
      refine sn_if_eqB C 40 dX6_roundsUntilHeard_31 (by decide) (fun c31 => ?_) (fun c31 => ?_)
      · refine sw_aload_0 C dX6_roundsUntilHeard_40 ?_
        refine sn_iconst C 0 (by decide) dX6_roundsUntilHeard_41 ?_
        refine sn_putI C fX6_47 rfl (by decide) rfl rfl dX6_roundsUntilHeard_42 ?_
        refine sw_aload_0 C dX6_roundsUntilHeard_45 ?_
        refine sw_getR C (o' := 16) fX6_26 rfl (by decide) rfl rfl (by decide) dX6_roundsUntilHeard_46 ?_
        refine sw_aload_0 C dX6_roundsUntilHeard_49 ?_
        refine sw_getR C (o' := 13) fX6_16 rfl (by decide) rfl rfl (by decide) dX6_roundsUntilHeard_50 ?_
        refine sn_cS2v C vX6_lays lX6_50 dX6_roundsUntilHeard_53 (Nat.le_of_ble_eq_true rfl) (c_X6_lays hl (o := 16) (p := 13) rfl (by decide) rfl (by decide) (by decide)) (by decide) (by decide) (by decide) ?_
        refine sn_iconst C 0 (by decide) dX6_roundsUntilHeard_56 ?_
        refine sw_istore_3 C rfl dX6_roundsUntilHeard_57 ?_
        refine sn_iconst C 0 (by decide) dX6_roundsUntilHeard_58 ?_
        refine sw_istore_4 C rfl dX6_roundsUntilHeard_59 ?_
        have L61 : ∀ (kM i : Nat) (q : zS) (u : Nat), i ≤ 40 → (mNow q n t) → (mHL n t x y (40 - i) i q = mHL n t x y 40 0 (mKp S)) → 40 - i < kM → SN G X 0 0 61 [some (.ref 12), some (zi x), some (zi y), some (zi i), some (zi u), none] [] q J E := by
          intro kM
          induction kM with
          | zero => intro i q u _ _ _ hkM; exact absurd hkM (by omega)
          | succ kM ih61 =>
            intro i q u hi hq hqe hkM
            obtain ⟨hn2, -, ht2, -, -, hrs2⟩ := id hq
            
            refine sw_iload_3 C dX6_roundsUntilHeard_61 ?_
            refine sn_bipush C 40 (by decide) dX6_roundsUntilHeard_62 ?_
            refine sn_icmp_ge C 95 (by omega) (by omega) dX6_roundsUntilHeard_64 (by decide) (fun c64 => ?_) (fun c64 => ?_)
            · refine sw_aload_0 C dX6_roundsUntilHeard_95 ?_
              refine sw_iload_1 C dX6_roundsUntilHeard_96 ?_
              refine sn_cV1r C vX6_aware lX6_127 rfl (by decide) rfl rfl dX6_roundsUntilHeard_97 (Nat.le_of_ble_eq_true rfl) (c_X6_aware hl (by omega)) (by decide) (by decide) (by decide) ?_
              refine sw_iload_2 C dX6_roundsUntilHeard_100 ?_
              refine sn_cS2r C vX6_has lX6_91 dX6_roundsUntilHeard_101 (Nat.le_of_ble_eq_true rfl) (c_X6_has hl (by have h3 := (hrs2 x (by omega)).2.2.1; have h4 := (hrs2 x (by omega)).2.2.2; have := zOr_lt h3 h4; omega) (by omega)) (by decide) (by decide) (by decide) ?_
              refine sw_istore_5 C rfl dX6_roundsUntilHeard_104 ?_
              refine sw_aload_0 C dX6_roundsUntilHeard_106 ?_
              refine sw_getR C (o' := 13) fX6_16 rfl (by decide) rfl rfl (by decide) dX6_roundsUntilHeard_107 ?_
              refine sw_aload_0 C dX6_roundsUntilHeard_110 ?_
              refine sw_getR C (o' := 16) fX6_26 rfl (by decide) rfl rfl (by decide) dX6_roundsUntilHeard_111 ?_
              refine sn_cS2v C vX6_lays lX6_50 dX6_roundsUntilHeard_114 (Nat.le_of_ble_eq_true rfl) (c_X6_lays hl (o := 13) (p := 16) rfl (by decide) rfl (by decide) (by decide)) (by decide) (by decide) (by decide) ?_
              refine sw_iload_5 C dX6_roundsUntilHeard_117 ?_
              refine sn_if_eqB C 126 dX6_roundsUntilHeard_119 (by decide) (fun c119 => ?_) (fun c119 => ?_)
              · refine sw_aload_0 C dX6_roundsUntilHeard_126 ?_
                refine sn_iconst C 3 (by decide) dX6_roundsUntilHeard_127 ?_
                refine sn_cV1r C vX6_fail lX6_72 rfl (by decide) rfl rfl dX6_roundsUntilHeard_128 (Nat.le_of_ble_eq_true rfl) (c_X6_fail hl) (by decide) (by decide) (by decide) ?_
                exact sn_iret C rfl hF dX6_roundsUntilHeard_131 (by decide) (by decide) (by
                    unfold mRuhF
                    rw [if_pos (show x < t ∧ y < n from ⟨by omega, by omega⟩), if_neg (by rw [c31]; decide)]
                    have hL : mHL n t x y 40 0 (mKp S) = (i, q) := by
                      rw [← hqe]
                      by_cases h40 : i = 40
                      · subst h40; rfl
                      · rw [show 40 - i = 39 - i + 1 from by omega, mHL]
                        first | (rw [if_pos (by first | exact c76 | exact c119)]; done) | (exfalso; omega)
                    unfold mRuh
                    rw [hL]
                    first | (rw [if_pos c119]; done) | (rw [if_neg (by rw [c119]; decide)]; done)) (by
                    unfold mRuhF
                    rw [if_pos (show x < t ∧ y < n from ⟨by omega, by omega⟩), if_neg (by rw [c31]; decide)]
                    have hL : mHL n t x y 40 0 (mKp S) = (i, q) := by
                      rw [← hqe]
                      by_cases h40 : i = 40
                      · subst h40; rfl
                      · rw [show 40 - i = 39 - i + 1 from by omega, mHL]
                        first | (rw [if_pos (by first | exact c76 | exact c119)]; done) | (exfalso; omega)
                    unfold mRuh
                    rw [hL]
                    first | (rw [if_pos c119]; done) | (rw [if_neg (by rw [c119]; decide)]; done)) rfl rfl
              · refine sw_iload_3 C dX6_roundsUntilHeard_122 ?_
                refine sw_goto C 131 dX6_roundsUntilHeard_123 (by decide) ?_
                exact sn_iret C rfl hF dX6_roundsUntilHeard_131 (by decide) (by decide) (by
                    unfold mRuhF
                    rw [if_pos (show x < t ∧ y < n from ⟨by omega, by omega⟩), if_neg (by rw [c31]; decide)]
                    have hL : mHL n t x y 40 0 (mKp S) = (i, q) := by
                      rw [← hqe]
                      by_cases h40 : i = 40
                      · subst h40; rfl
                      · rw [show 40 - i = 39 - i + 1 from by omega, mHL]
                        first | (rw [if_pos (by first | exact c76 | exact c119)]; done) | (exfalso; omega)
                    unfold mRuh
                    rw [hL]
                    first | (rw [if_pos c119]; done) | (rw [if_neg (by rw [c119]; decide)]; done)) (by
                    unfold mRuhF
                    rw [if_pos (show x < t ∧ y < n from ⟨by omega, by omega⟩), if_neg (by rw [c31]; decide)]
                    have hL : mHL n t x y 40 0 (mKp S) = (i, q) := by
                      rw [← hqe]
                      by_cases h40 : i = 40
                      · subst h40; rfl
                      · rw [show 40 - i = 39 - i + 1 from by omega, mHL]
                        first | (rw [if_pos (by first | exact c76 | exact c119)]; done) | (exfalso; omega)
                    unfold mRuh
                    rw [hL]
                    first | (rw [if_pos c119]; done) | (rw [if_neg (by rw [c119]; decide)]; done)) rfl rfl
            · refine sw_aload_0 C dX6_roundsUntilHeard_67 ?_
              refine sw_iload_1 C dX6_roundsUntilHeard_68 ?_
              refine sn_cV1r C vX6_aware lX6_127 rfl (by decide) rfl rfl dX6_roundsUntilHeard_69 (Nat.le_of_ble_eq_true rfl) (c_X6_aware hl (by omega)) (by decide) (by decide) (by decide) ?_
              refine sw_iload_2 C dX6_roundsUntilHeard_72 ?_
              refine sn_cS2r C vX6_has lX6_91 dX6_roundsUntilHeard_73 (Nat.le_of_ble_eq_true rfl) (c_X6_has hl (by have h3 := (hrs2 x (by omega)).2.2.1; have h4 := (hrs2 x (by omega)).2.2.2; have := zOr_lt h3 h4; omega) (by omega)) (by decide) (by decide) (by decide) ?_
              refine sn_if_neB C 95 dX6_roundsUntilHeard_76 (by decide) (fun c76 => ?_) (fun c76 => ?_)
              · refine sw_aload_0 C dX6_roundsUntilHeard_95 ?_
                refine sw_iload_1 C dX6_roundsUntilHeard_96 ?_
                refine sn_cV1r C vX6_aware lX6_127 rfl (by decide) rfl rfl dX6_roundsUntilHeard_97 (Nat.le_of_ble_eq_true rfl) (c_X6_aware hl (by omega)) (by decide) (by decide) (by decide) ?_
                refine sw_iload_2 C dX6_roundsUntilHeard_100 ?_
                refine sn_cS2r C vX6_has lX6_91 dX6_roundsUntilHeard_101 (Nat.le_of_ble_eq_true rfl) (c_X6_has hl (by have h3 := (hrs2 x (by omega)).2.2.1; have h4 := (hrs2 x (by omega)).2.2.2; have := zOr_lt h3 h4; omega) (by omega)) (by decide) (by decide) (by decide) ?_
                refine sw_istore_5 C rfl dX6_roundsUntilHeard_104 ?_
                refine sw_aload_0 C dX6_roundsUntilHeard_106 ?_
                refine sw_getR C (o' := 13) fX6_16 rfl (by decide) rfl rfl (by decide) dX6_roundsUntilHeard_107 ?_
                refine sw_aload_0 C dX6_roundsUntilHeard_110 ?_
                refine sw_getR C (o' := 16) fX6_26 rfl (by decide) rfl rfl (by decide) dX6_roundsUntilHeard_111 ?_
                refine sn_cS2v C vX6_lays lX6_50 dX6_roundsUntilHeard_114 (Nat.le_of_ble_eq_true rfl) (c_X6_lays hl (o := 13) (p := 16) rfl (by decide) rfl (by decide) (by decide)) (by decide) (by decide) (by decide) ?_
                refine sw_iload_5 C dX6_roundsUntilHeard_117 ?_
                refine sn_if_eqB C 126 dX6_roundsUntilHeard_119 (by decide) (fun c119 => ?_) (fun c119 => ?_)
                · refine sw_aload_0 C dX6_roundsUntilHeard_126 ?_
                  refine sn_iconst C 3 (by decide) dX6_roundsUntilHeard_127 ?_
                  refine sn_cV1r C vX6_fail lX6_72 rfl (by decide) rfl rfl dX6_roundsUntilHeard_128 (Nat.le_of_ble_eq_true rfl) (c_X6_fail hl) (by decide) (by decide) (by decide) ?_
                  exact sn_iret C rfl hF dX6_roundsUntilHeard_131 (by decide) (by decide) (by
                      unfold mRuhF
                      rw [if_pos (show x < t ∧ y < n from ⟨by omega, by omega⟩), if_neg (by rw [c31]; decide)]
                      have hL : mHL n t x y 40 0 (mKp S) = (i, q) := by
                        rw [← hqe]
                        by_cases h40 : i = 40
                        · subst h40; rfl
                        · rw [show 40 - i = 39 - i + 1 from by omega, mHL]
                          first | (rw [if_pos (by first | exact c76 | exact c119)]; done) | (exfalso; omega)
                      unfold mRuh
                      rw [hL]
                      first | (rw [if_pos c119]; done) | (rw [if_neg (by rw [c119]; decide)]; done)) (by
                      unfold mRuhF
                      rw [if_pos (show x < t ∧ y < n from ⟨by omega, by omega⟩), if_neg (by rw [c31]; decide)]
                      have hL : mHL n t x y 40 0 (mKp S) = (i, q) := by
                        rw [← hqe]
                        by_cases h40 : i = 40
                        · subst h40; rfl
                        · rw [show 40 - i = 39 - i + 1 from by omega, mHL]
                          first | (rw [if_pos (by first | exact c76 | exact c119)]; done) | (exfalso; omega)
                      unfold mRuh
                      rw [hL]
                      first | (rw [if_pos c119]; done) | (rw [if_neg (by rw [c119]; decide)]; done)) rfl rfl
                · refine sw_iload_3 C dX6_roundsUntilHeard_122 ?_
                  refine sw_goto C 131 dX6_roundsUntilHeard_123 (by decide) ?_
                  exact sn_iret C rfl hF dX6_roundsUntilHeard_131 (by decide) (by decide) (by
                      unfold mRuhF
                      rw [if_pos (show x < t ∧ y < n from ⟨by omega, by omega⟩), if_neg (by rw [c31]; decide)]
                      have hL : mHL n t x y 40 0 (mKp S) = (i, q) := by
                        rw [← hqe]
                        by_cases h40 : i = 40
                        · subst h40; rfl
                        · rw [show 40 - i = 39 - i + 1 from by omega, mHL]
                          first | (rw [if_pos (by first | exact c76 | exact c119)]; done) | (exfalso; omega)
                      unfold mRuh
                      rw [hL]
                      first | (rw [if_pos c119]; done) | (rw [if_neg (by rw [c119]; decide)]; done)) (by
                      unfold mRuhF
                      rw [if_pos (show x < t ∧ y < n from ⟨by omega, by omega⟩), if_neg (by rw [c31]; decide)]
                      have hL : mHL n t x y 40 0 (mKp S) = (i, q) := by
                        rw [← hqe]
                        by_cases h40 : i = 40
                        · subst h40; rfl
                        · rw [show 40 - i = 39 - i + 1 from by omega, mHL]
                          first | (rw [if_pos (by first | exact c76 | exact c119)]; done) | (exfalso; omega)
                      unfold mRuh
                      rw [hL]
                      first | (rw [if_pos c119]; done) | (rw [if_neg (by rw [c119]; decide)]; done)) rfl rfl
              · refine sw_iload_4 C dX6_roundsUntilHeard_79 ?_
                refine sw_aload_0 C dX6_roundsUntilHeard_81 ?_
                refine sn_iconst C 1 (by decide) dX6_roundsUntilHeard_82 ?_
                refine sn_cV1r C vX6_rounds lX6_139 rfl (by decide) rfl rfl dX6_roundsUntilHeard_83 (Nat.le_of_ble_eq_true rfl) (c_X6_rounds hl hq (by decide)) (by decide) (by decide) (by decide) ?_
                refine sn_iadd C dX6_roundsUntilHeard_86 ?_
                refine sw_istore_4 C rfl dX6_roundsUntilHeard_87 ?_
                refine sn_iinc_3 C rfl dX6_roundsUntilHeard_89 ?_
                refine sw_goto C 61 dX6_roundsUntilHeard_92 (by decide) ?_
                exact ih61 (i + 1) (mRds n t 1 q).2 _ (by omega) (mRds_now hq) (by rw [show 40 - i = 40 - (i + 1) + 1 from by omega, mHL, if_neg (by rw [c76]; decide)] at hqe; exact hqe) (by omega)
        exact L61 _ 0 (mKp S) _ (by omega) (mNow_row (fun b _ => mKp_row b) hm) rfl (Nat.lt_succ_self _)
      · refine sw_aload_0 C dX6_roundsUntilHeard_34 ?_
        refine sn_iconst C 2 (by decide) dX6_roundsUntilHeard_35 ?_
        refine sn_cV1r C vX6_fail lX6_72 rfl (by decide) rfl rfl dX6_roundsUntilHeard_36 (Nat.le_of_ble_eq_true rfl) (c_X6_fail hl) (by decide) (by decide) (by decide) ?_
        exact sn_iret C rfl hF dX6_roundsUntilHeard_39 (by decide) (by decide) (by unfold mRuhF; rw [if_pos (show x < t ∧ y < n from ⟨by omega, by omega⟩), if_pos c31]; try rfl) (by unfold mRuhF; rw [if_pos (show x < t ∧ y < n from ⟨by omega, by omega⟩), if_pos c31]; try rfl) rfl rfl
    · simp only [decide_eq_false_iff_not, decide_eq_true_eq] at c13
      refine sw_aload_0 C dX6_roundsUntilHeard_16 ?_
      refine sn_iconst C 1 (by decide) dX6_roundsUntilHeard_17 ?_
      refine sn_cV1r C vX6_fail lX6_72 rfl (by decide) rfl rfl dX6_roundsUntilHeard_18 (Nat.le_of_ble_eq_true rfl) (c_X6_fail hl) (by decide) (by decide) (by decide) ?_
      exact sn_iret C rfl hF dX6_roundsUntilHeard_21 (by decide) (by decide) (by unfold mRuhF; rw [if_neg (by omega)]; try rfl) (by unfold mRuhF; rw [if_neg (by omega)]; try rfl) rfl rfl

def mAft (S : zS) (n t x y : Nat) : Nat × zS :=
  if x < t then (if y ≤ 40 then (zpop ((mRds n t y (mKp S)).2 13 (41 + 5 * x + 3)), zCp (mRds n t y (mKp S)).2 16 13 109) else mFl S 2) else mFl S 1

set_option maxRecDepth 100000 in
set_option maxHeartbeats 4000000 in
theorem c_X6_spreadersAfter {l : Launch} (hl : l.stackTraces = false) {G : zG} {S : zS} {J : Int64} {E : UInt64} {n t : Nat} (hm : mNow S n t) {x y : Nat} (hx : x < 2 ^ 32) (hy : y < 2 ^ 32) : nCR l G mX6_spreadersAfter 8 0 0 [.ref 12, zi x, zi y] S J E (some (zi (mAft S n t x y).1)) (mAft S n t x y).2 J E := by
  refine nCR.of hl (by decide) rfl (Nat.le_of_ble_eq_true rfl) (ls := [some (.ref 12), some (zi x), some (zi y), none, none]) rfl (fun X C hF hX => ?_)
  subst hX
  obtain ⟨hn, hz, ht, ht4, hls, hrs⟩ := id hm
  refine sw_aload_0 C dX6_spreadersAfter_0 ?_
  refine sw_aload_0 C dX6_spreadersAfter_1 ?_
  refine sw_iload_1 C dX6_spreadersAfter_2 ?_
  refine sn_cV1r C vX6_isRumour lX6_115 rfl (by decide) rfl rfl dX6_spreadersAfter_3 (Nat.le_of_ble_eq_true rfl) (c_X6_isRumour hl ht (by omega) hx) (by decide) (by decide) (by decide) ?_
  refine sn_if_neB C 13 dX6_spreadersAfter_6 (by decide) (fun c6 => ?_) (fun c6 => ?_)
  · simp only [decide_eq_false_iff_not, decide_eq_true_eq] at c6
    refine sw_iload_2 C dX6_spreadersAfter_13 ?_
    refine sn_iconst C 0 (by decide) dX6_spreadersAfter_14 ?_
    refine sn_bipush C 40 (by decide) dX6_spreadersAfter_15 ?_
    refine sn_cS3r C vX6_isIn lX6_57 dX6_spreadersAfter_17 (Nat.le_of_ble_eq_true rfl) (c_X6_isIn hl) (by decide) (by decide) (by decide) ?_
    refine sn_if_eqB C 27 dX6_spreadersAfter_20 (by decide) (fun c20 => ?_) (fun c20 => ?_)
    · have c20 : ¬ y ≤ 40 := by
        intro h
        have h2 : 0 ≤ y ∧ y ≤ 40 := ⟨Nat.zero_le _, h⟩
        rw [← zInC hy (by decide) (by decide)] at h2
        exact of_decide_eq_false c20 h2
      refine sn_iconst C 2 (by decide) dX6_spreadersAfter_27 ?_
      refine sn_putI C fX6_47 rfl (by decide) rfl rfl dX6_spreadersAfter_28 ?_
      refine sw_aload_0 C dX6_spreadersAfter_31 ?_
      refine sn_getIe C (_) zU_s fX6_47 rfl (by decide) rfl dX6_spreadersAfter_32 ?_
      refine sn_if_eq C 40 (by omega) dX6_spreadersAfter_35 (by decide) (fun c35 => ?_) (fun c35 => ?_)
      · exact absurd c35 (by decide)
      · refine sn_iconst C 0 (by decide) dX6_spreadersAfter_38 ?_
        exact sn_iret C rfl hF dX6_spreadersAfter_39 (by decide) (by decide) (by unfold mAft; first | (rw [if_pos c6, if_pos c20]; done) | (rw [if_pos c6, if_neg c20]; rfl) | (rw [if_neg c6]; rfl) | (exfalso; omega)) (by unfold mAft; first | (rw [if_pos c6, if_pos c20]; done) | (rw [if_pos c6, if_neg c20]; rfl) | (rw [if_neg c6]; rfl) | (exfalso; omega)) rfl rfl
    · have c20 : y ≤ 40 := ((zInC hy (by decide) (by decide)).mp (of_decide_eq_true c20)).2
      refine sn_iconst C 0 (by decide) dX6_spreadersAfter_23 ?_
      refine sw_goto C 28 dX6_spreadersAfter_24 (by decide) ?_
      refine sn_putI C fX6_47 rfl (by decide) rfl rfl dX6_spreadersAfter_28 ?_
      refine sw_aload_0 C dX6_spreadersAfter_31 ?_
      refine sn_getIe C (_) zU_s fX6_47 rfl (by decide) rfl dX6_spreadersAfter_32 ?_
      refine sn_if_eq C 40 (by omega) dX6_spreadersAfter_35 (by decide) (fun c35 => ?_) (fun c35 => ?_)
      · refine sw_aload_0 C dX6_spreadersAfter_40 ?_
        refine sw_getR C (o' := 16) fX6_26 rfl (by decide) rfl rfl (by decide) dX6_spreadersAfter_41 ?_
        refine sw_aload_0 C dX6_spreadersAfter_44 ?_
        refine sw_getR C (o' := 13) fX6_16 rfl (by decide) rfl rfl (by decide) dX6_spreadersAfter_45 ?_
        refine sn_cS2v C vX6_lays lX6_50 dX6_spreadersAfter_48 (Nat.le_of_ble_eq_true rfl) (c_X6_lays hl (o := 16) (p := 13) rfl (by decide) rfl (by decide) (by decide)) (by decide) (by decide) (by decide) ?_
        refine sw_aload_0 C dX6_spreadersAfter_51 ?_
        refine sw_iload_2 C dX6_spreadersAfter_52 ?_
        refine sn_cV1r C vX6_rounds lX6_139 rfl (by decide) rfl rfl dX6_spreadersAfter_53 (Nat.le_of_ble_eq_true rfl) (c_X6_rounds hl (S := mKp S) (mNow_row (fun b _ => mKp_row b) hm) (by omega)) (by decide) (by decide) (by decide) ?_
        refine sw_istore_3 C rfl dX6_spreadersAfter_56 ?_
        refine sw_aload_0 C dX6_spreadersAfter_57 ?_
        refine sw_getR C (o' := 13) fX6_16 rfl (by decide) rfl rfl (by decide) dX6_spreadersAfter_58 ?_
        refine sw_iload_1 C dX6_spreadersAfter_61 ?_
        refine sn_iconst C 3 (by decide) dX6_spreadersAfter_62 ?_
        refine sn_cS2r C vX6_of lX6_61 dX6_spreadersAfter_63 (Nat.le_of_ble_eq_true rfl) (c_X6_of hl) (by decide) (by decide) (by decide) ?_
        refine sn_iald C rfl (by decide) (by omega) (by decide) dX6_spreadersAfter_66 ?_
        refine sn_cS1r C vX6_bits lX6_85 dX6_spreadersAfter_67 (Nat.le_of_ble_eq_true rfl) (c_X6_bits hl ((mRds_now (mNow_row (fun b _ => mKp_row b) hm)).2.2.2.2.2 x (by omega)).2.2.1) (by decide) (by decide) (by decide) ?_
        refine sw_istore_4 C rfl dX6_spreadersAfter_70 ?_
        refine sw_aload_0 C dX6_spreadersAfter_72 ?_
        refine sw_getR C (o' := 13) fX6_16 rfl (by decide) rfl rfl (by decide) dX6_spreadersAfter_73 ?_
        refine sw_aload_0 C dX6_spreadersAfter_76 ?_
        refine sw_getR C (o' := 16) fX6_26 rfl (by decide) rfl rfl (by decide) dX6_spreadersAfter_77 ?_
        refine sn_cS2v C vX6_lays lX6_50 dX6_spreadersAfter_80 (Nat.le_of_ble_eq_true rfl) (c_X6_lays hl (o := 13) (p := 16) rfl (by decide) rfl (by decide) (by decide)) (by decide) (by decide) (by decide) ?_
        refine sw_iload_4 C dX6_spreadersAfter_83 ?_
        exact sn_iret C rfl hF dX6_spreadersAfter_85 (by decide) (by decide) (by unfold mAft; first | (rw [if_pos c6, if_pos c20]; done) | (rw [if_pos c6, if_neg c20]; rfl) | (rw [if_neg c6]; rfl) | (exfalso; omega)) (by unfold mAft; first | (rw [if_pos c6, if_pos c20]; done) | (rw [if_pos c6, if_neg c20]; rfl) | (rw [if_neg c6]; rfl) | (exfalso; omega)) rfl rfl
      · exact absurd c35 (by decide)
  · simp only [decide_eq_false_iff_not, decide_eq_true_eq] at c6
    refine sn_iconst C 1 (by decide) dX6_spreadersAfter_9 ?_
    refine sw_goto C 28 dX6_spreadersAfter_10 (by decide) ?_
    refine sn_putI C fX6_47 rfl (by decide) rfl rfl dX6_spreadersAfter_28 ?_
    refine sw_aload_0 C dX6_spreadersAfter_31 ?_
    refine sn_getIe C (_) zU_s fX6_47 rfl (by decide) rfl dX6_spreadersAfter_32 ?_
    refine sn_if_eq C 40 (by omega) dX6_spreadersAfter_35 (by decide) (fun c35 => ?_) (fun c35 => ?_)
    · exact absurd c35 (by decide)
    · refine sn_iconst C 0 (by decide) dX6_spreadersAfter_38 ?_
      exact sn_iret C rfl hF dX6_spreadersAfter_39 (by decide) (by decide) (by unfold mAft; first | (rw [if_pos c6, if_pos c20]; done) | (rw [if_pos c6, if_neg c20]; rfl) | (rw [if_neg c6]; rfl) | (exfalso; omega)) (by unfold mAft; first | (rw [if_pos c6, if_pos c20]; done) | (rw [if_pos c6, if_neg c20]; rfl) | (rw [if_neg c6]; rfl) | (exfalso; omega)) rfl rfl
