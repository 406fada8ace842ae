def mGos (V : Nat → Nat) (t e : Nat) : Nat := zcnt t (fun r => (V (41 + 5 * r + 3)).testBit e)
/-- rank of rumours, of listeners, in the model -/
def mSA (V : Nat → Nat) (x y : Nat) : Bool := if zpop (V (41 + 5 * x + 3)) = zpop (V (41 + 5 * y + 3)) then (if V (41 + 5 * y + 1) = V (41 + 5 * x + 1) then decide (x < y) else decide (V (41 + 5 * x + 1) < V (41 + 5 * y + 1))) else decide (zpop (V (41 + 5 * y + 3)) < zpop (V (41 + 5 * x + 3)))
def mGA (V : Nat → Nat) (t x y : Nat) : Bool := if mGos V t x = mGos V t y then (if V (17 + y) = V (17 + x) then decide (x < y) else decide (V (17 + x) < V (17 + y))) else decide (mGos V t y < mGos V t x)
def mRkR (V : Nat → Nat) (t r : Nat) : Nat := zcnt t (fun x => mSA V x r)
def mRkL (V : Nat → Nat) (n t e : Nat) : Nat := zcnt n (fun x => mGA V t x e)
theorem zSub0 {a b : Nat} (ha : a < 2 ^ 30) (hb : b < 2 ^ 30) : nI a - nI b = 0 ↔ a = b := by
  constructor
  · intro h
    have h2 : nI a = nI b := by
      have := congrArg (· + nI b) h
      simpa [Int32.sub_add_cancel] using this
    exact (nI_eqU (by omega) (by omega)).mp h2
  · intro h; subst h; exact Int32.sub_self _
theorem nI_wrap (a : Nat) : nI (a + 4294967296) = nI a := Int32.toBitVec_inj.mp (BitVec.eq_of_toNat_eq (by rw [nI_bv, nI_bv, BitVec.toNat_ofNat, BitVec.toNat_ofNat]; omega))
theorem zSubP {a b : Nat} (ha : a < 2 ^ 30) (hb : b < 2 ^ 30) : 0 < nI a - nI b ↔ b < a := by
  by_cases h : b ≤ a
  · rw [pk_sub h]
    exact (show nI 0 < nI (a - b) ↔ b < a from (nI_ltI (by decide) (by omega)).trans ⟨fun h => by omega, fun h => by omega⟩)
  · constructor
    · intro h2
      exfalso
      have e : nI a - nI b = nI (a + (4294967296 - b)) := by
        have h3 : nI a = nI (a + (4294967296 - b)) + nI b := by rw [nI_add, show a + (4294967296 - b) + b = a + 4294967296 from by omega, nI_wrap]
        rw [h3, Int32.add_sub_cancel]
      rw [e] at h2
      have h3 : nI (a + (4294967296 - b)) < 0 := (nI_lt0 (by omega)).mpr (by omega)
      exact Int32.lt_irrefl (Int32.lt_trans h2 h3)
    · intro h2; omega

set_option maxRecDepth 100000 in
set_option maxHeartbeats 4000000 in
theorem c_X6_gossip {l : Launch} (hl : l.stackTraces = false) {G : zG} {S : zS} {J : Int64} {E : UInt64} {V : Nat → Nat} (hV : S 13 = V) {t : Nat} (ht : V 1 = t) (ht4 : t ≤ 4) {x : Nat} (hx : x < 12) (h3 : ∀ r, r < 4 → V (41 + 5 * r + 3) < 4096) : nCR l G mX6_gossip 1 0 0 [.ref 12, zi x] S J E (some (zi (mGos V t x))) S J E := by
  refine nCR.of hl (by decide) rfl (Nat.le_of_ble_eq_true rfl) (ls := [some (.ref 12), some (zi x), none, none]) rfl (fun X C hF hX => ?_)
  subst hX
  subst hV
  refine sn_iconst C 0 (by decide) dX6_gossip_0 ?_
  refine sw_istore_2 C rfl dX6_gossip_1 ?_
  refine sn_iconst C 0 (by decide) dX6_gossip_2 ?_
  refine sw_istore_3 C rfl dX6_gossip_3 ?_
  have L4 : ∀ (kM i : Nat) (m : Nat), i ≤ t → (m = zcnt i (fun r => (S 13 (41 + 5 * r + 3)).testBit x)) → t - i < kM → SN G X 0 0 4 [some (.ref 12), some (zi x), some (zi m), some (zi i)] [] S J E := by
    intro kM
    induction kM with
    | zero => intro i m _ _ hkM; exact absurd hkM (by omega)
    | succ kM ih4 =>
      intro i m hi hq hkM
      refine sw_iload_3 C dX6_gossip_4 ?_
      refine sw_aload_0 C dX6_gossip_5 ?_
      refine sw_getR C (o' := 13) fX6_16 rfl (by decide) rfl rfl (by decide) dX6_gossip_6 ?_
      refine sn_iconst C 1 (by decide) dX6_gossip_9 ?_
      refine sn_ialde C (t) ht rfl (by decide) (by omega) (by decide) dX6_gossip_10 ?_
      refine sn_icmp_ge C 45 (by omega) (by omega) dX6_gossip_11 (by decide) (fun c11 => ?_) (fun c11 => ?_)
      · refine sw_iload_2 C dX6_gossip_45 ?_
        exact sn_iret C rfl hF dX6_gossip_46 (by decide) (by decide) (by rw [hq, show i = t from by omega]; rfl) rfl rfl rfl
      · refine sw_iload_2 C dX6_gossip_14 ?_
        refine sw_aload_0 C dX6_gossip_15 ?_
        refine sw_getR C (o' := 13) fX6_16 rfl (by decide) rfl rfl (by decide) dX6_gossip_16 ?_
        refine sw_iload_3 C dX6_gossip_19 ?_
        refine sn_iconst C 3 (by decide) dX6_gossip_20 ?_
        refine sn_cS2r C vX6_of lX6_61 dX6_gossip_21 (Nat.le_of_ble_eq_true rfl) (c_X6_of hl) (by decide) (by decide) (by decide) ?_
        refine sn_iald C rfl (by decide) (by omega) (by decide) dX6_gossip_24 ?_
        refine sw_iload_1 C dX6_gossip_25 ?_
        refine sn_cS2r C vX6_has lX6_91 dX6_gossip_26 (Nat.le_of_ble_eq_true rfl) (c_X6_has hl (by have := h3 i (by omega); omega) (by omega)) (by decide) (by decide) (by decide) ?_
        refine sn_if_eqB C 36 dX6_gossip_29 (by decide) (fun c29 => ?_) (fun c29 => ?_)
        · refine sn_iconst C 0 (by decide) dX6_gossip_36 ?_
          refine sn_iadd C dX6_gossip_37 ?_
          refine sw_istore_2 C rfl dX6_gossip_38 ?_
          refine sn_iinc_3 C rfl dX6_gossip_39 ?_
          refine sw_goto C 4 dX6_gossip_42 (by decide) ?_
          exact ih4 (i + 1) _ (by omega) (by rw [zcnt, zIt, ← zcnt, ← hq]; simp [c29]) (by omega)
        · refine sn_iconst C 1 (by decide) dX6_gossip_32 ?_
          refine sw_goto C 37 dX6_gossip_33 (by decide) ?_
          refine sn_iadd C dX6_gossip_37 ?_
          refine sw_istore_2 C rfl dX6_gossip_38 ?_
          refine sn_iinc_3 C rfl dX6_gossip_39 ?_
          refine sw_goto C 4 dX6_gossip_42 (by decide) ?_
          exact ih4 (i + 1) _ (by omega) (by rw [zcnt, zIt, ← zcnt, ← hq]; simp [c29]) (by omega)
  exact L4 _ 0 0 (by omega) rfl (Nat.lt_succ_self _)

theorem zFind_range {p : Nat → Bool} : ∀ (k i : Nat), zFind p k i = 4294967295 ∨ (i ≤ zFind p k i ∧ zFind p k i < i + k) := by
  intro k
  induction k with
  | zero => intro i; exact Or.inl rfl
  | succ k ih =>
    intro i
    cases h : p i with
    | true => rw [zFind_hit h]; right; omega
    | false =>
      rw [zFind_step h]
      rcases ih (i + 1) with h1 | h1
      · exact Or.inl h1
      · right; omega

set_option maxRecDepth 100000 in
set_option maxHeartbeats 4000000 in
theorem c_X6_rumourBySpread {l : Launch} (hl : l.stackTraces = false) {G : zG} {S : zS} {J : Int64} {E : UInt64} {n t : Nat} (hm : mNow S n t) {x : Nat} (hx : x < 2 ^ 32) : nCR l G mX6_rumourBySpread 7 0 0 [.ref 12, zi x] S J E (some (zi (if zFind (fun r => decide (mRkR (S 13) t r = x)) t 0 = 4294967295 then 0 else zFind (fun r => decide (mRkR (S 13) t r = x)) t 0))) (zU S 12 0 (if zFind (fun r => decide (mRkR (S 13) t r = x)) t 0 = 4294967295 then 1 else 0)) J E := by
  refine nCR.of hl (by decide) rfl (Nat.le_of_ble_eq_true rfl) (ls := [some (.ref 12), some (zi x), none, none, none, none]) rfl (fun X C hF hX => ?_)
  subst hX
  obtain ⟨hn, hz, ht, ht4, hls, hrs⟩ := id hm
  refine sw_aload_0 C dX6_rumourBySpread_0 ?_
  refine sn_iconst C 0 (by decide) dX6_rumourBySpread_1 ?_
  refine sn_putI C fX6_47 rfl (by decide) rfl rfl dX6_rumourBySpread_2 ?_
  refine sn_iconst C 0 (by decide) dX6_rumourBySpread_5 ?_
  refine sw_istore_2 C rfl dX6_rumourBySpread_6 ?_
  have L7 : ∀ (kM r : Nat) (u3 : Option Value) (u4 : Option Value) (u5 : Option Value), r ≤ t → (zFind (fun r => decide (mRkR (S 13) t r = x)) (t - r) r = zFind (fun r => decide (mRkR (S 13) t r = x)) t 0) → t - r < kM → SN G X 0 0 7 [some (.ref 12), some (zi x), some (zi r), u3, u4, u5] [] (zU S 12 0 0) J E := by
    intro kM
    induction kM with
    | zero => intro r u3 u4 u5 _ _ hkM; exact absurd hkM (by omega)
    | succ kM ih7 =>
      intro r u3 u4 u5 hr hf hkM
      refine sw_iload_2 C dX6_rumourBySpread_7 ?_
      refine sw_aload_0 C dX6_rumourBySpread_8 ?_
      refine sw_getR C (o' := 13) fX6_16 rfl (by decide) rfl rfl (by decide) dX6_rumourBySpread_9 ?_
      refine sn_iconst C 1 (by decide) dX6_rumourBySpread_12 ?_
      refine sn_ialde C (t) ((zU_o (by decide)).trans ht) rfl (by decide) (by omega) (by decide) dX6_rumourBySpread_13 ?_
      refine sn_icmp_ge C 140 (by omega) (by omega) dX6_rumourBySpread_14 (by decide) (fun c14 => ?_) (fun c14 => ?_)
      · have hf3 : 4294967295 = zFind (fun r => decide (mRkR (S 13) t r = x)) t 0 := by rw [show t - r = 0 from by omega] at hf; exact hf
        refine sw_aload_0 C dX6_rumourBySpread_140 ?_
        refine sn_iconst C 1 (by decide) dX6_rumourBySpread_141 ?_
        refine sn_cV1r C vX6_fail lX6_72 rfl (by decide) rfl rfl dX6_rumourBySpread_142 (Nat.le_of_ble_eq_true rfl) (c_X6_fail hl) (by decide) (by decide) (by decide) ?_
        exact sn_iret C rfl hF dX6_rumourBySpread_145 (by decide) (by decide) (by first | (rw [if_neg (by rw [← hf2]; omega), ← hf2]; done) | (rw [if_pos (by rw [← hf3])]; done)) (by first | (rw [if_neg (by rw [← hf2]; omega)]; done) | (rw [if_pos (by rw [← hf3])]; rw [zU_zU]; done) | (rw [if_pos (by rw [← hf3])]; exact zU_zU)) rfl rfl
      · refine sn_iconst C 0 (by decide) dX6_rumourBySpread_17 ?_
        refine sw_istore_3 C rfl dX6_rumourBySpread_18 ?_
        refine sn_iconst C 0 (by decide) dX6_rumourBySpread_19 ?_
        refine sw_istore_4 C rfl dX6_rumourBySpread_20 ?_
        have L22 : ∀ (kM i : Nat) (c : Nat) (u : Option Value), i ≤ t → (c = zcnt i (fun x => mSA (S 13) x r)) → t - i < kM → SN G X 0 0 22 [some (.ref 12), some (zi x), some (zi r), some (zi c), some (zi i), u] [] (zU S 12 0 0) J E := by
          intro kM
          induction kM with
          | zero => intro i c u _ _ hkM; exact absurd hkM (by omega)
          | succ kM ih22 =>
            intro i c u hi hc hkM
            refine sw_iload_4 C dX6_rumourBySpread_22 ?_
            refine sw_aload_0 C dX6_rumourBySpread_24 ?_
            refine sw_getR C (o' := 13) fX6_16 rfl (by decide) rfl rfl (by decide) dX6_rumourBySpread_25 ?_
            refine sn_iconst C 1 (by decide) dX6_rumourBySpread_28 ?_
            refine sn_ialde C (t) ((zU_o (by decide)).trans ht) rfl (by decide) (by omega) (by decide) dX6_rumourBySpread_29 ?_
            refine sn_icmp_ge C 127 (by omega) (by omega) dX6_rumourBySpread_30 (by decide) (fun c30 => ?_) (fun c30 => ?_)
            · have hcr : c = mRkR (S 13) t r := by rw [hc, show i = t from by omega]; rfl
              refine sw_iload_3 C dX6_rumourBySpread_127 ?_
              refine sw_iload_1 C dX6_rumourBySpread_128 ?_
              refine sn_icmp_ne C 134 (by have := zcnt_le t (fun x => mSA (S 13) x r); rw [← show i = t by omega, ← hc] at this; omega) hx dX6_rumourBySpread_129 (by decide) (fun c129 => ?_) (fun c129 => ?_)
              · have hne : ¬ mRkR (S 13) t r = x := by rw [← hcr]; exact c129
                refine sn_iinc_2 C rfl dX6_rumourBySpread_134 ?_
                refine sw_goto C 7 dX6_rumourBySpread_137 (by decide) ?_
                exact ih7 (r + 1) _ _ _ (by omega) (by rw [show t - r = t - (r + 1) + 1 from by omega, zFind_step (by simpa using hne)] at hf; exact hf) (by omega)
              · have hne : mRkR (S 13) t r = x := by rw [← hcr]; exact c129
                have hf2 : r = zFind (fun r => decide (mRkR (S 13) t r = x)) t 0 := by rw [show t - r = t - (r + 1) + 1 from by omega, zFind_hit (by simpa using hne)] at hf; exact hf
                refine sw_iload_2 C dX6_rumourBySpread_132 ?_
                exact sn_iret C rfl hF dX6_rumourBySpread_133 (by decide) (by decide) (by first | (rw [if_neg (by rw [← hf2]; omega), ← hf2]; done) | (rw [if_pos (by rw [← hf3])]; done)) (by first | (rw [if_neg (by rw [← hf2]; omega)]; done) | (rw [if_pos (by rw [← hf3])]; rw [zU_zU]; done) | (rw [if_pos (by rw [← hf3])]; exact zU_zU)) rfl rfl
            · refine sw_aload_0 C dX6_rumourBySpread_33 ?_
              refine sw_getR C (o' := 13) fX6_16 rfl (by decide) rfl rfl (by decide) dX6_rumourBySpread_34 ?_
              refine sw_iload_4 C dX6_rumourBySpread_37 ?_
              refine sn_iconst C 3 (by decide) dX6_rumourBySpread_39 ?_
              refine sn_cS2r C vX6_of lX6_61 dX6_rumourBySpread_40 (Nat.le_of_ble_eq_true rfl) (c_X6_of hl) (by decide) (by decide) (by decide) ?_
              refine sn_ialde C (S 13 (41 + 5 * i + 3)) (zU_o (by decide)) rfl (by decide) (by omega) (by decide) dX6_rumourBySpread_43 ?_
              refine sn_cS1r C vX6_bits lX6_85 dX6_rumourBySpread_44 (Nat.le_of_ble_eq_true rfl) (c_X6_bits hl (hrs i (by omega)).2.2.1) (by decide) (by decide) (by decide) ?_
              refine sw_aload_0 C dX6_rumourBySpread_47 ?_
              refine sw_getR C (o' := 13) fX6_16 rfl (by decide) rfl rfl (by decide) dX6_rumourBySpread_48 ?_
              refine sw_iload_2 C dX6_rumourBySpread_51 ?_
              refine sn_iconst C 3 (by decide) dX6_rumourBySpread_52 ?_
              refine sn_cS2r C vX6_of lX6_61 dX6_rumourBySpread_53 (Nat.le_of_ble_eq_true rfl) (c_X6_of hl) (by decide) (by decide) (by decide) ?_
              refine sn_ialde C (S 13 (41 + 5 * r + 3)) (zU_o (by decide)) rfl (by decide) (by omega) (by decide) dX6_rumourBySpread_56 ?_
              refine sn_cS1r C vX6_bits lX6_85 dX6_rumourBySpread_57 (Nat.le_of_ble_eq_true rfl) (c_X6_bits hl (hrs r (by omega)).2.2.1) (by decide) (by decide) (by decide) ?_
              refine sw_isub C dX6_rumourBySpread_60 ?_
              refine sw_istore_5 C rfl dX6_rumourBySpread_61 ?_
              refine sw_iload_5 C dX6_rumourBySpread_63 ?_
              refine sw_if_eq C 73 dX6_rumourBySpread_65 (by decide) (fun c65 => ?_) (fun c65 => ?_)
              · have c65 := (zSub0 (by have := zpop_le (S 13 (41 + 5 * i + 3)); omega) (by have := zpop_le (S 13 (41 + 5 * r + 3)); omega)).mp c65
                refine sw_aload_0 C dX6_rumourBySpread_73 ?_
                refine sw_getR C (o' := 13) fX6_16 rfl (by decide) rfl rfl (by decide) dX6_rumourBySpread_74 ?_
                refine sw_iload_2 C dX6_rumourBySpread_77 ?_
                refine sn_iconst C 1 (by decide) dX6_rumourBySpread_78 ?_
                refine sn_cS2r C vX6_of lX6_61 dX6_rumourBySpread_79 (Nat.le_of_ble_eq_true rfl) (c_X6_of hl) (by decide) (by decide) (by decide) ?_
                refine sn_ialde C (S 13 (41 + 5 * r + 1)) (zU_o (by decide)) rfl (by decide) (by omega) (by decide) dX6_rumourBySpread_82 ?_
                refine sw_aload_0 C dX6_rumourBySpread_83 ?_
                refine sw_getR C (o' := 13) fX6_16 rfl (by decide) rfl rfl (by decide) dX6_rumourBySpread_84 ?_
                refine sw_iload_4 C dX6_rumourBySpread_87 ?_
                refine sn_iconst C 1 (by decide) dX6_rumourBySpread_89 ?_
                refine sn_cS2r C vX6_of lX6_61 dX6_rumourBySpread_90 (Nat.le_of_ble_eq_true rfl) (c_X6_of hl) (by decide) (by decide) (by decide) ?_
                refine sn_ialde C (S 13 (41 + 5 * i + 1)) (zU_o (by decide)) rfl (by decide) (by omega) (by decide) dX6_rumourBySpread_93 ?_
                refine sw_isub C dX6_rumourBySpread_94 ?_
                refine sw_istore_5 C rfl dX6_rumourBySpread_95 ?_
                refine sw_iload_3 C dX6_rumourBySpread_97 ?_
                refine sw_iload_5 C dX6_rumourBySpread_98 ?_
                refine sw_if_gt C 114 dX6_rumourBySpread_100 (by decide) (fun c100 => ?_) (fun c100 => ?_)
                · first | have c100 := (zSubP (by have := zpop_le (S 13 (41 + 5 * i + 3)); omega) (by have := zpop_le (S 13 (41 + 5 * r + 3)); omega)).mp c100 | have c100 := (zSubP (by have := (hrs r (by omega)).2.1; omega) (by have := (hrs i (by omega)).2.1; omega)).mp c100
                  have e1 : mSA (S 13)  i r = true := by
                    unfold mSA
                    first
                      | (rw [if_neg c65]; exact decide_eq_true c100)
                      | (rw [if_pos c65, if_neg (by omega)]; exact decide_eq_true c100)
                      | (rw [if_pos c65, if_pos c105]; exact decide_eq_true c111)
                      | (exfalso; omega)
                  refine sn_iconst C 1 (by decide) dX6_rumourBySpread_114 ?_
                  refine sw_goto C 119 dX6_rumourBySpread_115 (by decide) ?_
                  refine sn_iadd C dX6_rumourBySpread_119 ?_
                  refine sw_istore_3 C rfl dX6_rumourBySpread_120 ?_
                  refine sn_iinc_4 C rfl dX6_rumourBySpread_121 ?_
                  refine sw_goto C 22 dX6_rumourBySpread_124 (by decide) ?_
                  exact ih22 (i + 1) _ _ (by omega) (by rw [zcnt, zIt, ← zcnt, ← hc, e1]; rfl) (by omega)
                · first | have c100 : ¬ _ := fun h => c100 ((zSubP (by have := zpop_le (S 13 (41 + 5 * i + 3)); omega) (by have := zpop_le (S 13 (41 + 5 * r + 3)); omega)).mpr h) | have c100 : ¬ _ := fun h => c100 ((zSubP (by have := (hrs r (by omega)).2.1; omega) (by have := (hrs i (by omega)).2.1; omega)).mpr h)
                  refine sw_iload_5 C dX6_rumourBySpread_103 ?_
                  refine sw_if_ne C 118 dX6_rumourBySpread_105 (by decide) (fun c105 => ?_) (fun c105 => ?_)
                  · first | have c105 : ¬ _ := fun h => c105 ((zSub0 (by have := zpop_le (S 13 (41 + 5 * i + 3)); omega) (by have := zpop_le (S 13 (41 + 5 * r + 3)); omega)).mpr h) | have c105 : ¬ _ := fun h => c105 ((zSub0 (by have := (hrs r (by omega)).2.1; omega) (by have := (hrs i (by omega)).2.1; omega)).mpr h)
                    have e1 : mSA (S 13)  i r = false := by
                      unfold mSA
                      first
                        | (rw [if_neg c65]; exact decide_eq_false c100)
                        | (rw [if_pos c65, if_neg c105]; exact decide_eq_false c100)
                        | (rw [if_pos c65, if_pos c105]; exact decide_eq_false (by omega))
                        | (exfalso; omega)
                    refine sn_iconst C 0 (by decide) dX6_rumourBySpread_118 ?_
                    refine sn_iadd C dX6_rumourBySpread_119 ?_
                    refine sw_istore_3 C rfl dX6_rumourBySpread_120 ?_
                    refine sn_iinc_4 C rfl dX6_rumourBySpread_121 ?_
                    refine sw_goto C 22 dX6_rumourBySpread_124 (by decide) ?_
                    exact ih22 (i + 1) _ _ (by omega) (by rw [zcnt, zIt, ← zcnt, ← hc, e1]; rfl) (by omega)
                  · first | have c105 := (zSub0 (by have := zpop_le (S 13 (41 + 5 * i + 3)); omega) (by have := zpop_le (S 13 (41 + 5 * r + 3)); omega)).mp c105 | have c105 := (zSub0 (by have := (hrs r (by omega)).2.1; omega) (by have := (hrs i (by omega)).2.1; omega)).mp c105
                    refine sw_iload_4 C dX6_rumourBySpread_108 ?_
                    refine sw_iload_2 C dX6_rumourBySpread_110 ?_
                    refine sn_icmp_ge C 118 (by omega) (by omega) dX6_rumourBySpread_111 (by decide) (fun c111 => ?_) (fun c111 => ?_)
                    · have e1 : mSA (S 13)  i r = false := by
                        unfold mSA
                        first
                          | (rw [if_neg c65]; exact decide_eq_false c100)
                          | (rw [if_pos c65, if_neg c105]; exact decide_eq_false c100)
                          | (rw [if_pos c65, if_pos c105]; exact decide_eq_false (by omega))
                          | (exfalso; omega)
                      refine sn_iconst C 0 (by decide) dX6_rumourBySpread_118 ?_
                      refine sn_iadd C dX6_rumourBySpread_119 ?_
                      refine sw_istore_3 C rfl dX6_rumourBySpread_120 ?_
                      refine sn_iinc_4 C rfl dX6_rumourBySpread_121 ?_
                      refine sw_goto C 22 dX6_rumourBySpread_124 (by decide) ?_
                      exact ih22 (i + 1) _ _ (by omega) (by rw [zcnt, zIt, ← zcnt, ← hc, e1]; rfl) (by omega)
                    · have e1 : mSA (S 13)  i r = true := by
                        unfold mSA
                        first
                          | (rw [if_neg c65]; exact decide_eq_true c100)
                          | (rw [if_pos c65, if_neg (by omega)]; exact decide_eq_true c100)
                          | (rw [if_pos c65, if_pos c105]; exact decide_eq_true c111)
                          | (exfalso; omega)
                      refine sn_iconst C 1 (by decide) dX6_rumourBySpread_114 ?_
                      refine sw_goto C 119 dX6_rumourBySpread_115 (by decide) ?_
                      refine sn_iadd C dX6_rumourBySpread_119 ?_
                      refine sw_istore_3 C rfl dX6_rumourBySpread_120 ?_
                      refine sn_iinc_4 C rfl dX6_rumourBySpread_121 ?_
                      refine sw_goto C 22 dX6_rumourBySpread_124 (by decide) ?_
                      exact ih22 (i + 1) _ _ (by omega) (by rw [zcnt, zIt, ← zcnt, ← hc, e1]; rfl) (by omega)
              · have c65 : ¬ _ := fun h => c65 ((zSub0 (by have := zpop_le (S 13 (41 + 5 * i + 3)); omega) (by have := zpop_le (S 13 (41 + 5 * r + 3)); omega)).mpr h)
                refine sw_iload_5 C dX6_rumourBySpread_68 ?_
                refine sw_goto C 95 dX6_rumourBySpread_70 (by decide) ?_
                refine sw_istore_5 C rfl dX6_rumourBySpread_95 ?_
                refine sw_iload_3 C dX6_rumourBySpread_97 ?_
                refine sw_iload_5 C dX6_rumourBySpread_98 ?_
                refine sw_if_gt C 114 dX6_rumourBySpread_100 (by decide) (fun c100 => ?_) (fun c100 => ?_)
                · first | have c100 := (zSubP (by have := zpop_le (S 13 (41 + 5 * i + 3)); omega) (by have := zpop_le (S 13 (41 + 5 * r + 3)); omega)).mp c100 | have c100 := (zSubP (by have := (hrs r (by omega)).2.1; omega) (by have := (hrs i (by omega)).2.1; omega)).mp c100
                  have e1 : mSA (S 13)  i r = true := by
                    unfold mSA
                    first
                      | (rw [if_neg c65]; exact decide_eq_true c100)
                      | (rw [if_pos c65, if_neg (by omega)]; exact decide_eq_true c100)
                      | (rw [if_pos c65, if_pos c105]; exact decide_eq_true c111)
                      | (exfalso; omega)
                  refine sn_iconst C 1 (by decide) dX6_rumourBySpread_114 ?_
                  refine sw_goto C 119 dX6_rumourBySpread_115 (by decide) ?_
                  refine sn_iadd C dX6_rumourBySpread_119 ?_
                  refine sw_istore_3 C rfl dX6_rumourBySpread_120 ?_
                  refine sn_iinc_4 C rfl dX6_rumourBySpread_121 ?_
                  refine sw_goto C 22 dX6_rumourBySpread_124 (by decide) ?_
                  exact ih22 (i + 1) _ _ (by omega) (by rw [zcnt, zIt, ← zcnt, ← hc, e1]; rfl) (by omega)
                · first | have c100 : ¬ _ := fun h => c100 ((zSubP (by have := zpop_le (S 13 (41 + 5 * i + 3)); omega) (by have := zpop_le (S 13 (41 + 5 * r + 3)); omega)).mpr h) | have c100 : ¬ _ := fun h => c100 ((zSubP (by have := (hrs r (by omega)).2.1; omega) (by have := (hrs i (by omega)).2.1; omega)).mpr h)
                  refine sw_iload_5 C dX6_rumourBySpread_103 ?_
                  refine sw_if_ne C 118 dX6_rumourBySpread_105 (by decide) (fun c105 => ?_) (fun c105 => ?_)
                  · first | have c105 : ¬ _ := fun h => c105 ((zSub0 (by have := zpop_le (S 13 (41 + 5 * i + 3)); omega) (by have := zpop_le (S 13 (41 + 5 * r + 3)); omega)).mpr h) | have c105 : ¬ _ := fun h => c105 ((zSub0 (by have := (hrs r (by omega)).2.1; omega) (by have := (hrs i (by omega)).2.1; omega)).mpr h)
                    have e1 : mSA (S 13)  i r = false := by
                      unfold mSA
                      first
                        | (rw [if_neg c65]; exact decide_eq_false c100)
                        | (rw [if_pos c65, if_neg c105]; exact decide_eq_false c100)
                        | (rw [if_pos c65, if_pos c105]; exact decide_eq_false (by omega))
                        | (exfalso; omega)
                    refine sn_iconst C 0 (by decide) dX6_rumourBySpread_118 ?_
                    refine sn_iadd C dX6_rumourBySpread_119 ?_
                    refine sw_istore_3 C rfl dX6_rumourBySpread_120 ?_
                    refine sn_iinc_4 C rfl dX6_rumourBySpread_121 ?_
                    refine sw_goto C 22 dX6_rumourBySpread_124 (by decide) ?_
                    exact ih22 (i + 1) _ _ (by omega) (by rw [zcnt, zIt, ← zcnt, ← hc, e1]; rfl) (by omega)
                  · first | have c105 := (zSub0 (by have := zpop_le (S 13 (41 + 5 * i + 3)); omega) (by have := zpop_le (S 13 (41 + 5 * r + 3)); omega)).mp c105 | have c105 := (zSub0 (by have := (hrs r (by omega)).2.1; omega) (by have := (hrs i (by omega)).2.1; omega)).mp c105
                    refine sw_iload_4 C dX6_rumourBySpread_108 ?_
                    refine sw_iload_2 C dX6_rumourBySpread_110 ?_
                    refine sn_icmp_ge C 118 (by omega) (by omega) dX6_rumourBySpread_111 (by decide) (fun c111 => ?_) (fun c111 => ?_)
                    · have e1 : mSA (S 13)  i r = false := by
                        unfold mSA
                        first
                          | (rw [if_neg c65]; exact decide_eq_false c100)
                          | (rw [if_pos c65, if_neg c105]; exact decide_eq_false c100)
                          | (rw [if_pos c65, if_pos c105]; exact decide_eq_false (by omega))
                          | (exfalso; omega)
                      refine sn_iconst C 0 (by decide) dX6_rumourBySpread_118 ?_
                      refine sn_iadd C dX6_rumourBySpread_119 ?_
                      refine sw_istore_3 C rfl dX6_rumourBySpread_120 ?_
                      refine sn_iinc_4 C rfl dX6_rumourBySpread_121 ?_
                      refine sw_goto C 22 dX6_rumourBySpread_124 (by decide) ?_
                      exact ih22 (i + 1) _ _ (by omega) (by rw [zcnt, zIt, ← zcnt, ← hc, e1]; rfl) (by omega)
                    · have e1 : mSA (S 13)  i r = true := by
                        unfold mSA
                        first
                          | (rw [if_neg c65]; exact decide_eq_true c100)
                          | (rw [if_pos c65, if_neg (by omega)]; exact decide_eq_true c100)
                          | (rw [if_pos c65, if_pos c105]; exact decide_eq_true c111)
                          | (exfalso; omega)
                      refine sn_iconst C 1 (by decide) dX6_rumourBySpread_114 ?_
                      refine sw_goto C 119 dX6_rumourBySpread_115 (by decide) ?_
                      refine sn_iadd C dX6_rumourBySpread_119 ?_
                      refine sw_istore_3 C rfl dX6_rumourBySpread_120 ?_
                      refine sn_iinc_4 C rfl dX6_rumourBySpread_121 ?_
                      refine sw_goto C 22 dX6_rumourBySpread_124 (by decide) ?_
                      exact ih22 (i + 1) _ _ (by omega) (by rw [zcnt, zIt, ← zcnt, ← hc, e1]; rfl) (by omega)
        exact L22 _ 0 0 _ (by omega) rfl (Nat.lt_succ_self _)
  exact L7 _ 0 _ _ _ (by omega) rfl (Nat.lt_succ_self _)

set_option maxRecDepth 100000 in
set_option maxHeartbeats 4000000 in
theorem c_X6_listenerByGossip {l : Launch} (hl : l.stackTraces = false) {G : zG} {S : zS} {J : Int64} {E : UInt64} {n t : Nat} (hm : mNow S n t) {x : Nat} (hx : x < 2 ^ 32) : nCR l G mX6_listenerByGossip 7 0 0 [.ref 12, zi x] S J E (some (zi (if zFind (fun r => decide (mRkL (S 13) n t r = x)) n 0 = 4294967295 then 0 else zFind (fun r => decide (mRkL (S 13) n t r = x)) n 0))) (zU S 12 0 (if zFind (fun r => decide (mRkL (S 13) n t r = x)) n 0 = 4294967295 then 1 else 0)) J E := by
  refine nCR.of hl (by decide) rfl (Nat.le_of_ble_eq_true rfl) (ls := [some (.ref 12), some (zi x), none, none, none, none]) rfl (fun X C hF hX => ?_)
  subst hX
  obtain ⟨hn, hz, ht, ht4, hls, hrs⟩ := id hm
  refine sw_aload_0 C dX6_listenerByGossip_0 ?_
  refine sn_iconst C 0 (by decide) dX6_listenerByGossip_1 ?_
  refine sn_putI C fX6_47 rfl (by decide) rfl rfl dX6_listenerByGossip_2 ?_
  refine sn_iconst C 0 (by decide) dX6_listenerByGossip_5 ?_
  refine sw_istore_2 C rfl dX6_listenerByGossip_6 ?_
  have L7 : ∀ (kM r : Nat) (u3 : Option Value) (u4 : Option Value) (u5 : Option Value), r ≤ n → (zFind (fun r => decide (mRkL (S 13) n t r = x)) (n - r) r = zFind (fun r => decide (mRkL (S 13) n t r = x)) n 0) → n - r < kM → SN G X 0 0 7 [some (.ref 12), some (zi x), some (zi r), u3, u4, u5] [] (zU S 12 0 0) J E := by
    intro kM
    induction kM with
    | zero => intro r u3 u4 u5 _ _ hkM; exact absurd hkM (by omega)
    | succ kM ih7 =>
      intro r u3 u4 u5 hr hf hkM
      refine sw_iload_2 C dX6_listenerByGossip_7 ?_
      refine sw_aload_0 C dX6_listenerByGossip_8 ?_
      refine sw_getR C (o' := 13) fX6_16 rfl (by decide) rfl rfl (by decide) dX6_listenerByGossip_9 ?_
      refine sn_iconst C 0 (by decide) dX6_listenerByGossip_12 ?_
      refine sn_ialde C (n) ((zU_o (by decide)).trans hn) rfl (by decide) (by omega) (by decide) dX6_listenerByGossip_13 ?_
      refine sn_icmp_ge C 122 (by omega) (by omega) dX6_listenerByGossip_14 (by decide) (fun c14 => ?_) (fun c14 => ?_)
      · have hf3 : 4294967295 = zFind (fun r => decide (mRkL (S 13) n t r = x)) n 0 := by rw [show n - r = 0 from by omega] at hf; exact hf
        refine sw_aload_0 C dX6_listenerByGossip_122 ?_
        refine sn_iconst C 1 (by decide) dX6_listenerByGossip_123 ?_
        refine sn_cV1r C vX6_fail lX6_72 rfl (by decide) rfl rfl dX6_listenerByGossip_124 (Nat.le_of_ble_eq_true rfl) (c_X6_fail hl) (by decide) (by decide) (by decide) ?_
        exact sn_iret C rfl hF dX6_listenerByGossip_127 (by decide) (by decide) (by first | (rw [if_neg (by rw [← hf2]; omega), ← hf2]; done) | (rw [if_pos (by rw [← hf3])]; done)) (by first | (rw [if_neg (by rw [← hf2]; omega)]; done) | (rw [if_pos (by rw [← hf3])]; rw [zU_zU]; done) | (rw [if_pos (by rw [← hf3])]; exact zU_zU)) rfl rfl
      · refine sn_iconst C 0 (by decide) dX6_listenerByGossip_17 ?_
        refine sw_istore_3 C rfl dX6_listenerByGossip_18 ?_
        refine sn_iconst C 0 (by decide) dX6_listenerByGossip_19 ?_
        refine sw_istore_4 C rfl dX6_listenerByGossip_20 ?_
        have L22 : ∀ (kM i : Nat) (c : Nat) (u : Option Value), i ≤ n → (c = zcnt i (fun x => mGA (S 13) t x r)) → n - i < kM → SN G X 0 0 22 [some (.ref 12), some (zi x), some (zi r), some (zi c), some (zi i), u] [] (zU S 12 0 0) J E := by
          intro kM
          induction kM with
          | zero => intro i c u _ _ hkM; exact absurd hkM (by omega)
          | succ kM ih22 =>
            intro i c u hi hc hkM
            refine sw_iload_4 C dX6_listenerByGossip_22 ?_
            refine sw_aload_0 C dX6_listenerByGossip_24 ?_
            refine sw_getR C (o' := 13) fX6_16 rfl (by decide) rfl rfl (by decide) dX6_listenerByGossip_25 ?_
            refine sn_iconst C 0 (by decide) dX6_listenerByGossip_28 ?_
            refine sn_ialde C (n) ((zU_o (by decide)).trans hn) rfl (by decide) (by omega) (by decide) dX6_listenerByGossip_29 ?_
            refine sn_icmp_ge C 109 (by omega) (by omega) dX6_listenerByGossip_30 (by decide) (fun c30 => ?_) (fun c30 => ?_)
            · have hcr : c = mRkL (S 13) n t r := by rw [hc, show i = n from by omega]; rfl
              refine sw_iload_3 C dX6_listenerByGossip_109 ?_
              refine sw_iload_1 C dX6_listenerByGossip_110 ?_
              refine sn_icmp_ne C 116 (by have := zcnt_le n (fun x => mGA (S 13) t x r); rw [← show i = n by omega, ← hc] at this; omega) hx dX6_listenerByGossip_111 (by decide) (fun c111 => ?_) (fun c111 => ?_)
              · have hne : ¬ mRkL (S 13) n t r = x := by rw [← hcr]; exact c111
                refine sn_iinc_2 C rfl dX6_listenerByGossip_116 ?_
                refine sw_goto C 7 dX6_listenerByGossip_119 (by decide) ?_
                exact ih7 (r + 1) _ _ _ (by omega) (by rw [show n - r = n - (r + 1) + 1 from by omega, zFind_step (by simpa using hne)] at hf; exact hf) (by omega)
              · have hne : mRkL (S 13) n t r = x := by rw [← hcr]; exact c111
                have hf2 : r = zFind (fun r => decide (mRkL (S 13) n t r = x)) n 0 := by rw [show n - r = n - (r + 1) + 1 from by omega, zFind_hit (by simpa using hne)] at hf; exact hf
                refine sw_iload_2 C dX6_listenerByGossip_114 ?_
                exact sn_iret C rfl hF dX6_listenerByGossip_115 (by decide) (by decide) (by first | (rw [if_neg (by rw [← hf2]; omega), ← hf2]; done) | (rw [if_pos (by rw [← hf3])]; done)) (by first | (rw [if_neg (by rw [← hf2]; omega)]; done) | (rw [if_pos (by rw [← hf3])]; rw [zU_zU]; done) | (rw [if_pos (by rw [← hf3])]; exact zU_zU)) rfl rfl
            · refine sw_aload_0 C dX6_listenerByGossip_33 ?_
              refine sw_iload_4 C dX6_listenerByGossip_34 ?_
              refine sn_cV1r C vX6_gossip lX6_163 rfl (by decide) rfl rfl dX6_listenerByGossip_36 (Nat.le_of_ble_eq_true rfl) (c_X6_gossip hl (V := S 13) (funext (fun b => zU_o (by decide))) ht ht4 (by omega) (fun r hr => (hrs r hr).2.2.1)) (by decide) (by decide) (by decide) ?_
              refine sw_aload_0 C dX6_listenerByGossip_39 ?_
              refine sw_iload_2 C dX6_listenerByGossip_40 ?_
              refine sn_cV1r C vX6_gossip lX6_163 rfl (by decide) rfl rfl dX6_listenerByGossip_41 (Nat.le_of_ble_eq_true rfl) (c_X6_gossip hl (V := S 13) (funext (fun b => zU_o (by decide))) ht ht4 (by omega) (fun r hr => (hrs r hr).2.2.1)) (by decide) (by decide) (by decide) ?_
              refine sw_isub C dX6_listenerByGossip_44 ?_
              refine sw_istore_5 C rfl dX6_listenerByGossip_45 ?_
              refine sw_iload_5 C dX6_listenerByGossip_47 ?_
              refine sw_if_eq C 57 dX6_listenerByGossip_49 (by decide) (fun c49 => ?_) (fun c49 => ?_)
              · have c49 := (zSub0 (by have : mGos (S 13) t i ≤ t := zcnt_le _ _; omega) (by have : mGos (S 13) t r ≤ t := zcnt_le _ _; omega)).mp c49
                refine sw_aload_0 C dX6_listenerByGossip_57 ?_
                refine sw_getR C (o' := 13) fX6_16 rfl (by decide) rfl rfl (by decide) dX6_listenerByGossip_58 ?_
                refine sn_bipush C 17 (by decide) dX6_listenerByGossip_61 ?_
                refine sw_iload_2 C dX6_listenerByGossip_63 ?_
                refine sn_iadd C dX6_listenerByGossip_64 ?_
                refine sn_ialde C (S 13 (17 + r)) (zU_o (by decide)) rfl (by decide) (by omega) (by decide) dX6_listenerByGossip_65 ?_
                refine sw_aload_0 C dX6_listenerByGossip_66 ?_
                refine sw_getR C (o' := 13) fX6_16 rfl (by decide) rfl rfl (by decide) dX6_listenerByGossip_67 ?_
                refine sn_bipush C 17 (by decide) dX6_listenerByGossip_70 ?_
                refine sw_iload_4 C dX6_listenerByGossip_72 ?_
                refine sn_iadd C dX6_listenerByGossip_74 ?_
                refine sn_ialde C (S 13 (17 + i)) (zU_o (by decide)) rfl (by decide) (by omega) (by decide) dX6_listenerByGossip_75 ?_
                refine sw_isub C dX6_listenerByGossip_76 ?_
                refine sw_istore_5 C rfl dX6_listenerByGossip_77 ?_
                refine sw_iload_3 C dX6_listenerByGossip_79 ?_
                refine sw_iload_5 C dX6_listenerByGossip_80 ?_
                refine sw_if_gt C 96 dX6_listenerByGossip_82 (by decide) (fun c82 => ?_) (fun c82 => ?_)
                · first | have c82 := (zSubP (by have : mGos (S 13) t i ≤ t := zcnt_le _ _; omega) (by have : mGos (S 13) t r ≤ t := zcnt_le _ _; omega)).mp c82 | have c82 := (zSubP (by have := (hls r (by omega)).2.1; omega) (by have := (hls i (by omega)).2.1; omega)).mp c82
                  have e1 : mGA (S 13) t i r = true := by
                    unfold mGA
                    first
                      | (rw [if_neg c49]; exact decide_eq_true c82)
                      | (rw [if_pos c49, if_neg (by omega)]; exact decide_eq_true c82)
                      | (rw [if_pos c49, if_pos c87]; exact decide_eq_true c93)
                      | (exfalso; omega)
                  refine sn_iconst C 1 (by decide) dX6_listenerByGossip_96 ?_
                  refine sw_goto C 101 dX6_listenerByGossip_97 (by decide) ?_
                  refine sn_iadd C dX6_listenerByGossip_101 ?_
                  refine sw_istore_3 C rfl dX6_listenerByGossip_102 ?_
                  refine sn_iinc_4 C rfl dX6_listenerByGossip_103 ?_
                  refine sw_goto C 22 dX6_listenerByGossip_106 (by decide) ?_
                  exact ih22 (i + 1) _ _ (by omega) (by rw [zcnt, zIt, ← zcnt, ← hc, e1]; rfl) (by omega)
                · first | have c82 : ¬ _ := fun h => c82 ((zSubP (by have : mGos (S 13) t i ≤ t := zcnt_le _ _; omega) (by have : mGos (S 13) t r ≤ t := zcnt_le _ _; omega)).mpr h) | have c82 : ¬ _ := fun h => c82 ((zSubP (by have := (hls r (by omega)).2.1; omega) (by have := (hls i (by omega)).2.1; omega)).mpr h)
                  refine sw_iload_5 C dX6_listenerByGossip_85 ?_
                  refine sw_if_ne C 100 dX6_listenerByGossip_87 (by decide) (fun c87 => ?_) (fun c87 => ?_)
                  · first | have c87 : ¬ _ := fun h => c87 ((zSub0 (by have : mGos (S 13) t i ≤ t := zcnt_le _ _; omega) (by have : mGos (S 13) t r ≤ t := zcnt_le _ _; omega)).mpr h) | have c87 : ¬ _ := fun h => c87 ((zSub0 (by have := (hls r (by omega)).2.1; omega) (by have := (hls i (by omega)).2.1; omega)).mpr h)
                    have e1 : mGA (S 13) t i r = false := by
                      unfold mGA
                      first
                        | (rw [if_neg c49]; exact decide_eq_false c82)
                        | (rw [if_pos c49, if_neg c87]; exact decide_eq_false c82)
                        | (rw [if_pos c49, if_pos c87]; exact decide_eq_false (by omega))
                        | (exfalso; omega)
                    refine sn_iconst C 0 (by decide) dX6_listenerByGossip_100 ?_
                    refine sn_iadd C dX6_listenerByGossip_101 ?_
                    refine sw_istore_3 C rfl dX6_listenerByGossip_102 ?_
                    refine sn_iinc_4 C rfl dX6_listenerByGossip_103 ?_
                    refine sw_goto C 22 dX6_listenerByGossip_106 (by decide) ?_
                    exact ih22 (i + 1) _ _ (by omega) (by rw [zcnt, zIt, ← zcnt, ← hc, e1]; rfl) (by omega)
                  · first | have c87 := (zSub0 (by have : mGos (S 13) t i ≤ t := zcnt_le _ _; omega) (by have : mGos (S 13) t r ≤ t := zcnt_le _ _; omega)).mp c87 | have c87 := (zSub0 (by have := (hls r (by omega)).2.1; omega) (by have := (hls i (by omega)).2.1; omega)).mp c87
                    refine sw_iload_4 C dX6_listenerByGossip_90 ?_
                    refine sw_iload_2 C dX6_listenerByGossip_92 ?_
                    refine sn_icmp_ge C 100 (by omega) (by omega) dX6_listenerByGossip_93 (by decide) (fun c93 => ?_) (fun c93 => ?_)
                    · have e1 : mGA (S 13) t i r = false := by
                        unfold mGA
                        first
                          | (rw [if_neg c49]; exact decide_eq_false c82)
                          | (rw [if_pos c49, if_neg c87]; exact decide_eq_false c82)
                          | (rw [if_pos c49, if_pos c87]; exact decide_eq_false (by omega))
                          | (exfalso; omega)
                      refine sn_iconst C 0 (by decide) dX6_listenerByGossip_100 ?_
                      refine sn_iadd C dX6_listenerByGossip_101 ?_
                      refine sw_istore_3 C rfl dX6_listenerByGossip_102 ?_
                      refine sn_iinc_4 C rfl dX6_listenerByGossip_103 ?_
                      refine sw_goto C 22 dX6_listenerByGossip_106 (by decide) ?_
                      exact ih22 (i + 1) _ _ (by omega) (by rw [zcnt, zIt, ← zcnt, ← hc, e1]; rfl) (by omega)
                    · have e1 : mGA (S 13) t i r = true := by
                        unfold mGA
                        first
                          | (rw [if_neg c49]; exact decide_eq_true c82)
                          | (rw [if_pos c49, if_neg (by omega)]; exact decide_eq_true c82)
                          | (rw [if_pos c49, if_pos c87]; exact decide_eq_true c93)
                          | (exfalso; omega)
                      refine sn_iconst C 1 (by decide) dX6_listenerByGossip_96 ?_
                      refine sw_goto C 101 dX6_listenerByGossip_97 (by decide) ?_
                      refine sn_iadd C dX6_listenerByGossip_101 ?_
                      refine sw_istore_3 C rfl dX6_listenerByGossip_102 ?_
                      refine sn_iinc_4 C rfl dX6_listenerByGossip_103 ?_
                      refine sw_goto C 22 dX6_listenerByGossip_106 (by decide) ?_
                      exact ih22 (i + 1) _ _ (by omega) (by rw [zcnt, zIt, ← zcnt, ← hc, e1]; rfl) (by omega)
              · have c49 : ¬ _ := fun h => c49 ((zSub0 (by have : mGos (S 13) t i ≤ t := zcnt_le _ _; omega) (by have : mGos (S 13) t r ≤ t := zcnt_le _ _; omega)).mpr h)
                refine sw_iload_5 C dX6_listenerByGossip_52 ?_
                refine sw_goto C 77 dX6_listenerByGossip_54 (by decide) ?_
                refine sw_istore_5 C rfl dX6_listenerByGossip_77 ?_
                refine sw_iload_3 C dX6_listenerByGossip_79 ?_
                refine sw_iload_5 C dX6_listenerByGossip_80 ?_
                refine sw_if_gt C 96 dX6_listenerByGossip_82 (by decide) (fun c82 => ?_) (fun c82 => ?_)
                · first | have c82 := (zSubP (by have : mGos (S 13) t i ≤ t := zcnt_le _ _; omega) (by have : mGos (S 13) t r ≤ t := zcnt_le _ _; omega)).mp c82 | have c82 := (zSubP (by have := (hls r (by omega)).2.1; omega) (by have := (hls i (by omega)).2.1; omega)).mp c82
                  have e1 : mGA (S 13) t i r = true := by
                    unfold mGA
                    first
                      | (rw [if_neg c49]; exact decide_eq_true c82)
                      | (rw [if_pos c49, if_neg (by omega)]; exact decide_eq_true c82)
                      | (rw [if_pos c49, if_pos c87]; exact decide_eq_true c93)
                      | (exfalso; omega)
                  refine sn_iconst C 1 (by decide) dX6_listenerByGossip_96 ?_
                  refine sw_goto C 101 dX6_listenerByGossip_97 (by decide) ?_
                  refine sn_iadd C dX6_listenerByGossip_101 ?_
                  refine sw_istore_3 C rfl dX6_listenerByGossip_102 ?_
                  refine sn_iinc_4 C rfl dX6_listenerByGossip_103 ?_
                  refine sw_goto C 22 dX6_listenerByGossip_106 (by decide) ?_
                  exact ih22 (i + 1) _ _ (by omega) (by rw [zcnt, zIt, ← zcnt, ← hc, e1]; rfl) (by omega)
                · first | have c82 : ¬ _ := fun h => c82 ((zSubP (by have : mGos (S 13) t i ≤ t := zcnt_le _ _; omega) (by have : mGos (S 13) t r ≤ t := zcnt_le _ _; omega)).mpr h) | have c82 : ¬ _ := fun h => c82 ((zSubP (by have := (hls r (by omega)).2.1; omega) (by have := (hls i (by omega)).2.1; omega)).mpr h)
                  refine sw_iload_5 C dX6_listenerByGossip_85 ?_
                  refine sw_if_ne C 100 dX6_listenerByGossip_87 (by decide) (fun c87 => ?_) (fun c87 => ?_)
                  · first | have c87 : ¬ _ := fun h => c87 ((zSub0 (by have : mGos (S 13) t i ≤ t := zcnt_le _ _; omega) (by have : mGos (S 13) t r ≤ t := zcnt_le _ _; omega)).mpr h) | have c87 : ¬ _ := fun h => c87 ((zSub0 (by have := (hls r (by omega)).2.1; omega) (by have := (hls i (by omega)).2.1; omega)).mpr h)
                    have e1 : mGA (S 13) t i r = false := by
                      unfold mGA
                      first
                        | (rw [if_neg c49]; exact decide_eq_false c82)
                        | (rw [if_pos c49, if_neg c87]; exact decide_eq_false c82)
                        | (rw [if_pos c49, if_pos c87]; exact decide_eq_false (by omega))
                        | (exfalso; omega)
                    refine sn_iconst C 0 (by decide) dX6_listenerByGossip_100 ?_
                    refine sn_iadd C dX6_listenerByGossip_101 ?_
                    refine sw_istore_3 C rfl dX6_listenerByGossip_102 ?_
                    refine sn_iinc_4 C rfl dX6_listenerByGossip_103 ?_
                    refine sw_goto C 22 dX6_listenerByGossip_106 (by decide) ?_
                    exact ih22 (i + 1) _ _ (by omega) (by rw [zcnt, zIt, ← zcnt, ← hc, e1]; rfl) (by omega)
                  · first | have c87 := (zSub0 (by have : mGos (S 13) t i ≤ t := zcnt_le _ _; omega) (by have : mGos (S 13) t r ≤ t := zcnt_le _ _; omega)).mp c87 | have c87 := (zSub0 (by have := (hls r (by omega)).2.1; omega) (by have := (hls i (by omega)).2.1; omega)).mp c87
                    refine sw_iload_4 C dX6_listenerByGossip_90 ?_
                    refine sw_iload_2 C dX6_listenerByGossip_92 ?_
                    refine sn_icmp_ge C 100 (by omega) (by omega) dX6_listenerByGossip_93 (by decide) (fun c93 => ?_) (fun c93 => ?_)
                    · have e1 : mGA (S 13) t i r = false := by
                        unfold mGA
                        first
                          | (rw [if_neg c49]; exact decide_eq_false c82)
                          | (rw [if_pos c49, if_neg c87]; exact decide_eq_false c82)
                          | (rw [if_pos c49, if_pos c87]; exact decide_eq_false (by omega))
                          | (exfalso; omega)
                      refine sn_iconst C 0 (by decide) dX6_listenerByGossip_100 ?_
                      refine sn_iadd C dX6_listenerByGossip_101 ?_
                      refine sw_istore_3 C rfl dX6_listenerByGossip_102 ?_
                      refine sn_iinc_4 C rfl dX6_listenerByGossip_103 ?_
                      refine sw_goto C 22 dX6_listenerByGossip_106 (by decide) ?_
                      exact ih22 (i + 1) _ _ (by omega) (by rw [zcnt, zIt, ← zcnt, ← hc, e1]; rfl) (by omega)
                    · have e1 : mGA (S 13) t i r = true := by
                        unfold mGA
                        first
                          | (rw [if_neg c49]; exact decide_eq_true c82)
                          | (rw [if_pos c49, if_neg (by omega)]; exact decide_eq_true c82)
                          | (rw [if_pos c49, if_pos c87]; exact decide_eq_true c93)
                          | (exfalso; omega)
                      refine sn_iconst C 1 (by decide) dX6_listenerByGossip_96 ?_
                      refine sw_goto C 101 dX6_listenerByGossip_97 (by decide) ?_
                      refine sn_iadd C dX6_listenerByGossip_101 ?_
                      refine sw_istore_3 C rfl dX6_listenerByGossip_102 ?_
                      refine sn_iinc_4 C rfl dX6_listenerByGossip_103 ?_
                      refine sw_goto C 22 dX6_listenerByGossip_106 (by decide) ?_
                      exact ih22 (i + 1) _ _ (by omega) (by rw [zcnt, zIt, ← zcnt, ← hc, e1]; rfl) (by omega)
        exact L22 _ 0 0 _ (by omega) rfl (Nat.lt_succ_self _)
  exact L7 _ 0 _ _ _ (by omega) rfl (Nat.lt_succ_self _)
