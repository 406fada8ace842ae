/-! copying of rows, counting down, sets as bits -/
def zCp (S : zS) (o o' n : Nat) : zS := fun a b => if a = o' ∧ b < n then S o b else S a b
theorem zIn_cp {S : zS} {o o' n : Nat} : zIn (zCp S o o' n) o' = va_cpy (zIn S o) (zIn S o') 0 0 n := by
  funext b
  by_cases h : b < n <;> simp [zIn, zCp, va_cpy, h]
theorem zIn_cp_off {S : zS} {o o' n q : Nat} (h : q ≠ o') : zIn (zCp S o o' n) q = zIn S q := by
  funext b
  simp [zIn, zCp, h]
theorem kCopyX1 : Cond.methodLink RX1 28 arraycopyName ∈ lw_tbl := List.mem_of_getElem? (i := 591) (by decide +kernel)
theorem kCopyX3 : Cond.methodLink RX3 49 arraycopyName ∈ lw_tbl := List.mem_of_getElem? (i := 594) (by decide +kernel)
theorem kCopyX2 : Cond.methodLink RX2 32 arraycopyName ∈ lw_tbl := List.mem_of_getElem? (i := 599) (by decide +kernel)
theorem kCopyS : Cond.static arraycopyName ∈ lw_tbl := List.mem_of_getElem? (i := 592) (by decide +kernel)
theorem kCopyN : Cond.native arraycopyName ∈ lw_tbl := List.mem_of_getElem? (i := 593) (by decide +kernel)
theorem kCopyI : Cond.initialized "java/lang/System" ∈ lw_tbl := by decide +kernel
theorem sn_copy {G : zG} {X : zX} {M : zM} {d mc ms a b pc : Nat} {ls : List (Option Value)} {st : List Value} {S : zS} {J : Int64} {E : UInt64} (C : zOK G X M d mc ms) {o o' n n0 n1 idx : Nat} (hL : Cond.methodLink M.1.cls idx arraycopyName ∈ lw_tbl) (hs : zSh o = (1, n0)) (ho : o < zN) (hs' : zSh o' = (1, n1)) (ho' : o' < zN) (h0 : n ≤ n0) (h1 : n ≤ n1) (hn1 : n ≤ 2 ^ 30) (hr : (st.map (fun v => v.category)).sum ≤ 8) (hd : decode M.2.1 pc = .ok (.invokestatic idx, 3)) (k : SN G X a b (pc + 3) ls st (zCp S o o' n) J E) : SN G X a b pc ls (zi n :: zi 0 :: .ref o' :: zi 0 :: .ref o :: st) S J E := by
  obtain ⟨p, l, e, R, s, m, args, below, meth, c, Q⟩ := X
  intro H locs arr hl hn hR hS
  obtain ⟨hx, hb, hml, hown, hlk, hrt, ⟨hT, hK, -⟩, hRm, -⟩ := id C
  have hRm : R = zRm d mc ms := hRm
  subst hRm
  obtain ⟨va, cap, hP, hD, hg⟩ := id hR
  have he := zW_get (G := G) (va := va) (cap := cap) (I := zIn S) (J := J) (E := E) ho (zSh_in hs (by decide))
  have he' := zW_get (G := G) (va := va) (cap := cap) (I := zIn S) (J := J) (E := E) ho' (zSh_in hs' (by decide))
  have hset : (zW G va cap (zIn S) J E).set (zIx o') (zAd G.2.2.1 va o', .inl (G.2.1 1, n1, .inl (va_cpy (zIn S o) (zIn S o') 0 0 n))) = zW G va cap (zIn (zCp S o o' n)) J E := zW_set (zSh_in hs' (by decide)) (by rw [zEnt_int hs', zIn_cp]) (fun q _ hq => zEnt_congr (zIn_cp_off hq))
  rw [zAd_ne (zSh_ne hs (by decide)), zEnt_int hs] at he
  rw [zAd_ne (zSh_ne hs' (by decide))] at he' hset
  rw [zEnt_int hs'] at he'
  have hcl : (nI n).toNatClampNeg = n := nI_clamp (by omega)
  have hc0 : (nI 0).toNatClampNeg = 0 := rfl
  have hcat : (((st.map (zTr G.2.2.1))).map fun v => v.category).sum ≤ 8 := by
    rw [List.map_map]
    rw [show ((fun v : Value => v.category) ∘ zTr G.2.2.1) = (fun v => v.category) from funext (fun v => zTr_cat _ v)]
    exact hr
  refine va_copyi (sp := nI 0) (dp := nI 0) (n := nI n) hx hb (by rw [hl.1]; exact hn.symm) hown (hT _ hL rfl args) (hT _ kCopyN rfl args) (hT _ kCopyS rfl args) (hT _ kCopyI rfl args) hK hP hD hS o o' 0 0 he he' (zTys_get (by decide)) (zTys_get (by decide)) rfl (by decide) (by decide) (nI_pos (by omega)) (by rw [hcl, hc0]; omega) (by rw [hcl, hc0]; omega) (fun i _ => rfl) (by simp only [zRm]; omega) ?_ hd (fun H1 locs1 hP1 hD1 hS1 => ?_)
  · have e1 : nativeFrameWords "java/lang/System" "arraycopy" 5 ≤ 30 := by decide +kernel
    simp only [zRm]
    omega
  · rw [hcl, hc0] at hP1 hD1
    rw [hset] at hP1 hD1
    exact k H1 locs1 arr hl hn ⟨va, cap, hP1, hD1, hg.1.trans (by unfold zCap; rw [zIn_cp_off (Ne.symm (zSh_ne10 hs' (by decide)))]), hg.2⟩ hS1
theorem zTb (g m : Nat) : (g &&& 1 * 2 ^ m = 0) ↔ g.testBit m = false := by
  rw [Nat.one_mul]
  constructor
  · intro h
    have h2 := congrArg (fun z => z.testBit m) h
    simpa [Nat.testBit_and, Nat.testBit_two_pow_self] using h2
  · intro h
    apply Nat.eq_of_testBit_eq
    intro i
    by_cases hi : m = i
    · subst hi; simp [h]
    · simp [Nat.testBit_two_pow, hi]
theorem zTbT {g m : Nat} (h : ¬ g &&& 1 * 2 ^ m = 0) : g.testBit m = true := by
  cases e : g.testBit m with
  | true => rfl
  | false => exact absurd ((zTb g m).mpr e) h
theorem zTbB {g m : Nat} (h : m < 32) : g &&& 1 * 2 ^ m < 2 ^ 32 := by
  have h1 : g &&& 1 * 2 ^ m ≤ 1 * 2 ^ m := Nat.and_le_right
  have h2 : 2 ^ m ≤ 2 ^ 31 := Nat.pow_le_pow_right (by decide) (by omega)
  omega
