/-! unsigned shifts, large constants, counting of bits -/
section ZB
variable {G : zG} {X : zX} {M : zM} {d mc ms a b pc : Nat} {ls : List (Option Value)} {st : List Value} {S : zS} {J : Int64} {E : UInt64} 
theorem nI_ushr {x y : Nat} (h : y < 32) : ((nI x).toUInt32 >>> ((nI y).toUInt32 &&& Int32.toUInt32 31)).toInt32 = nI (x % 2 ^ 32 / 2 ^ y) := by
  have e : ∀ y : Fin 32, (((nI y.val).toUInt32 &&& Int32.toUInt32 31).toBitVec % 32).toNat = y.val := by decide +kernel
  apply Int32.toBitVec_inj.mp
  apply BitVec.eq_of_toNat_eq
  rw [pk_ushr _ _ y (e ⟨y, h⟩), nI_bv, nI_bv, BitVec.toNat_ofNat, BitVec.toNat_ofNat]
  exact (Nat.mod_eq_of_lt (Nat.lt_of_le_of_lt (Nat.div_le_self _ _) (Nat.mod_lt _ (by decide)))).symm

theorem sn_iushr (C : zOK G X M d mc ms) {x y : Nat} (h : y < 32) (hd : decode M.2.1 pc = .ok (.iushr, 1)) (k : SN G X a b (pc + 1) ls (zi (x % 2 ^ 32 / 2 ^ y) :: st) S J E) : SN G X a b pc ls (zi y :: zi x :: st) S J E := sw_iushr C hd (by rw [nI_ushr h]; exact k)
end ZB
theorem sn_ldcw {G : zG} {X : zX} {M : zM} {d mc ms a b pc : Nat} {ls : List (Option Value)} {st : List Value} {S : zS} {J : Int64} {E : UInt64} (C : zOK G X M d mc ms) {idx : Nat} {v : Int32} (x : Nat) (hv : v = nI x) (hw : Cond.constant M.1.cls idx v ∈ lw_tbl) (hd : decode M.2.1 pc = .ok (.ldc_w idx, 3)) (k : SN G X a b (pc + 3) ls (zi x :: st) S J E) : SN G X a b pc ls st S J E := by
  obtain ⟨p, l, e, R, s, m, args, below, meth, c, Q⟩ := X
  intro H locs arr hl hn hR hS
  obtain ⟨hx, hb, hml, hown, hlk, hrt, ⟨hT, hK, -⟩, -⟩ := id C
  subst hv
  exact lv_ldcw hx hb hown (hT _ hw rfl args) hd (k H locs arr hl hn hR hS)
def zcnt (n : Nat) (p : Nat → Bool) : Nat := zIt (fun i c => c + (p i).toNat) n 0
def zpop (x : Nat) : Nat := zcnt 12 (fun i => x.testBit i)
def zBc (x : Nat) : Nat :=
  let a := x - (x % 2 ^ 32 / 2 ^ 1 &&& 1431655765)
  let b := (a &&& 858993459) + (a % 2 ^ 32 / 2 ^ 2 &&& 858993459)
  let c := b + b % 2 ^ 32 / 2 ^ 4 &&& 252645135
  let d := c + c % 2 ^ 32 / 2 ^ 8
  let e := d + d % 2 ^ 32 / 2 ^ 16
  e &&& 63
theorem zBc_pop0 : ∀ x y : Fin 64, zBc (64 * x.val + y.val) = zpop (64 * x.val + y.val) := by decide +kernel
theorem zBc_pop {x : Nat} (h : x < 4096) : zBc x = zpop x := by
  have h2 := zBc_pop0 ⟨x / 64, by omega⟩ ⟨x % 64, by omega⟩
  simpa [Nat.div_add_mod] using h2
theorem kMinS : Cond.static Lib.Math.min.name ∈ lw_tbl := List.mem_of_getElem? (i := 354) (by decide +kernel)
theorem kMinC : Cond.code Lib.Math.min.name Lib.Math.min.code 2 (some .int) ∈ lw_tbl := List.mem_of_getElem? (i := 419) (by decide +kernel)
theorem kMaxS : Cond.static Lib.Math.max.name ∈ lw_tbl := List.mem_of_getElem? (i := 667) (by decide +kernel)
theorem kMaxC : Cond.code Lib.Math.max.name Lib.Math.max.code 2 (some .int) ∈ lw_tbl := List.mem_of_getElem? (i := 719) (by decide +kernel)
theorem kMathI : Cond.initialized "java/lang/Math" ∈ lw_tbl := List.mem_of_getElem? (i := 46) (by decide +kernel)
theorem sn_min {G : zG} {X : zX} {M : zM} {d mc ms a b pc : Nat} {ls : List (Option Value)} {st : List Value} {S : zS} {J : Int64} {E : UInt64} (C : zOK G X M d mc ms) {x y idx : Nat} (hL : Cond.methodLink M.1.cls idx Lib.Math.min.name ∈ lw_tbl) (hx0 : x < 2 ^ 31) (hy0 : y < 2 ^ 31) (ha : a ≤ mc) (hb0 : b ≤ ms) (hr : (st.map (fun v => v.category)).sum ≤ 8) (hd : decode M.2.1 pc = .ok (.invokestatic idx, 3)) (k : SN G X a b (pc + 3) ls (zi (min x y) :: st) S J E) : SN G X a b pc ls (zi y :: zi x :: st) S J E := by
  obtain ⟨p, l, e, R, s, m, args, below, meth, c, Q⟩ := X
  intro H locs arr hl hn hR hS
  obtain ⟨hx, hb, hml, hown, hlk, hrt, ⟨hT, hK, -⟩, hRm, -⟩ := id C
  have hRm : R = zRm d mc ms := hRm
  subst hRm
  have hcat : (((st.map (zTr G.2.2.1))).map fun v => v.category).sum ≤ 8 := by
    rw [List.map_map]
    rw [show ((fun v : Value => v.category) ∘ zTr G.2.2.1) = (fun v => v.category) from funext (fun v => zTr_cat _ v)]
    exact hr
  refine va_mmin hx hb (by rw [hl.1]; exact hn.symm) hown (hT _ hL rfl args) (hT _ kMinS rfl args) (hT _ kMathI rfl args) (hT _ kMinC rfl args) (by simp only [zRm]; omega) (by simp only [zRm]; omega) ha hb0 hd ?_
  have e1 : (if nI y < nI x then nI y else nI x) = nI (min x y) := by
    by_cases h : y < x
    · rw [if_pos ((nI_ltI hy0 hx0).mpr h)]; congr 1; omega
    · rw [if_neg (fun q => h ((nI_ltI hy0 hx0).mp q))]; congr 1; omega
  rw [e1]
  exact k H locs arr hl hn hR hS
theorem sn_max {G : zG} {X : zX} {M : zM} {d mc ms a b pc : Nat} {ls : List (Option Value)} {st : List Value} {S : zS} {J : Int64} {E : UInt64} (C : zOK G X M d mc ms) {x y : Int32} {z idx : Nat} (hL : Cond.methodLink M.1.cls idx Lib.Math.max.name ∈ lw_tbl) (hz : (if x < y then y else x) = nI z) (ha : a ≤ mc) (hb0 : b ≤ ms) (hr : (st.map (fun v => v.category)).sum ≤ 8) (hd : decode M.2.1 pc = .ok (.invokestatic idx, 3)) (k : SN G X a b (pc + 3) ls (zi z :: st) S J E) : SN G X a b pc ls (.int y :: .int x :: st) S J E := by
  obtain ⟨p, l, e, R, s, m, args, below, meth, c, Q⟩ := X
  intro H locs arr hl hn hR hS
  obtain ⟨hx, hb, hml, hown, hlk, hrt, ⟨hT, hK, -⟩, hRm, -⟩ := id C
  have hRm : R = zRm d mc ms := hRm
  subst hRm
  have hcat : (((st.map (zTr G.2.2.1))).map fun v => v.category).sum ≤ 8 := by
    rw [List.map_map]
    rw [show ((fun v : Value => v.category) ∘ zTr G.2.2.1) = (fun v => v.category) from funext (fun v => zTr_cat _ v)]
    exact hr
  refine va_mmax hx hb (by rw [hl.1]; exact hn.symm) hown (hT _ hL rfl args) (hT _ kMaxS rfl args) (hT _ kMathI rfl args) (hT _ kMaxC rfl args) (by simp only [zRm]; omega) (by simp only [zRm]; omega) ha hb0 hd ?_
  rw [hz]
  exact k H locs arr hl hn hR hS
theorem kMinX1 : Cond.methodLink RX1 57 Lib.Math.min.name ∈ lw_tbl := List.mem_of_getElem? (i := 353) (by decide +kernel)
theorem kMinX0 : Cond.methodLink RX0 29 Lib.Math.min.name ∈ lw_tbl := List.mem_of_getElem? (i := 600) (by decide +kernel)
theorem kMaxX2 : Cond.methodLink RX2 44 Lib.Math.max.name ∈ lw_tbl := List.mem_of_getElem? (i := 666) (by decide +kernel)
