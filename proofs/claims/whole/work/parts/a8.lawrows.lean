/-! the law's own rows -/
abbrev mL_law : zM := (yL_law, cL_law, 9, some .boolean)
def zScA (G : zG) (X : zX) (L : Nat) (xs : Nat → Int32) : Prop := va_X (G.2.2.1 400) L xs X.2.2.2.2.1 X.2.2.2.2.1.heap ∧ G.2.2.1 400 < X.2.2.2.2.1.heap.size ∧ ¬ zA G (G.2.2.1 400)
def zLw (G : zG) (X : zX) (L : Nat) (xs : Nat → Int32) : Prop := zOK G X mL_law 1200 603072 7211114 ∧ zScA G X L xs ∧ zNcF X.2.2.2.2.1 ∧ X.2.1.stackTraces = false ∧ G.2.2.1 298 ≠ 1
theorem zInt (v : Int32) : ∃ x, x < 2 ^ 32 ∧ v = nI x := ⟨v.toUInt32.toNat, v.toUInt32.toNat_lt, by
  apply Int32.toBitVec_inj.mp
  rw [nI_bv]
  apply BitVec.eq_of_toNat_eq
  rw [BitVec.toNat_ofNat, Nat.mod_eq_of_lt v.toUInt32.toNat_lt]
  rfl⟩
theorem zCmp_self {x : Int64} : lg_cmp x x = 0 := by
  unfold lg_cmp
  simp
theorem nI_i2cw {x : Nat} : ((nI x).toUInt32 % 65536).toInt32 = nI (x % 65536) := by
  apply Int32.toBitVec_inj.mp
  rw [nI_bv]
  apply BitVec.eq_of_toNat_eq
  rw [BitVec.toNat_ofNat]
  show ((nI x).toUInt32 % 65536).toNat = _
  rw [UInt32.toNat_mod]
  show (nI x).toBitVec.toNat % 65536 = _
  rw [nI_bv, BitVec.toNat_ofNat]
  omega
section LR
variable {G : zG} {X : zX} {M : zM} {d mc ms a b pc : Nat} {ls : List (Option Value)} {st : List Value} {I : zI} {J : Int64} {E : UInt64} {L : Nat} {xs : Nat → Int32}
theorem sw_sld (C : zOK G X M d mc ms) (Z : zScA G X L xs) {i x : Nat} (hi : i < L) (hL : L ≤ 1536) (hx : xs i = nI x) (hd : decode M.2.1 pc = .ok (.iaload, 1)) (k : SW G X a b (pc + 1) ls (zi x :: st) I J E) : SW G X a b pc ls (zi i :: .ref 400 :: st) I J E := by
  obtain ⟨p, l, e, R, s, m, args, below, meth, c, Q⟩ := X
  intro H locs arr hl hn hR hS
  have kk := k H locs arr hl hn hR hS
  refine va_sld C.1 C.2.1 Z.1 Z.2.1 Z.2.2 hS (zInp hi (by omega)) hd ?_
  rw [nI_clamp (by omega), hx]
  exact kk
theorem sw_slen (C : zOK G X M d mc ms) (Z : zScA G X L xs) (hd : decode M.2.1 pc = .ok (.arraylength, 1)) (k : SW G X a b (pc + 1) ls (zi L :: st) I J E) : SW G X a b pc ls (.ref 400 :: st) I J E := by
  obtain ⟨p, l, e, R, s, m, args, below, meth, c, Q⟩ := X
  intro H locs arr hl hn hR hS
  exact va_slen C.1 C.2.1 Z.1 Z.2.1 Z.2.2 hS hd (k H locs arr hl hn hR hS)
theorem sn_i2cw (C : zOK G X M d mc ms) {x : Nat} (hd : decode M.2.1 pc = .ok (.i2c, 1)) (k : SW G X a b (pc + 1) ls (zi (x % 65536) :: st) I J E) : SW G X a b pc ls (zi x :: st) I J E := sw_i2c C hd (by rw [nI_i2cw]; exact k)
theorem sw_wk {ls' : List (Option Value)} (hlen : ls'.length = ls.length) (h : ∀ (i : Nat) (v : Value), ls'[i]? = some (some v) → ls[i]? = some (some v)) (k : SW G X a b pc ls' st I J E) : SW G X a b pc ls st I J E := by
  obtain ⟨p, l, e, R, s, m, args, below, meth, c, Q⟩ := X
  intro H locs arr hl hn hR hS
  exact k H locs arr ⟨hl.1.trans hlen.symm, hl.2.1, fun i v hv => hl.2.2 i v (h i v hv)⟩ (hlen.trans hn) hR hS
theorem sw_fg {u0 u1 u2 u3 u4 u5 u6 u7 u8 : Option Value} (k : SW G X a b pc [u0, u1, u2, u3, u4, u5, none, none, none] st I J E) : SW G X a b pc [u0, u1, u2, u3, u4, u5, u6, u7, u8] st I J E := by
  refine sw_wk (ls' := [u0, u1, u2, u3, u4, u5, none, none, none]) rfl (fun i v hv => ?_) k
  match i, hv with
  | 0, hv => exact hv
  | 1, hv => exact hv
  | 2, hv => exact hv
  | 3, hv => exact hv
  | 4, hv => exact hv
  | 5, hv => exact hv
  | 6, hv => cases hv
  | 7, hv => cases hv
  | 8, hv => cases hv
  | n + 9, hv => cases hv
end LR
/-- behind a case: on with the loop -/
def zGo (G : zG) (X : zX) (a b i : Nat) : Prop := ∀ (a' b' : Nat) (S' : zS) (J' : Int64) (E' : UInt64), a' ≤ a + 25 → b' ≤ b + 850 → zInv S' S' → SN G X a' b' 2938 [some (.ref 400), some (.ref 0), some (.ref 12), some (.ref 23), some (.ref 24), some (zi i), none, none, none] [] S' J' E'
