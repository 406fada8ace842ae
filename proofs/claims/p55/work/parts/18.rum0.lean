/-! a rumour's object and its row of rounds -/
def zRu (o : Nat) : Prop := zSh o = (0, 6) ∧ o < zN ∧ zP o 5 = some (o + 1) ∧ o + 1 ≠ 11 ∧ zSh (o + 1) = (1, 12) ∧ o + 1 < zN
theorem zRu3 : zRu 3 := by unfold zRu; decide +kernel
theorem zRuS : ∀ j : Fin 11, ∀ r : Fin 4, zRu (25 + 16 * j.val + 8 + 2 * r.val) := by unfold zRu; decide +kernel
theorem zRu0 {r : Nat} (h : r < 4) : zRu (33 + 2 * r) := by
  have h2 := zRuS 0 ⟨r, h⟩
  simpa using h2
theorem zP32 {r : Nat} (h : r < 4) : zP 32 r = some (33 + 2 * r) := by
  have h2 : ∀ r : Fin 4, zP 32 r.val = some (33 + 2 * r.val) := by decide +kernel
  exact h2 ⟨r, h⟩
theorem sn_putZN {G : zG} {X : zX} {M : zM} {d mc ms a b pc : Nat} {ls : List (Option Value)} {st : List Value} {S : zS} {J : Int64} {E : UInt64} (C : zOK G X M d mc ms) {o ci j idx x : Nat} (hx : x ≤ 1) (hF : zFld M.1.cls idx ci j) (hs : zSh o = (0, ci)) (ho : o < zN) (ht : zTy ci j = .boolean) (hfin : ((zCls ci).2.1 j).2.2.2 = false) (hd : decode M.2.1 pc = .ok (.putfield idx, 3)) (k : SN G X a b (pc + 3) ls st (zU S o j x) J E) : SN G X a b pc ls (zi x :: .ref o :: st) S J E := by
  have e : x = 0 ∨ x = 1 := by omega
  rcases e with rfl | rfl
  · exact sn_putZ C (x := false) hF hs ho ht hfin hd k
  · exact sn_putZ C (x := true) hF hs ho ht hfin hd k
theorem nI_max0 {f : Nat} (h : f < 2 ^ 31) : (if (0 : Int32) < nI f - nI 1 then nI f - nI 1 else 0) = nI (f - 1) := by
  rcases Nat.eq_zero_or_pos f with rfl | h0
  · decide
  · rw [pk_sub h0]
    show (if nI 0 < nI (f - 1) then nI (f - 1) else nI 0) = nI (f - 1)
    by_cases h2 : 0 < f - 1
    · rw [if_pos ((nI_ltI (a := 0) (by decide) (by omega)).mpr h2)]
    · rw [if_neg (fun q => h2 ((nI_ltI (a := 0) (by decide) (by omega)).mp q)), show f - 1 = 0 from by omega]
