/-! the output's bytes grow -/
theorem zP_11 {o j : Nat} (ho : o < zN) (h : zP o j = some 11) : o = 10 ∧ j = 0 := by
  have ho : o < 201 := ho
  unfold zP at h
  split at h
  · unfold zPt at h
    split at h <;> first | (injection h with h; omega) | (cases h; done) | exact ⟨rfl, rfl⟩
  · unfold zPs at h
    split at h <;> first | (injection h with h; omega) | cases h
/-- the ints of the grown output -/
def zGr (I : zI) (n' : Nat) : zI := fun a b => if a = 10 ∧ b = 99 then nI n' else if a = 11 then zLong (I 11) (zCap I) b else I a b
theorem zGr_o {I : zI} {n' a b : Nat} (h : a ≠ 11) (h2 : a ≠ 10 ∨ b ≠ 99) : zGr I n' a b = I a b := by
  unfold zGr; rw [if_neg (by omega), if_neg h]
theorem zEnt_va {G : zG} {va va' cap cap' : Nat} {I I' : zI} {J : Int64} {E : UInt64} {o : Nat} (ho : o < zN) (h10 : o ≠ 10) (h11 : o ≠ 11) (hI : I' o = I o) : zEnt G va cap I J E o = zEnt G va' cap' I' J E o := by
  have hz : ∀ j, (zP o j).map (zAd G.2.2.1 va) = (zP o j).map (zAd G.2.2.1 va') := by
    intro j
    cases h : zP o j with
    | none => rfl
    | some q =>
      have hq : q ≠ 11 := fun e => h10 (zP_11 ho (e ▸ h)).1
      simp [zAd_ne hq]
  unfold zEnt zFv
  simp only [hz, hI, if_neg h11]
section ZGW
variable {G : zG} {X : zX} {M : zM} {d mc ms a b pc : Nat} {ls : List (Option Value)} {st : List Value} {I : zI} {J : Int64} {E : UInt64}
set_option maxHeartbeats 4000000 in
theorem sw_grow {va : Nat} (C : zOK G X M d mc ms) (hM : M.1.cls = RJ5) (hG : G.2.2.1 298 ≠ 1) (hd1 : 2 ≤ d) {n' : Nat} (hlt : zCap I < n') (hn : n' < 2 ^ 20) (hf : ∀ i, i < zCap I → fits .byte (.int (I 11 i)) = true) (hl0 : zOutL ls) (hs0 : zOuts st) (hr : (st.map (fun v => v.category)).sum ≤ 7) (ha : a + 1 ≤ mc) (hb : b + n' ≤ ms) (hd : decode M.2.1 pc = .ok (.invokestatic 108, 3)) (hd2 : decode M.2.1 (pc + 3) = .ok (.putfield 15, 3)) (k : SW G X (a + 1) (b + n') (pc + 6) ls st (zGr I n') J E) : SW (zGw G va) X a b pc ls (zi n' :: .ref 11 :: .ref 10 :: st) I J E := by
  obtain ⟨p, l, e, R, s, m, args, below, meth, c, Q⟩ := X
  intro H locs arr hl hn0 hR hS
  have C' := C
  obtain ⟨hx, hbb, hml, hown, hlk, hrt, ⟨hT, hK, -⟩, -⟩ := C
  obtain ⟨va', cap, hP, hD, hg⟩ := hR
  have hva : va' = va := hg.2 rfl
  subst hva
  rw [zW_w] at hP hD
  have hcap : cap = zCap I := hg.1
  have he := zW_get (G := G) (va := va') (cap := cap) (I := I) (J := J) (E := E) (o := 11) (by decide) (by decide)
  rw [zEnt_byt, show zAd G.2.2.1 va' 11 = va' from rfl] at he
  have hstk : (zi n' :: Value.ref 11 :: Value.ref 10 :: st).map (zTr (zGw G va').2.2.1) = ([Value.ref va', zi n'] : List Value).reverse ++ (.ref (G.2.2.1 10) :: st.map (zTr G.2.2.1)) := by
    rw [List.map_cons, List.map_cons, List.map_cons, zMap_w hs0]
    rfl
  rw [hstk]
  have hcat : ((Value.ref (G.2.2.1 10) :: st.map (zTr G.2.2.1)).map (fun v => v.category)).sum ≤ 8 := by
    rw [List.map_cons, List.sum_cons, List.map_map, show ((fun v : Value => v.category) ∘ zTr G.2.2.1) = (fun v => v.category) from funext (fun v => zTr_cat _ v)]
    show 1 + _ ≤ 8
    omega
  refine zRaw_S C' (ws := zW G va' cap I J E) vJ7_copyOf_9075b (hM ▸ kJ5_108) hd rfl hcat (c_J7_copyOf C'.hl he (by omega) hn (fun i hi => hf i (by omega))) (by omega) (by omega) (by omega) (by rw [hl.1]; exact hn0) hP hD hS (fun r ws' H1 locs1 hq hP1 hD1 hS1 => ?_)
  obtain ⟨q2, rfl, rfl⟩ := hq
  obtain ⟨⟨hc, hN, hws, hty, hnm⟩, hj, hlink⟩ := fJ5_15
  have hin : ∀ w ∈ u_ws (zCls 1).1 (zCls 1).2.1 (zCls 1).2.2, w ∈ u_ws (zCls 1).1 (zCls 1).2.1 (zCls 1).2.2 := fun w h => h
  have hts : ∀ w ∈ u_ws (zCls 1).1 (zCls 1).2.1 (zCls 1).2.2, w.before args s = true := fun w h => hT w (hws w h).1 (hws w h).2 args
  have he10 : (zW G va' cap I J E ++ [(q2, (.inl (G.2.1 3, n', .inl (zLong (I 11) cap)) : va_E))])[10]? = some (G.2.2.1 10, .inr (1, (List.range 4).map (zFv G.2.2.1 va' I 10 1))) := by
    rw [List.getElem?_append_left (by rw [zW_len]; decide)]
    have h := zW_get (G := G) (va := va') (cap := cap) (I := I) (J := J) (E := E) (o := 10) (by decide) (by decide)
    rw [zEnt_obj (ci := 1) rfl, zAd_ne (by decide)] at h
    exact h
  have kk : ∀ (H2 : Heap) (locs2 : List Loc), va_P G.1 vwCl ((zW G va' cap I J E ++ [(q2, (.inl (G.2.1 3, n', .inl (zLong (I 11) cap)) : va_E))]).set 10 (G.2.2.1 10, .inr (1, ((List.range 4).map (zFv G.2.2.1 va' I 10 1)).set 0 (.ref q2)))) H2 → va_D (zA G) ((zW G va' cap I J E ++ [(q2, (.inl (G.2.1 3, n', .inl (zLong (I 11) cap)) : va_E))]).set 10 (G.2.2.1 10, .inr (1, ((List.range 4).map (zFv G.2.2.1 va' I 10 1)).set 0 (.ref q2)))) → va_S (zA G) s.heap H2 locs2 → W p l e R s m args below meth c H2 locs2 (a + 1) (b + n') Q (F0 m (pc + 3 + 3) arr (st.map (zTr G.2.2.1))) := by
    intro H2 locs2 hP2 hD2 hS2
    have hmap : ∀ (i : Nat) (q : Nat × va_E), (zW G q2 n' (zGr I n') J E)[i]? = some q → ((zW G va' cap I J E ++ [(q2, (.inl (G.2.1 3, n', .inl (zLong (I 11) cap)) : va_E))]).set 10 (G.2.2.1 10, .inr (1, ((List.range 4).map (zFv G.2.2.1 va' I 10 1)).set 0 (.ref q2))))[if i = 11 then 188 else i]? = some q := by
      intro i q hi
      have hlen : (zW G va' cap I J E).length = 188 := zW_len
      have hi2 : i < 188 := by
        rcases Nat.lt_or_ge i 188 with h | h
        · exact h
        · rw [List.getElem?_eq_none (by rw [zW_len]; exact h)] at hi; cases hi
      rw [zW_at hi2] at hi
      have hi := Option.some.inj hi
      subst hi
      by_cases h11 : i = 11
      · subst h11
        have e11 : zO 11 = 11 := rfl
        rw [e11]
        rw [if_pos rfl, List.getElem?_set_ne (by decide), List.getElem?_append_right (by rw [hlen]; exact Nat.le_refl _), hlen, zEnt_byt]
        show some (q2, _) = some (q2, _)
        have e1 : zGr I n' 11 = zLong (I 11) cap := by
          funext b; unfold zGr; rw [if_neg (by omega), if_pos rfl, hcap]
        rw [e1]
      · have h11' : zO i ≠ 11 := fun e => h11 (by have h := zIx_o (k := i); rw [e] at h; exact h.symm)
        rw [if_neg h11, zAd_ne h11']
        by_cases h10 : i = 10
        · subst h10
          have e10 : zO 10 = 10 := rfl
          rw [e10]
          rw [List.getElem?_set_self (by simp [hlen]), zEnt_obj (ci := 1) rfl]
          have e2 : ((List.range (zNf 1)).map (zFv G.2.2.1 q2 (zGr I n') 10 1)) = ((List.range 4).map (zFv G.2.2.1 va' I 10 1)).set 0 (.ref q2) := by
            show [zFv G.2.2.1 q2 (zGr I n') 10 1 0, zFv G.2.2.1 q2 (zGr I n') 10 1 1, zFv G.2.2.1 q2 (zGr I n') 10 1 2, zFv G.2.2.1 q2 (zGr I n') 10 1 3] = [.ref q2, zFv G.2.2.1 va' I 10 1 1, zFv G.2.2.1 va' I 10 1 2, zFv G.2.2.1 va' I 10 1 3]
            have f : ∀ k, k < 99 → zIsR (zTy 1 k) = false → zFv G.2.2.1 q2 (zGr I n') 10 1 k = zFv G.2.2.1 va' I 10 1 k := fun k hk hz => by
              unfold zFv; rw [hz, zGr_o (by decide) (Or.inr (by omega))]; rfl
            rw [f 1 (by decide) rfl, f 2 (by decide) rfl, f 3 (by decide) rfl]
            rfl
          rw [e2]
        · have h10' : zO i ≠ 10 := fun e => h10 (by have h := zIx_o (k := i); rw [e] at h; exact h.symm)
          rw [List.getElem?_set_ne (fun h => h10 h.symm), List.getElem?_append_left (by rw [hlen]; exact hi2), zW_at hi2, zAd_ne h11', zEnt_va (zO_lt hi2).1 h10' h11' (show zGr I n' (zO i) = I (zO i) from by funext b; exact zGr_o h11' (Or.inl h10'))]
    have hP3 : va_P G.1 vwCl (zW G q2 n' (zGr I n') J E) H2 := hP2.by _ hmap
    have hD3 : va_D (zA G) (zW G q2 n' (zGr I n') J E) := by
      refine ⟨fun i j u v hu hv huv => ?_, fun i u hu => hD2.2 _ _ (hmap i u hu)⟩
      have hh := hD2.1 _ _ u v (hmap i u hu) (hmap j v hv) huv
      have hb2 : ∀ {i : Nat} {u : Nat × va_E}, (zW G q2 n' (zGr I n') J E)[i]? = some u → i < 188 := fun {i u} h => by
        rcases Nat.lt_or_ge i 188 with h1 | h1
        · exact h1
        · rw [List.getElem?_eq_none (by rw [zW_len]; exact h1)] at h; cases h
      have h1 := hb2 hu
      have h2 := hb2 hv
      split at hh <;> split at hh <;> omega
    refine k H2 locs2 arr ((zHas_w hl0).mp hl) hn0 ⟨q2, n', hP3, hD3, ?_, fun h => (hG h).elim⟩ hS2
    show n' = zCap (zGr I n')
    unfold zCap
    rw [show zGr I n' 10 99 = nI n' from by unfold zGr; rw [if_pos ⟨rfl, rfl⟩]]
    exact (nI_clamp (by omega)).symm
  rcases hlink with h | ⟨host, h⟩
  · exact va_put hx hbb hts hin (zTy 1) hty hnm (hM ▸ hown) hK hP1 hD1 hS1 10 he10 hc 0 (by decide) (hT _ h rfl args) (fun _ h => h) rfl (hty 0 (by decide)) rfl rfl (by simp) hd2 kk
  · exact va_putN hx hbb hts hin (zTy 1) hty hnm (hM ▸ hown) hK hP1 hD1 hS1 10 he10 hc 0 (by decide) (hT _ h rfl args) (fun _ h => h) rfl (hty 0 (by decide)) rfl rfl (by simp) hd2 kk
end ZGW
