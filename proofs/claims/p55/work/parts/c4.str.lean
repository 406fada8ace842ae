/-! strings over a raw world -/
theorem rCopyJ0 : Cond.methodLink RJ0 212 arraycopyName ∈ lw_tbl := (List.mem_of_getElem? (i := 926) (by decide +kernel))
theorem pJ5_putStringAt_47b60 : zMeP mJ5_putStringAt_47b60 2 := ⟨vJ5_putStringAt_47b60.1, vJ5_putStringAt_47b60.2, (List.mem_of_getElem? (i := 895) (by decide +kernel)), rfl⟩
theorem pJ5_inflateIfNeededFor_a7421 : zMeP mJ5_inflateIfNeededFor_a7421 1 := ⟨vJ5_inflateIfNeededFor_a7421.1, vJ5_inflateIfNeededFor_a7421.2, (List.mem_of_getElem? (i := 899) (by decide +kernel)), rfl⟩
theorem uJ5_append_cf1ce : zMeU mJ5_append_cf1ce 1 := ⟨vJ5_append_cf1ce.1, vJ5_append_cf1ce.2, (List.mem_of_getElem? (i := 1534) (by decide +kernel)), rfl, by decide⟩
theorem uJ5_getValue_6d5f1 : zMeU mJ5_getValue_6d5f1 0 := ⟨vJ5_getValue_6d5f1.1, vJ5_getValue_6d5f1.2, (List.mem_of_getElem? (i := 967) (by decide +kernel)), rfl, by decide⟩
theorem sGV : Cond.selects "java/lang/StringBuilder" mJ5_getValue_6d5f1.1 mJ5_getValue_6d5f1.1 ∈ lw_tbl := (List.mem_of_getElem? (i := 968) (by decide +kernel))
theorem sLen : Cond.selects "java/lang/StringBuilder" mJ5_length_8abf5.1 mJ4_length_8abf5.1 ∈ lw_tbl := (List.mem_of_getElem? (i := 973) (by decide +kernel))
theorem sApS : Cond.selects "java/lang/StringBuilder" mJ5_append_cf1ce.1 mJ4_append_cf1ce.1 ∈ lw_tbl := (List.mem_of_getElem? (i := 1545) (by decide +kernel))
theorem cStr : Cond.classLink "java/lang/String" 10 "java/lang/String" ∈ lw_tbl := (List.mem_of_getElem? (i := 1390) (by decide +kernel))
theorem cStrSB : Cond.classLink "java/lang/StringBuilder" 18 "java/lang/String" ∈ lw_tbl := (List.mem_of_getElem? (i := 957) (by decide +kernel))
theorem cArB : Cond.classLink "java/util/Arrays" 311 "[B" ∈ lw_tbl := (List.mem_of_getElem? (i := 851) (by decide +kernel))
theorem nStr : Cond.instantiable "java/lang/String" 4 ∈ lw_tbl := (List.mem_of_getElem? (i := 688) (by decide +kernel))
theorem nSB : Cond.instantiable "java/lang/StringBuilder" 4 ∈ lw_tbl := (List.mem_of_getElem? (i := 235) (by decide +kernel))
theorem iStr : Cond.initialized "java/lang/String" ∈ lw_tbl := (List.mem_of_getElem? (i := 33) (by decide +kernel))
theorem iSB : Cond.initialized "java/lang/StringBuilder" ∈ lw_tbl := (List.mem_of_getElem? (i := 32) (by decide +kernel))
theorem bCl1 : Cond.methodLink "java/util/Arrays" 310 ⟨"[B", "clone", "()Ljava/lang/Object;"⟩ ∈ lw_tbl := (List.mem_of_getElem? (i := 845) (by decide +kernel))
theorem bCl2 : Cond.sameMethod "[B" "java/lang/Object" "clone" "()Ljava/lang/Object;" ∈ lw_tbl := (List.mem_of_getElem? (i := 846) (by decide +kernel))
theorem bCl3 : Cond.native ⟨"java/lang/Object", "clone", "()Ljava/lang/Object;"⟩ ∈ lw_tbl := (List.mem_of_getElem? (i := 847) (by decide +kernel))
theorem bCl4 : Cond.instanceMethod ⟨"java/lang/Object", "clone", "()Ljava/lang/Object;"⟩ ∈ lw_tbl := (List.mem_of_getElem? (i := 848) (by decide +kernel))
theorem bCl5 : Cond.selects "[B" ⟨"[B", "clone", "()Ljava/lang/Object;"⟩ ⟨"java/lang/Object", "clone", "()Ljava/lang/Object;"⟩ ∈ lw_tbl := (List.mem_of_getElem? (i := 849) (by decide +kernel))
theorem bCl6 : Cond.castable "[B" "java/lang/Cloneable" ∈ lw_tbl := (List.mem_of_getElem? (i := 850) (by decide +kernel))
theorem oIJ0 : Cond.methodLink RJ0 1 Lib.objectInit ∈ lw_tbl := (List.mem_of_getElem? (i := 964) (by decide +kernel))
theorem oIJ5 : Cond.methodLink RJ5 3 Lib.objectInit ∈ lw_tbl := (List.mem_of_getElem? (i := 242) (by decide +kernel))
/-- a string seen: in the world, or one of the law's constants -/
def sV (G : zG) (w : va_W) (q b n : Nat) (f : Nat → Int32) : Prop := (∃ h z, (q, eSt b h z) ∈ w ∧ (b, eBy G n f) ∈ w) ∨ ∃ k, k < 5 ∧ q = G.2.2.1 (360 + k) ∧ b = G.2.2.1 (370 + k) ∧ n = zLlen.getD k 0 ∧ ∀ j, f j = (zLbyt.getD k []).getD j 0
theorem sV.sub {G : zG} {w w' : va_W} {q b n : Nat} {f : Nat → Int32} (h : sV G w q b n f) (hs : ∀ x ∈ w, x ∈ w') : sV G w' q b n f := by
  rcases h with ⟨h', z, h1, h2⟩ | h
  · exact Or.inl ⟨h', z, hs _ h1, hs _ h2⟩
  · exact Or.inr h
theorem zLlen_le : ∀ k : Fin 5, zLlen.getD k.val 0 ≤ 1 := by decide
section RS
variable {G : zG} {X : zX} {M : zM} {d mc ms a b pc : Nat} {ls : List (Option Value)} {st : List Value} {ws ws' : va_W}
theorem rw_null (C : zOK G X M d mc ms) (hd : decode M.2.1 pc = .ok (.aconst_null, 1)) (k : RW G X a b (pc + 1) ls (.null :: st) ws) : RW G X a b pc ls st ws := by
  obtain ⟨p, l, e, R, s, m, args, below, meth, c, Q⟩ := X
  intro H locs arr hl hn hP hD hS
  exact lv_null C.1 C.2.1 hd (k H locs arr hl hn hP hD hS)
theorem rw_ifnonnull (C : zOK G X M d mc ms) {x : Nat} {off : Int} (tgt : Nat) (hd : decode M.2.1 pc = .ok (.ifnonnull off, 3)) (ht : (pc : Int) + off = (tgt : Int)) (k : RW G X a b tgt ls st ws) : RW G X a b pc ls (.ref x :: st) ws := by
  obtain ⟨p, l, e, R, s, m, args, below, meth, c, Q⟩ := X
  intro H locs arr hl hn hP hD hS
  exact lv_ifnonnull C.1 C.2.1 hd ht (k H locs arr hl hn hP hD hS)
theorem rw_acmp_ne (C : zOK G X M d mc ms) {x y : Nat} {off : Int} (tgt : Nat) (hd : decode M.2.1 pc = .ok (.if_acmp .ne off, 3)) (ht : (pc : Int) + off = (tgt : Int)) (kt : ¬ x = y → RW G X a b tgt ls st ws) (kf : x = y → RW G X a b (pc + 3) ls st ws) : RW G X a b pc ls (.ref y :: .ref x :: st) ws := by
  obtain ⟨p, l, e, R, s, m, args, below, meth, c, Q⟩ := X
  intro H locs arr hl hn hP hD hS
  exact lv_acmp_ne (rx := some x) (ry := some y) C.1 C.2.1 hd ht (fun h => kt (fun e => h (by rw [e])) H locs arr hl hn hP hD hS) (fun h => kf (Option.some.inj h) H locs arr hl hn hP hD hS)
theorem sV.recv {s : State} {H : Heap} {locs : List Loc} {q bb n : Nat} {f : Nat → Int32} (hv : sV G ws q bb n f) (hF : zFacts G s s.heap) (hP : va_P G.1 vwCl ws H) (hS : va_S (zA G) s.heap H locs) : ∃ cell : Cell, H[q]? = some cell ∧ cell.vm.isStatics = false ∧ s.vm.findClass "java/lang/String" = some cell.cls := by
  rcases hv with ⟨h, z, h1, -⟩ | ⟨k, hk, rfl, -⟩
  · obtain ⟨i, hi⟩ := List.getElem?_of_mem h1
    exact va_recv (q := zCls 0) hF.2.1 hP rfl hi
  · exact vk_recv hF.2.2.2.2.2.2.2.2.2.2.2.2 hk hS
theorem rs_getV (C : zOK G X M d mc ms) {q bb n : Nat} {f : Nat → Int32} (hv : sV G ws q bb n f) (hM : M.1.cls = "java/lang/String") (hd : decode M.2.1 pc = .ok (.getfield 9, 3)) (kk : RW G X a b (pc + 3) ls (.ref bb :: st) ws) : RW G X a b pc ls (.ref q :: st) ws := by
  rcases hv with ⟨h, z, h1, -⟩ | ⟨k, hk, rfl, rfl, -⟩
  · obtain ⟨i, hi⟩ := List.getElem?_of_mem h1
    exact rp_get C (k := i) (j := 0) (idx := 9) (by rw [hM]; exact fJ0_9) hi rfl hd kk
  · obtain ⟨p, l, e, R, s, m, args, below, meth, c, Q⟩ := X
    intro H locs arr hl hn hP hD hS
    obtain ⟨hx, hb, hml, hown, hlk, hrt, ⟨hT, hK, -, -, -, -, hfr⟩, -⟩ := id C
    rw [hM] at hown
    exact vk_getf hx hb (hfr.2.2.2.2.2.2.1 k hk).2.2.1 hS hown (hT _ wStrV rfl args) (fun _ h => h) hd (kk H locs arr hl hn hP hD hS)
theorem rs_getC (C : zOK G X M d mc ms) {q bb n : Nat} {f : Nat → Int32} (hv : sV G ws q bb n f) (hM : M.1.cls = "java/lang/String") (hd : decode M.2.1 pc = .ok (.getfield 15, 3)) (kk : RW G X a b (pc + 3) ls (zi 0 :: st) ws) : RW G X a b pc ls (.ref q :: st) ws := by
  rcases hv with ⟨h, z, h1, -⟩ | ⟨k, hk, rfl, rfl, -⟩
  · obtain ⟨i, hi⟩ := List.getElem?_of_mem h1
    exact rp_get C (k := i) (j := 1) (idx := 15) (by rw [hM]; exact fJ0_15) hi rfl hd kk
  · obtain ⟨p, l, e, R, s, m, args, below, meth, c, Q⟩ := X
    intro H locs arr hl hn hP hD hS
    obtain ⟨hx, hb, hml, hown, hlk, hrt, ⟨hT, hK, -, -, -, -, hfr⟩, -⟩ := id C
    rw [hM] at hown
    exact vk_getf hx hb (hfr.2.2.2.2.2.2.1 k hk).2.1 hS hown (hT _ wStrC rfl args) (fun _ h => h) hd (kk H locs arr hl hn hP hD hS)
theorem rs_len (C : zOK G X M d mc ms) {q bb n : Nat} {f : Nat → Int32} (hv : sV G ws q bb n f) (hd : decode M.2.1 pc = .ok (.arraylength, 1)) (kk : RW G X a b (pc + 1) ls (zi n :: st) ws) : RW G X a b pc ls (.ref bb :: st) ws := by
  rcases hv with ⟨h, z, -, h1⟩ | ⟨k, hk, rfl, rfl, rfl, -⟩
  · obtain ⟨i, hi⟩ := List.getElem?_of_mem h1
    exact rw_alenb C hi hd kk
  · obtain ⟨p, l, e, R, s, m, args, below, meth, c, Q⟩ := X
    intro H locs arr hl hn hP hD hS
    obtain ⟨hx, hb, hml, hown, hlk, hrt, ⟨hT, hK, -, -, -, -, hfr⟩, -⟩ := id C
    exact va_tlen hx hb (hfr.2.2.2.2.2.2.1 k hk).2.2.2 hS (v := nI (zLlen.getD k 0)) rfl hd (kk H locs arr hl hn hP hD hS)
/-- a string's bytes copied into a row of the world -/
theorem rs_copy (C : zOK G X M d mc ms) {q bb n q1 n1 k1 p1 idx : Nat} {f g : Nat → Int32} (hv : sV G ws q bb n f) (hL : Cond.methodLink M.1.cls idx arraycopyName ∈ lw_tbl) (he1 : ws[k1]? = some (q1, .inl (G.2.1 3, n1, .inl g))) (h1 : p1 + n ≤ n1) (hn1 : n1 ≤ 2 ^ 30) (hf : ∀ i, fits .byte (.int (f i)) = true) (hr : (st.map (fun v => v.category)).sum ≤ 8) (hw : ws.set k1 (q1, .inl (G.2.1 3, n1, .inl (va_cpy f g 0 p1 n))) = ws') (hd : decode M.2.1 pc = .ok (.invokestatic idx, 3)) (k : RW G X a b (pc + 3) ls st ws') : RW G X a b pc ls (zi n :: zi p1 :: .ref q1 :: zi 0 :: .ref bb :: st) ws := by
  subst hw
  obtain ⟨p, l, e, R, s, m, args, below, meth, c, Q⟩ := X
  intro H locs arr hl hn hP hD hS
  obtain ⟨hx, hb, hml, hown, hlk, hrt, ⟨hT, hK, -, -, -, -, hfr⟩, hRm, -⟩ := id C
  have hRm : R = zRm d mc ms := hRm
  subst hRm
  have hcl : (nI n).toNatClampNeg = n := nI_clamp (by omega)
  have hcp : (nI p1).toNatClampNeg = p1 := nI_clamp (by omega)
  have hc0 : (nI 0).toNatClampNeg = 0 := rfl
  have hcat : (((st.map (zTr zid))).map fun v => v.category).sum ≤ 8 := by
    rw [zMap_id]; exact hr
  have hfr1 : 1 ≤ (zRm d mc ms).frames := by simp only [zRm]; omega
  have hlo : ((st.map (zTr zid)).map fun v => v.category).sum + (nativeFrameWords "java/lang/System" "arraycopy" 5 + 11) ≤ (zRm d mc ms).locals := by
    have e1 : nativeFrameWords "java/lang/System" "arraycopy" 5 ≤ 30 := by decide +kernel
    simp only [zRm]
    omega
  rcases hv with ⟨h, z, -, h0⟩ | ⟨kc, hk, rfl, rfl, hnn, hff⟩
  · obtain ⟨i0, hi0⟩ := List.getElem?_of_mem h0
    refine va_copyi (sp := nI 0) (dp := nI p1) (n := nI n) hx hb (by rw [hl.1]; exact hn.symm) hown (hT _ hL rfl args) (hT _ kCopyN rfl args) (hT _ kCopyS rfl args) (hT _ kCopyI rfl args) hK hP hD hS i0 k1 2 2 hi0 he1 (zTys_get (by decide)) (zTys_get (by decide)) rfl (by decide) (nI_pos (by omega)) (nI_pos (by omega)) (by rw [hcl, hc0]; omega) (by rw [hcl, hcp]; omega) (fun i hi => hf _) hfr1 hlo hd (fun H1 locs1 hP1 hD1 hS1 => ?_)
    rw [hcl, hc0, hcp] at hP1 hD1
    exact k H1 locs1 arr hl hn hP1 hD1 hS1
  · have hff2 : f = fun j => (zLbyt.getD kc []).getD j 0 := funext hff
    subst hff2
    refine vk_copyt (sp := nI 0) (dp := nI p1) (n := nI n) hx hb (by rw [hl.1]; exact hn.symm) hown (hT _ hL rfl args) (hT _ kCopyN rfl args) (hT _ kCopyS rfl args) (hT _ kCopyI rfl args) hK hP hD hS (hfr.2.2.2.2.2.2.1 kc hk).2.2.2 k1 2 he1 (zTys_get (by decide)) (by decide) (nI_pos (by omega)) (nI_pos (by omega)) (by rw [hcl, hc0]; omega) (by rw [hcl, hcp]; omega) (fun i hi => hf _) hfr1 hlo hd (fun H1 locs1 hP1 hD1 hS1 => ?_)
    rw [hcl, hc0, hcp] at hP1 hD1
    exact k H1 locs1 arr hl hn hP1 hD1 hS1
/-- a call on a string -/
theorem rs_call (C : zOK G X M d mc ms) {M' : zM} {d' mc' ms' n q bb m0 idx : Nat} {f : Nat → Int32} {as : List Value} {Qr : Option Value → va_W → Prop} (hv : sV G ws q bb m0 f) (hM : zMeV M' n) (hC : M'.1.cls = "java/lang/String") (hL : zLk M.1.cls idx M'.1) (hd : decode M.2.1 pc = .ok (.invokevirtual idx, 3)) (hn0 : as.length = n) (hr : (st.map (fun v => v.category)).sum ≤ 8) (h : rCR X.2.1 G M' d' mc' ms' (.ref q :: as) ws Qr) (hdd : d' + 1 ≤ d) (ha : a + mc' ≤ mc) (hb : b + ms' ≤ ms) (k : ∀ r ws', Qr r ws' → RW G X (a + mc') (b + ms') (pc + 3) ls (r.toList ++ st) ws') : RW G X a b pc ls (as.reverse ++ .ref q :: st) ws :=
  rw_callVg C hM hL (fun s H locs hs hP hS => by
    subst hs
    rw [hC]
    exact hv.recv C.2.2.2.2.2.2.1 hP hS) hd hn0 hr h hdd ha hb k
theorem rw_clone (C : zOK G X M d mc ms) {q n k : Nat} {f : Nat → Int32} (he : ws[k]? = some (q, .inl (G.2.1 3, n, .inl f))) (hM : M.1.cls = "java/util/Arrays") (hf : ∀ i, fits .byte (.int (f i)) = true) (hr : (st.map (fun v => v.category)).sum ≤ 8) (ha : a + 1 ≤ mc) (hb0 : b + n ≤ ms) (hd : decode M.2.1 pc = .ok (.invokevirtual 310, 3)) (hd2 : decode M.2.1 (pc + 3) = .ok (.checkcast 311, 3)) (kk : ∀ q2, RW G X (a + 1) (b + n) (pc + 3 + 3) ls (.ref q2 :: st) (ws ++ [(q2, .inl (G.2.1 3, n, .inl f))])) : RW G X a b pc ls (.ref q :: st) ws := by
  obtain ⟨p, l, e, R, s, m, args, below, meth, c, Q⟩ := X
  intro H locs arr hl hn hP hD hS
  obtain ⟨hx, hb, hml, hown, hlk, hrt, ⟨hT, hK, -, -, -, hbase, -⟩, hRm, -⟩ := id C
  have hRm : R = zRm d mc ms := hRm
  subst hRm
  rw [hM] at hown
  have hcat : (((st.map (zTr zid))).map fun v => v.category).sum ≤ 8 := by
    rw [zMap_id]; exact hr
  have hnm : s.vm.findClass "[B" = some (G.2.1 3) := (hK.2 2 (G.2.1 3, .byte) rfl).2
  refine va_clone hx hb (by rw [hl.1]; exact hn.symm) hown (hT _ bCl1 rfl args) (hT _ bCl2 rfl args) (hT _ bCl3 rfl args) (hT _ bCl4 rfl args) (hT _ bCl5 rfl args) (va_Nw.of rfl (hT _ bCl6 rfl args)) hK hP hD hS hbase k 2 he (zTys_get (by decide)) hnm (fun i v hv => ?_) (by simp only [zRm]; omega) (by simp only [zRm]; omega) ha hb0 hd (fun q2 H1 hK1 hP1 hD1 hS1 => ?_)
  · have e1 : (vp_cell (G.2.1 3) (n, .inl f)).slots[i]? = if i < n then some (.int (f i)) else none := by
      show (arrV _ _ _).slots[i]? = _
      by_cases h : i < n
      · rw [arrV_read _ _ h, if_pos h]
      · rw [if_neg h, Array.getElem?_eq_none (by rw [arrV_size]; omega)]
    rw [e1] at hv
    split at hv
    · injection hv with hv; subst hv; exact hf i
    · cases hv
  · have hk : (ws ++ [(q2, (.inl (G.2.1 3, n, .inl f) : va_E))])[ws.length]? = some (q2, .inl (G.2.1 3, n, .inl f)) := by simp
    refine va_castA hx hb hown (hT _ cArB rfl args) hP1 ws.length hk hnm hd2 ?_
    exact kk q2 H1 locs arr hl hn hP1 hD1 hS1
/-- a virtual call that another method answers -/
theorem rw_callUx (C : zOK G X M d mc ms) {M0 M' : zM} {d' mc' ms' n q k0 idx : Nat} {fs : List Value} {as : List Value} {Qr : Option Value → va_W → Prop} (h0 : zMeU M0 n) (hM : zMeB M' n ∧ Cond.instanceMethod M'.1 ∈ lw_tbl) (hSel : Cond.selects "java/lang/StringBuilder" M0.1 M'.1 ∈ lw_tbl) (hL : Cond.methodLink M.1.cls idx M0.1 ∈ lw_tbl) (hsame : M'.1.name = M0.1.name ∧ M'.1.desc = M0.1.desc) (he : ws[k0]? = some (q, .inr (1, fs))) (hd : decode M.2.1 pc = .ok (.invokevirtual idx, 3)) (hn0 : as.length = n) (hr : (st.map (fun v => v.category)).sum ≤ 8) (h : rCR X.2.1 G M' d' mc' ms' (.ref q :: as) ws Qr) (hdd : d' + 1 ≤ d) (ha : a + mc' ≤ mc) (hb : b + ms' ≤ ms) (k : ∀ r ws', Qr r ws' → RW G X (a + mc') (b + ms') (pc + 3) ls (r.toList ++ st) ws') : RW G X a b pc ls (as.reverse ++ .ref q :: st) ws := by
  obtain ⟨p, l, e, R, s, m, args, below, meth, c, Q⟩ := X
  intro H locs arr hl hn hP hD hS
  obtain ⟨hx, hbb, hml, hown, hlk, hrt, hF, hRm, hfl⟩ := id C
  have hRm : R = zRm d mc ms := hRm
  subst hRm
  obtain ⟨hMB0, hMi0, hMs0, hMc0, hMn0⟩ := h0
  obtain ⟨hw10, hw20, hne0, hpar0, hmx0⟩ := id hMB0
  obtain ⟨hMB, hMi⟩ := hM
  obtain ⟨hw1, hw2, hne, hpar, hmx⟩ := id hMB
  have hT := hF.1
  have hcat : (((st.map (zTr zid))).map fun v => v.category).sum ≤ 8 := by rw [zMap_id]; exact hr
  have hrecv : ∃ cell : Cell, H[q]? = some cell ∧ cell.vm.isStatics = false ∧ s.vm.findClass "java/lang/StringBuilder" = some cell.cls := va_recv (q := zCls 1) hF.2.1 hP rfl he
  have hpre : PreV s H "java/lang/StringBuilder" q (rPc G (.ref q :: as) ws) as :=
    ⟨rBlind, hrecv, fun U hU hW => ⟨rfl, by rw [hU]; exact hP, hD, by rw [hU]; exact hF.to hW hS⟩⟩
  have hroom : (zRm d' mc' ms').frames + 1 ≤ (zRm d mc ms).frames ∧ 8 + (M'.2.2.1 + 11) + (zRm d' mc' ms').locals ≤ (zRm d mc ms).locals := by
    simp only [zRm]; omega
  have hstk : (as.reverse ++ Value.ref q :: st).map (zTr zid) = as.reverse ++ Value.ref q :: st.map (zTr zid) := by rw [zMap_id, zMap_id]
  rw [hstk]
  exact rw_back hl hn hS (va_runU (nL := ls.length) (Ts := []) (x := M0.1) (owner := M0.1.cls) ⟨hx, hbb, hn.symm, hown, fun w hw => by cases hw⟩ h ⟨⟨rfl, rfl, hroom.1, hroom.2, zCode_ws hT hMB, List.mem_singleton.mpr rfl⟩, hT _ hw1 rfl args, hT _ hw2 rfl args, hne0, zNpar hpar0, hT _ hL rfl args, hT _ hMs0 rfl args, va_Decl.of (hT _ hMi0 rfl args) (hT _ hw10 rfl args), hT _ hSel rfl args, hT _ hMi rfl args⟩ hpre rfl hn0 hl.1 rfl (by simpa [JFrame.monitorRoom] using hcat) hd ⟨ha, hb⟩) k
/-- a constructor, over a raw world -/
theorem rCR.ofI {l : Launch} {G : zG} {M : zM} {d mc ms : Nat} {as : List Value} {ws : va_W} {Qr : Option Value → va_W → Prop} (hl : l.stackTraces = false) (hy : plainName M.1.cls = true) (hnm : M.1.name = "<init>") (h1 : ∀ v ∈ as, v.category = 1) (hn : as.length ≤ M.2.2.1) {ls : List (Option Value)} (hls : as.map some ++ List.replicate (M.2.2.1 - as.length) none = ls)
    (body : ∀ X, zOK G X M d mc ms → (∀ n, n = X.2.2.2.2.2.2.2.2.1.name → n = "<init>") → rFin G X mc ms Qr → RW G X 0 0 0 ls [] ws) : rCR l G M d mc ms as ws Qr := by
  refine Met.ofW (cc := M.2.1) (maxL := M.2.2.1) (ret := M.2.2.2) hy rfl ?_
  intro p e s m args below meth c s₁ B hml hv
  obtain ⟨rfl, hP, hD, hF⟩ := hv
  obtain ⟨arr, he, hh⟩ := zEntry (φ := zid) (m := m) h1 hn
  rw [zMap_id] at he
  rw [he]
  rw [hls] at hh
  refine body (p, l, e, _, s, m, _, below, meth, c, _) ⟨B.exec, B.bytes, hml, findClass_of_methodNamed B.named, B.notSynchronized, B.returns, hF, rfl, hl⟩ (fun n hn => by rw [hn]; exact (name_of_methodNamed B.named B.method).1.trans hnm) rfl s.heap [] arr hh ?_ hP hD va_S.rf
  rw [hml, ← hls]; simp; omega
theorem rw_callIr (C : zOK G X M d mc ms) {M' : zM} {d' mc' ms' n idx q : Nat} {as : List Value} {Qr : Option Value → va_W → Prop} (hM : zMeB M' n ∧ Cond.instanceMethod M'.1 ∈ lw_tbl) (hret : M'.2.2.2 = none) (hnm : M'.1.name = "<init>") (hL : zLk M.1.cls idx M'.1) (hd : decode M.2.1 pc = .ok (.invokespecial idx, 3)) (hn0 : as.length = n) (hr : (st.map (fun v => v.category)).sum ≤ 8) (h : rCR X.2.1 G M' d' mc' ms' (.ref q :: as) ws Qr) (hdd : d' + 1 ≤ d) (ha : a + mc' ≤ mc) (hb : b + ms' ≤ ms) (k : ∀ r ws', Qr r ws' → RW G X (a + mc') (b + ms') (pc + 3) ls (r.toList ++ st) ws') : RW G X a b pc ls (as.reverse ++ .ref q :: st) ws := by
  obtain ⟨p, l, e, R, s, m, args, below, meth, c, Q⟩ := X
  obtain ⟨y', cc', ml', rt'⟩ := M'
  have hret : rt' = none := hret
  subst hret
  intro H locs arr hl hn hP hD hS
  obtain ⟨hx, hbb, hml, hown, hlk, hrt, hF, hRm, hfl⟩ := id C
  have hRm : R = zRm d mc ms := hRm
  subst hRm
  obtain ⟨hMB, hMi⟩ := hM
  obtain ⟨hw1, hw2, hne, hpar, hmx⟩ := id hMB
  have hT := hF.1
  have hcat : (((st.map (zTr zid))).map fun v => v.category).sum ≤ 8 := by rw [zMap_id]; exact hr
  have hpre : PreS s H (rPc G (.ref q :: as) ws) (.ref q :: as) :=
    ⟨rBlind, fun U hU hW => ⟨rfl, by rw [hU]; exact hP, hD, by rw [hU]; exact hF.to hW hS⟩⟩
  have hroom : (zRm d' mc' ms').frames + 1 ≤ (zRm d mc ms).frames ∧ 8 + (ml' + 11) + (zRm d' mc' ms').locals ≤ (zRm d mc ms).locals := by
    have hmx : ml' ≤ 40 := hmx
    simp only [zRm]; omega
  have hstk : (as.reverse ++ Value.ref q :: st).map (zTr zid) = as.reverse ++ Value.ref q :: st.map (zTr zid) := by rw [zMap_id, zMap_id]
  rw [hstk]
  rcases hL with hL | ⟨host, hL⟩
  · exact rw_back hl hn hS (va_runI (nL := ls.length) (Ts := []) ⟨hx, hbb, hn.symm, hown, fun w hw => by cases hw⟩ h ⟨⟨rfl, rfl, hroom.1, hroom.2, zCode_ws hT hMB, List.mem_singleton.mpr rfl, hT _ hw1 rfl args, hT _ hw2 rfl args, hne, zNpar hpar, hT _ hL rfl args⟩, hnm, hT _ hMi rfl args⟩ hpre rfl hn0 hl.1 rfl (by simpa [JFrame.monitorRoom] using hcat) hd ⟨ha, hb⟩) k
  · exact rw_back hl hn hS (va_runIN (nL := ls.length) (Ts := []) (host := host) ⟨hx, hbb, hn.symm, hown, fun w hw => by cases hw⟩ h ⟨⟨⟨rfl, rfl, hroom.1, hroom.2, zCode_ws hT hMB, List.mem_singleton.mpr rfl⟩, hT _ hw1 rfl args, hT _ hw2 rfl args, hne, zNpar hpar, hT _ hL rfl args⟩, hnm, hT _ hMi rfl args⟩ hpre rfl hn0 hl.1 rfl (by simpa [JFrame.monitorRoom] using hcat) hd ⟨ha, hb⟩) k
end RS
theorem tX.cat {f g : Nat → Int32} {L L2 : List Nat} {cap : Nat} (ht : tX f L) (hg : tX g L2) (hc : L.length + L2.length ≤ cap) : tX (va_cpy g f 0 L.length L2.length) (L ++ L2) := by
  refine ⟨fun j hj => ?_, fun i => ?_, fun c hcc => ?_⟩
  · rw [List.length_append] at hj
    rcases Nat.lt_or_ge j L.length with h1 | h1
    · rw [pk_cpy_out (by omega), ht.1 j h1, List.getD_append _ _ _ _ h1]
    · rw [pk_cpy_in (by omega) (by omega), show 0 + (j - L.length) = j - L.length by omega, hg.1 _ (by omega), List.getD_append_right _ _ _ _ h1]
  · unfold va_cpy
    split
    · exact hg.2.1 _
    · exact ht.2.1 i
  · rcases List.mem_append.mp hcc with h1 | h1
    · exact ht.2.2 c h1
    · exact hg.2.2 c h1

set_option maxRecDepth 100000 in
set_option maxHeartbeats 4000000 in
theorem d_J0_coder {l : Launch} (hl : l.stackTraces = false) {G : zG} {ws : va_W} {q b n : Nat} {f : Nat → Int32} (hv : sV G ws q b n f) : rCR l G mJ0_coder_7d493 0 0 0 [.ref q] ws (fun r ws' => r = some (zi 0) ∧ ws' = ws) := by
  refine rCR.of hl (by decide) (by simp [Value.category]) (Nat.le_of_ble_eq_true rfl) (ls := [some (.ref q)]) rfl (fun X C hF => ?_)
  refine rw_getCS C wStrS dJ0_coder_7d493_0 ?_
  refine rn_if_eq C 13 (by decide) dJ0_coder_7d493_3 (by decide) (fun c3 => ?_) (fun c3 => ?_)
  · exact absurd c3 (by decide)
  · refine rw_aload_0 C dJ0_coder_7d493_6 ?_
    refine rs_getC C hv rfl dJ0_coder_7d493_7 ?_
    refine rw_goto C 14 dJ0_coder_7d493_10 (by decide) ?_
    exact rw_iret C rfl rfl hF dJ0_coder_7d493_14 (by decide) (by decide) ⟨rfl, rfl⟩

set_option maxRecDepth 100000 in
set_option maxHeartbeats 4000000 in
theorem d_J0_length {l : Launch} (hl : l.stackTraces = false) {G : zG} {ws : va_W} {q b n : Nat} {f : Nat → Int32} (hv : sV G ws q b n f) (hn30 : n < 2 ^ 30) : rCR l G mJ0_length_8abf5 1 0 0 [.ref q] ws (fun r ws' => r = some (zi n) ∧ ws' = ws) := by
  refine rCR.of hl (by decide) (by simp [Value.category]) (Nat.le_of_ble_eq_true rfl) (ls := [some (.ref q)]) rfl (fun X C hF => ?_)
  refine rw_aload_0 C dJ0_length_8abf5_0 ?_
  refine rs_getV C hv rfl dJ0_length_8abf5_1 ?_
  refine rs_len C hv dJ0_length_8abf5_4 ?_
  refine rw_aload_0 C dJ0_length_8abf5_5 ?_
  refine rs_call (as := []) C hv vJ0_coder_7d493 rfl lJ0_335 dJ0_length_8abf5_6 rfl (by simp [Value.category]) (d_J0_coder hl hv) (by decide) (by decide) (by decide) (fun r ws2 hq => ?_)
  obtain ⟨rfl, rfl⟩ := hq
  refine rn_ishr C (y := 0) (by omega) (by decide) dJ0_length_8abf5_9 ?_
  rw [show n / 2 ^ 0 = n from Nat.div_one _]
  exact rw_iret C rfl rfl hF dJ0_length_8abf5_10 (by decide) (by decide) ⟨rfl, rfl⟩

set_option maxRecDepth 100000 in
set_option maxHeartbeats 4000000 in
theorem d_J5_inflateIf {l : Launch} (hl : l.stackTraces = false) {G : zG} {ws : va_W} {q b n k sq sb m : Nat} {f : Nat → Int32} (he : ws[k]? = some (q, eSb b n)) (hv : sV G ws sq sb m f) : rCR l G mJ5_inflateIfNeededFor_a7421 1 0 0 [.ref q, .ref sq] ws (fun r ws' => r = none ∧ ws' = ws) := by
  refine rCR.of hl (by decide) (by simp [Value.category]) (Nat.le_of_ble_eq_true rfl) (ls := [some (.ref q), some (.ref sq)]) rfl (fun X C hF => ?_)
  refine rw_getCS C wSbCS dJ5_inflateIfNeededFor_a7421_0 ?_
  refine rn_if_eq C 21 (by decide) dJ5_inflateIfNeededFor_a7421_3 (by decide) (fun c3 => ?_) (fun c3 => ?_)
  · exact absurd c3 (by decide)
  · refine rw_aload_0 C dJ5_inflateIfNeededFor_a7421_6 ?_
    refine rp_get C (k := k) (j := 1) fJ5_22 he rfl dJ5_inflateIfNeededFor_a7421_7 ?_
    refine rw_aload_1 C dJ5_inflateIfNeededFor_a7421_10 ?_
    refine rs_call (as := []) C hv vJ0_coder_7d493 rfl lJ5_40 dJ5_inflateIfNeededFor_a7421_11 rfl (by simp [Value.category]) (d_J0_coder hl hv) (by decide) (by decide) (by decide) (fun r ws2 hq => ?_)
    obtain ⟨rfl, rfl⟩ := hq
    refine rn_icmp_eq C 21 (by decide) (by decide) dJ5_inflateIfNeededFor_a7421_14 (by decide) (fun _ => ?_) (fun c14 => absurd rfl c14)
    exact rw_vret C rfl hF dJ5_inflateIfNeededFor_a7421_21 (by decide) (by decide) ⟨rfl, rfl⟩

set_option maxRecDepth 100000 in
set_option maxHeartbeats 4000000 in
theorem d_J0_getBytes {l : Launch} (hl : l.stackTraces = false) {G : zG} {w : va_W} {c0 : Nat × va_E} {q b n d1 n1 p1 : Nat} {f g : Nat → Int32} (hv : sV G w q b n f) (hf : ∀ i, fits .byte (.int (f i)) = true) (hn1 : n1 < 2 ^ 20) (hp : p1 + n ≤ n1) : rCR l G mJ0_getBytes_840e7 1 0 0 [.ref q, .ref d1, zi p1, zi 0] (c0 :: (d1, eBy G n1 g) :: w) (fun r ws' => r = none ∧ ws' = c0 :: (d1, eBy G n1 (va_cpy f g 0 p1 n)) :: w) := by
  refine rCR.of hl (by decide) (by simp [Value.category]) (Nat.le_of_ble_eq_true rfl) (ls := [some (.ref q), some (.ref d1), some (zi p1), some (zi 0)]) rfl (fun X C hF => ?_)
  have hv2 : sV G (c0 :: (d1, eBy G n1 g) :: w) q b n f := hv.sub (fun x h => List.mem_cons_of_mem _ (List.mem_cons_of_mem _ h))
  refine rw_aload_0 C dJ0_getBytes_840e7_0 ?_
  refine rs_call (as := []) C hv2 vJ0_coder_7d493 rfl lJ0_335 dJ0_getBytes_840e7_1 rfl (by simp [Value.category]) (d_J0_coder hl hv2) (by decide) (by decide) (by decide) (fun r ws2 hq => ?_)
  obtain ⟨rfl, rfl⟩ := hq
  refine rw_iload_3 C dJ0_getBytes_840e7_4 ?_
  refine rn_icmp_ne C 28 (by decide) (by decide) dJ0_getBytes_840e7_5 (by decide) (fun c5 => ?_) (fun c5 => ?_)
  · exact absurd rfl c5
  · refine rw_aload_0 C dJ0_getBytes_840e7_8 ?_
    refine rs_getV C hv2 rfl dJ0_getBytes_840e7_9 ?_
    refine rn_iconst C 0 (by decide) dJ0_getBytes_840e7_12 ?_
    refine rw_aload_1 C dJ0_getBytes_840e7_13 ?_
    refine rw_iload_2 C dJ0_getBytes_840e7_14 ?_
    refine rw_iload_3 C dJ0_getBytes_840e7_15 ?_
    refine rn_ishl C (y := 0) (by decide) dJ0_getBytes_840e7_16 ?_
    rw [show p1 * 2 ^ 0 = p1 from Nat.mul_one _]
    refine rw_aload_0 C dJ0_getBytes_840e7_17 ?_
    refine rs_getV C hv2 rfl dJ0_getBytes_840e7_18 ?_
    refine rs_len C hv2 dJ0_getBytes_840e7_21 ?_
    refine rs_copy C (k1 := 1) hv2 rCopyJ0 rfl hp (by omega) hf (by simp) rfl dJ0_getBytes_840e7_22 ?_
    refine rw_goto C 43 dJ0_getBytes_840e7_25 (by decide) ?_
    exact rw_vret C rfl hF dJ0_getBytes_840e7_43 (by decide) (by decide) ⟨rfl, rfl⟩

set_option maxRecDepth 100000 in
set_option maxHeartbeats 4000000 in
theorem d_J5_putStringAt {l : Launch} (hl : l.stackTraces = false) {G : zG} {w : va_W} {q b n cap sq sb m p1 : Nat} {f g : Nat → Int32} (hv : sV G w sq sb m g) (hg : ∀ i, fits .byte (.int (g i)) = true) (hc : cap < 2 ^ 20) (hp : p1 + m ≤ cap) : rCR l G mJ5_putStringAt_47b60 2 0 0 [.ref q, zi p1, .ref sq] ((q, eSb b n) :: (b, eBy G cap f) :: w) (fun r ws' => r = none ∧ ws' = (q, eSb b n) :: (b, eBy G cap (va_cpy g f 0 p1 m)) :: w) := by
  refine rCR.of hl (by decide) (by simp [Value.category]) (Nat.le_of_ble_eq_true rfl) (ls := [some (.ref q), some (zi p1), some (.ref sq)]) rfl (fun X C hF => ?_)
  have hv2 : sV G ((q, eSb b n) :: (b, eBy G cap f) :: w) sq sb m g := hv.sub (fun x h => List.mem_cons_of_mem _ (List.mem_cons_of_mem _ h))
  refine rw_aload_0 C dJ5_putStringAt_47b60_0 ?_
  refine rw_aload_2 C dJ5_putStringAt_47b60_1 ?_
  refine rw_callP (as := [.ref sq]) C pJ5_inflateIfNeededFor_a7421 kJ5_397 (k0 := 0) rfl dJ5_putStringAt_47b60_2 rfl (by simp) (d_J5_inflateIf hl (k := 0) rfl hv2) (by decide) (by decide) (by decide) (fun r ws2 hq => ?_)
  obtain ⟨rfl, rfl⟩ := hq
  refine rw_aload_2 C dJ5_putStringAt_47b60_5 ?_
  refine rw_aload_0 C dJ5_putStringAt_47b60_6 ?_
  refine rp_get C (k := 0) (j := 0) fJ5_15 rfl rfl dJ5_putStringAt_47b60_7 ?_
  refine rw_iload_1 C dJ5_putStringAt_47b60_10 ?_
  refine rw_aload_0 C dJ5_putStringAt_47b60_11 ?_
  refine rp_get C (k := 0) (j := 1) fJ5_22 rfl rfl dJ5_putStringAt_47b60_12 ?_
  refine rs_call (as := [.ref b, zi p1, zi 0]) C hv2 vJ0_getBytes_840e7 rfl lJ5_399 dJ5_putStringAt_47b60_15 rfl (by simp) (d_J0_getBytes hl hv hg hc hp) (by decide) (by decide) (by decide) (fun r ws2 hq => ?_)
  obtain ⟨rfl, rfl⟩ := hq
  exact rw_vret C rfl hF dJ5_putStringAt_47b60_18 (by decide) (by decide) ⟨rfl, rfl⟩

set_option maxRecDepth 100000 in
set_option maxHeartbeats 4000000 in
theorem d_J5_appendS {l : Launch} (hl : l.stackTraces = false) {G : zG} {w : va_W} {q b cap sq sb : Nat} {f g : Nat → Int32} {L L2 : List Nat} (ht : tX f L) (hlc : L.length ≤ cap) (hv : sV G w sq sb L2.length g) (hg : tX g L2) (hs : max (L.length + L2.length) (2 * cap + 2) < 2 ^ 20) : rCR l G mJ5_append_cf1ce 4 1 (tCost cap (L.length + L2.length)) [.ref q, .ref sq] ((q, eSb b L.length) :: (b, eBy G cap f) :: w) (fun r ws' => r = some (.ref q) ∧ ∃ b2 f2, ws' = (q, eSb b2 (L ++ L2).length) :: (b2, eBy G (tCap cap (L.length + L2.length)) f2) :: w ∧ tX f2 (L ++ L2)) := by
  refine rCR.of hl (by decide) (by simp [Value.category]) (Nat.le_of_ble_eq_true rfl) (ls := [some (.ref q), some (.ref sq), none]) rfl (fun X C hF => ?_)
  have hv2 : sV G ((q, eSb b L.length) :: (b, eBy G cap f) :: w) sq sb L2.length g := hv.sub (fun x h => List.mem_cons_of_mem _ (List.mem_cons_of_mem _ h))
  refine rw_aload_1 C dJ5_append_cf1ce_0 ?_
  refine rw_ifnonnull C 9 dJ5_append_cf1ce_1 (by decide) ?_
  refine rw_aload_1 C dJ5_append_cf1ce_9 ?_
  refine rs_call (as := []) C hv2 vJ0_length_8abf5 rfl lJ5_32 dJ5_append_cf1ce_10 rfl (by simp) (d_J0_length hl hv2 (by omega)) (by decide) (by decide) (by omega) (fun r ws2 hq => ?_)
  obtain ⟨rfl, rfl⟩ := hq
  refine rw_istore_2 C rfl dJ5_append_cf1ce_13 ?_
  refine rw_aload_0 C dJ5_append_cf1ce_14 ?_
  refine rw_aload_0 C dJ5_append_cf1ce_15 ?_
  refine rp_get C (k := 0) (j := 3) fJ5_79 rfl rfl dJ5_append_cf1ce_16 ?_
  refine rw_iload_2 C dJ5_append_cf1ce_19 ?_
  refine rn_iadd C dJ5_append_cf1ce_20 ?_
  refine rw_callP (as := [zi (L.length + L2.length)]) C pJ5_ensureCapacityInternal_d00df kJ5_100 (k0 := 0) rfl dJ5_append_cf1ce_21 rfl (by simp [Value.category]) (d_J5_ensure hl ht.2.1 hs) (by decide) (by decide) (by omega) (fun r ws2 hq => ?_)
  obtain ⟨rfl, b2, f2, rfl, hf2, hk2⟩ := hq
  have ht2 : tX f2 L := ⟨fun j hj => by rw [hk2 j (by omega)]; exact ht.1 j hj, hf2, ht.2.2⟩
  have hge := tCap_ge (cap := cap) (m := L.length + L2.length)
  have hle : tCap cap (L.length + L2.length) < 2 ^ 20 := by unfold tCap; split <;> omega
  refine rw_aload_0 C dJ5_append_cf1ce_24 ?_
  refine rw_aload_0 C dJ5_append_cf1ce_25 ?_
  refine rp_get C (k := 0) (j := 3) fJ5_79 rfl rfl dJ5_append_cf1ce_26 ?_
  refine rw_aload_1 C dJ5_append_cf1ce_29 ?_
  refine rw_callP (as := [zi L.length, .ref sq]) C pJ5_putStringAt_47b60 kJ5_208 (k0 := 0) rfl dJ5_append_cf1ce_30 rfl (by simp [Value.category]) (d_J5_putStringAt hl hv hg.2.1 hle (by omega)) (by decide) (by decide) (by omega) (fun r ws2 hq => ?_)
  obtain ⟨rfl, rfl⟩ := hq
  refine rw_aload_0 C dJ5_append_cf1ce_33 ?_
  refine rw_dup C rfl dJ5_append_cf1ce_34 ?_
  refine rp_get C (k := 0) (j := 3) fJ5_79 rfl rfl dJ5_append_cf1ce_35 ?_
  refine rw_iload_2 C dJ5_append_cf1ce_38 ?_
  refine rn_iadd C dJ5_append_cf1ce_39 ?_
  refine rp_put C (k := 0) (j := 3) fJ5_79 rfl rfl rfl rfl rfl (by decide) rfl dJ5_append_cf1ce_40 ?_
  refine rw_aload_0 C dJ5_append_cf1ce_43 ?_
  exact rw_aret C rfl rfl hF dJ5_append_cf1ce_44 (by omega) (by omega) ⟨rfl, b2, va_cpy g f2 0 L.length L2.length, by rw [List.length_append]; rfl, ht2.cat hg hge.1⟩
set_option maxRecDepth 100000 in
set_option maxHeartbeats 4000000 in
theorem d_J4_appendS {l : Launch} (hl : l.stackTraces = false) {G : zG} {w : va_W} {q b cap sq sb : Nat} {f g : Nat → Int32} {L L2 : List Nat} (ht : tX f L) (hlc : L.length ≤ cap) (hv : sV G w sq sb L2.length g) (hg : tX g L2) (hs : max (L.length + L2.length) (2 * cap + 2) < 2 ^ 20) : rCR l G mJ4_append_15ec4 5 1 (tCost cap (L.length + L2.length)) [.ref q, .ref sq] ((q, eSb b L.length) :: (b, eBy G cap f) :: w) (fun r ws' => r = some (.ref q) ∧ ∃ b2 f2, ws' = (q, eSb b2 (L ++ L2).length) :: (b2, eBy G (tCap cap (L.length + L2.length)) f2) :: w ∧ tX f2 (L ++ L2)) := by
  refine rCR.of hl (by decide) (by simp [Value.category]) (Nat.le_of_ble_eq_true rfl) (ls := [some (.ref q), some (.ref sq)]) rfl (fun X C hF => ?_)
  refine rw_aload_0 C dJ4_append_15ec4_0 ?_
  refine rw_aload_1 C dJ4_append_15ec4_1 ?_
  refine rw_callSup (as := [.ref sq]) C rfl uJ5_append_cf1ce kJ4_29 (k0 := 0) rfl dJ4_append_15ec4_2 rfl (by simp) (d_J5_appendS hl ht hlc hv hg hs) (by decide) (by decide) (by omega) (fun r ws2 hq => ?_)
  obtain ⟨rfl, b2, f2, rfl, hf2⟩ := hq
  refine rw_pop C rfl dJ4_append_15ec4_5 ?_
  refine rw_aload_0 C dJ4_append_15ec4_6 ?_
  exact rw_aret C rfl rfl hF dJ4_append_15ec4_7 (by omega) (by omega) ⟨rfl, b2, f2, rfl, hf2⟩

set_option maxRecDepth 100000 in
set_option maxHeartbeats 4000000 in
theorem d_J4_appendSb {l : Launch} (hl : l.stackTraces = false) {G : zG} {w : va_W} {q b cap sq sb : Nat} {f g : Nat → Int32} {L L2 : List Nat} (ht : tX f L) (hlc : L.length ≤ cap) (hv : sV G w sq sb L2.length g) (hg : tX g L2) (hs : max (L.length + L2.length) (2 * cap + 2) < 2 ^ 20) : rCR l G mJ4_append_cf1ce 6 1 (tCost cap (L.length + L2.length)) [.ref q, .ref sq] ((q, eSb b L.length) :: (b, eBy G cap f) :: w) (fun r ws' => r = some (.ref q) ∧ ∃ b2 f2, ws' = (q, eSb b2 (L ++ L2).length) :: (b2, eBy G (tCap cap (L.length + L2.length)) f2) :: w ∧ tX f2 (L ++ L2)) := by
  refine rCR.of hl (by decide) (by simp [Value.category]) (Nat.le_of_ble_eq_true rfl) (ls := [some (.ref q), some (.ref sq)]) rfl (fun X C hF => ?_)
  refine rw_aload_0 C dJ4_append_cf1ce_0 ?_
  refine rw_aload_1 C dJ4_append_cf1ce_1 ?_
  refine rw_callV (as := [.ref sq]) C vJ4_append_15ec4 lJ4_23 (k0 := 0) rfl rfl rfl dJ4_append_cf1ce_2 rfl (by simp) (d_J4_appendS hl ht hlc hv hg hs) (by decide) (by decide) (by omega) (fun r ws2 hq => ?_)
  obtain ⟨rfl, b2, f2, rfl, hf2⟩ := hq
  exact rw_aret C rfl rfl hF dJ4_append_cf1ce_5 (by omega) (by omega) ⟨rfl, b2, f2, rfl, hf2⟩

