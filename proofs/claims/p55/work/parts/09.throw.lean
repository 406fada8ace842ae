/-! throws -/
def zThrow (own : String) (ic : Nat) (cls : String) (names : List String) : Prop := Bundle.fit cls = true ∧ (∀ n ∈ names, Bundle.fit n = true) ∧ (∀ w ∈ vx_atS own ic cls names, w ∈ lw_tbl ∧ zGood w = true ∧ vx_ot w = true) ∧ Cond.initialized cls ∈ lw_tbl
section ZT
variable {G : zG} {X : zX} {M : zM} {d mc ms a b pc : Nat} {ls : List (Option Value)} {st : List Value} {I : zI} {J : Int64} {E : UInt64}
theorem zRep.grow {H H1 : Heap} (h : zRep G I J E H) (hq : ∀ q : Nat, q < H.size → H1[q]? = H[q]?) : zRep G I J E H1 := by
  obtain ⟨va, cap, hP, hD⟩ := h
  exact ⟨va, cap, fun k q hk => (hP k q hk).kept (hq _ (hP k q hk).lt), hD⟩
theorem sw_throw (C : zOK G X M d mc ms) {cls text : String} {names : List String} {ik is ic : Nat} (hB : zThrow M.1.cls ic cls names) (hk : Cond.classLink M.1.cls ik cls ∈ lw_tbl) (hs : (M.1.cls, is, text) ∈ zStrs) (hF : zFinT G X mc ms cls I J E) (d0 : decode M.2.1 pc = .ok (.new ik, 3)) (d3 : decode M.2.1 (pc + 3) = .ok (.dup, 1)) (d4 : decode M.2.1 (pc + 4) = .ok (.ldc is, 2)) (d6 : decode M.2.1 (pc + 6) = .ok (.invokespecial ic, 3)) (d9 : decode M.2.1 (pc + 9) = .ok (.athrow, 1)) (hlen : names.length ≤ 3) (hst : (st.map (fun v => v.category)).sum ≤ 8) (ha : a + 1 ≤ mc) (hb : b + 6 ≤ ms) : SW G X a b pc ls st I J E := by
  obtain ⟨p, l, e, R, s, m, args, below, meth, c, Q⟩ := X
  intro H locs arr hl hn hR hS
  obtain ⟨hx, hbb, hml, hown, hlk, hrt, ⟨hT, hK, hU, hN, hStr, hbase, -⟩, hRm, hfl⟩ := id C
  have hRm : R = zRm d mc ms := hRm
  subst hRm
  obtain ⟨hQ, hex⟩ := hF
  subst hQ
  obtain ⟨hf1, hf2, hw, hini⟩ := hB
  obtain ⟨sa, hsa⟩ := hStr _ hs
  have hcat : (((st.map (zTr G.2.2.1))).map fun v => v.category).sum ≤ 8 := by
    rw [List.map_map]
    rw [show ((fun v : Value => v.category) ∘ zTr G.2.2.1) = (fun v => v.category) from funext (fun v => zTr_cat _ v)]
    exact hst
  refine vx_throwS (A := zA G) hx hbb hfl hown hf1 hf2 (hT _ hk rfl args) (hT _ hini rfl args) hsa (fun w h => hT w (hw w h).1 (hw w h).2.1 args) ?_ hU hN hS (by rw [hl.1]; exact hn) d0 d3 d4 d6 d9 (fun x hx => (hex x hx).elim) ?_ ?_ ha hb hlk ?_ (fun q hq => hS.2.2 q hq) ha hb
  · intro w h
    rcases List.mem_cons.mp h with rfl | h
    · rfl
    · rcases List.mem_cons.mp h with rfl | h
      · rfl
      · exact (hw w h).2.2
  · simp only [zRm]; omega
  · simp only [zRm]; omega
  · intro t _ h1 h2
    exact ⟨rfl, hR.grow h2, Nat.le_trans hS.1 h1, fun q hq hA => (h2 q (Nat.lt_of_lt_of_le hq hS.1)).trans (hS.2.1 q hq hA)⟩
theorem sw_throwW (C : zOK G X M d mc ms) {cls text : String} {names : List String} {ik is ic : Nat} (hB : zThrow M.1.cls ic cls names) (hk : Cond.classLink M.1.cls ik cls ∈ lw_tbl) (hs : (M.1.cls, is, text) ∈ zStrs) (hF : zFinT G X mc ms cls I J E) (d0 : decode M.2.1 pc = .ok (.new ik, 3)) (d3 : decode M.2.1 (pc + 3) = .ok (.dup, 1)) (d4 : decode M.2.1 (pc + 4) = .ok (.ldc_w is, 3)) (d6 : decode M.2.1 (pc + 7) = .ok (.invokespecial ic, 3)) (d9 : decode M.2.1 (pc + 10) = .ok (.athrow, 1)) (hlen : names.length ≤ 3) (hst : (st.map (fun v => v.category)).sum ≤ 8) (ha : a + 1 ≤ mc) (hb : b + 6 ≤ ms) : SW G X a b pc ls st I J E := by
  obtain ⟨p, l, e, R, s, m, args, below, meth, c, Q⟩ := X
  intro H locs arr hl hn hR hS
  obtain ⟨hx, hbb, hml, hown, hlk, hrt, ⟨hT, hK, hU, hN, hStr, hbase, -⟩, hRm, hfl⟩ := id C
  have hRm : R = zRm d mc ms := hRm
  subst hRm
  obtain ⟨hQ, hex⟩ := hF
  subst hQ
  obtain ⟨hf1, hf2, hw, hini⟩ := hB
  obtain ⟨sa, hsa⟩ := hStr _ hs
  have hcat : (((st.map (zTr G.2.2.1))).map fun v => v.category).sum ≤ 8 := by
    rw [List.map_map]
    rw [show ((fun v : Value => v.category) ∘ zTr G.2.2.1) = (fun v => v.category) from funext (fun v => zTr_cat _ v)]
    exact hst
  refine vx_throwSW (A := zA G) hx hbb hfl hown hf1 hf2 (hT _ hk rfl args) (hT _ hini rfl args) hsa (fun w h => hT w (hw w h).1 (hw w h).2.1 args) ?_ hU hN hS (by rw [hl.1]; exact hn) d0 d3 d4 d6 d9 (fun x hx => (hex x hx).elim) ?_ ?_ ha hb hlk ?_ (fun q hq => hS.2.2 q hq) ha hb
  · intro w h
    rcases List.mem_cons.mp h with rfl | h
    · rfl
    · rcases List.mem_cons.mp h with rfl | h
      · rfl
      · exact (hw w h).2.2
  · simp only [zRm]; omega
  · simp only [zRm]; omega
  · intro t _ h1 h2
    exact ⟨rfl, hR.grow h2, Nat.le_trans hS.1 h1, fun q hq hA => (h2 q (Nat.lt_of_lt_of_le hq hS.1)).trans (hS.2.1 q hq hA)⟩
/-- after a call that threw, no handler here -/
theorem sw_outT {p : Program} {l : Launch} {e : Env} {R : Room} {s : State} {m : MethodId} {args : Array Value} {below : List Frame} {meth : Method} {c : Code} {Q : State → Prop} {H : Heap} {locs : List Loc} {arr : Array Slot} {mc' ms' : Nat} {st0 rest : List Value} {as : Array Value} {cls : String} {I' : zI} {J' : Int64} {E' : UInt64} (hlk : meth.locks = false) (hS : va_S (zA G) s.heap H locs) (hF : zFinT G (p, l, e, R, s, m, args, below, meth, c, Q) mc ms cls I' J' E') (ha : a + mc' ≤ mc) (hb : b + ms' ≤ ms)
    (run : vx_Run p l e R s m args below meth c H locs a b mc' ms' (F0 m pc arr st0) rest (zNo as) (zXc G cls I' J' E') (zA G)) : W p l e R s m args below meth c H locs a b Q (F0 m pc arr st0) := by
  obtain ⟨hQ, hex⟩ := hF
  subst hQ
  intro T hT X0
  rcases run T hT X0 with ⟨v, st₀, t, T', L, h0, X', hL, e1, e2, hno, hst⟩ | ⟨q, st₀, t, T', L, E1, ce, h0, X', hL, e1, e2, ⟨rfl, hR', hF'⟩, hce, hvm, hcl, hst⟩
  · exact hno.elim
  · obtain ⟨g1, g2, g3⟩ := vx_keep (A1 := zA G) (T' := T') h0 e1 hS (fun _ _ h => h) (fun _ h => h) hL hF'
    have kk := vx_out (Qc := zNo) (XC := zXc G E1 I' J' E') (free := zA G) (mc := mc) (ms := ms) (pc := pc) (ls := arr) (rest := rest) (p := p) (l := l) (e := e) (R := R) (s := s) (m := m) (args := args) (below := below) (meth := meth) (c := c) (H := T'.heap) (locs := locs ++ L) (cells := a + mc') (slots := b + ms') (E := E1) (ce := ce) (q := q) (fun x hx => (hex x hx).elim) hlk (by rw [e1]; exact hce) hvm hcl (fun u hu _ => ⟨rfl, by rw [hu, e1]; exact hR', g3.F hu⟩) (fun z hz => g3.2.2 z hz) ha hb
    obtain ⟨t2, a1, b1⟩ := kk T' rfl X'
    exact ⟨t2, hst.trans a1, b1⟩
theorem sw_callV_T (C : zOK G X M d mc ms) {M' : zM} {d' mc' ms' n ci o idx : Nat} {as : List Value} {cls : String} {I' : zI} {J' : Int64} {E' : UInt64} (hM : zMeV M' n) (hL : Cond.methodLink M.1.cls idx M'.1 ∈ lw_tbl) (hs : zSh o = (0, ci)) (ho : o < zN) (hc : vwCl[ci]? = some (zCls ci)) (hC : (zCls ci).1 = M'.1.cls) (hd : decode M.2.1 pc = .ok (.invokevirtual idx, 3)) (hn0 : as.length = n) (hr : (st.map (fun v => v.category)).sum ≤ 8) (h : zCT X.2.1 G M' d' mc' ms' (.ref o :: as) I J E cls I' J' E') (hdd : d' + 1 ≤ d) (ha : a + mc' ≤ mc) (hb : b + ms' ≤ ms) (hFT : zFinT G X mc ms cls I' J' E') : SW G X a b pc ls (as.reverse ++ .ref o :: st) I J E := by
  obtain ⟨p, l, e, R, s, m, args, below, meth, c, Q⟩ := X
  intro H locs arr hl hn hR hS
  obtain ⟨hx, hbb, hml, hown, hlk, hrt, hF, hRm, hfl⟩ := id C
  have hRm : R = zRm d mc ms := hRm
  subst hRm
  obtain ⟨va, cap, hP, hD⟩ := id hR
  obtain ⟨hMB, hMi, hMs⟩ := hM
  obtain ⟨hw1, hw2, hne, hpar, hmx⟩ := id hMB
  have hT := hF.1
  have hcat : (((st.map (zTr G.2.2.1))).map fun v => v.category).sum ≤ 8 := by
    rw [List.map_map]
    rw [show ((fun v : Value => v.category) ∘ zTr G.2.2.1) = (fun v => v.category) from funext (fun v => zTr_cat _ v)]
    exact hr
  have hstk : (as.reverse ++ Value.ref o :: st).map (zTr G.2.2.1) = (as.map (zTr G.2.2.1)).reverse ++ Value.ref (G.2.2.1 o) :: st.map (zTr G.2.2.1) := by simp [zTr]
  have hrecv := zRecv (s := s) hF.2.1 hP hs ho hc hC
  have hpre : PreV s H M'.1.cls (G.2.2.1 o) (zPc G (.ref o :: as) I J E) (as.map (zTr G.2.2.1)) :=
    ⟨zBlind, hrecv, fun U hU hW => ⟨rfl, by rw [hU]; exact hR, by rw [hU]; exact hF.to hW hS⟩⟩
  have hroom : (zRm d' mc' ms').frames + 1 ≤ (zRm d mc ms).frames ∧ 8 + (M'.2.2.1 + 11) + (zRm d' mc' ms').locals ≤ (zRm d mc ms).locals := by
    simp only [zRm]; omega
  rw [hstk]
  exact sw_outT hlk hS hFT ha hb (vx_runV (nL := ls.length) (Ts := []) ⟨hx, hbb, hn.symm, hown, fun w hw => by cases hw⟩ h ⟨⟨rfl, rfl, hroom.1, hroom.2, zCode_ws hT hMB, List.mem_singleton.mpr rfl, hT _ hw1 rfl args, hT _ hw2 rfl args, hne, zNpar hpar, hT _ hL rfl args⟩, hT _ hMi rfl args, hT _ hMs rfl args⟩ hpre rfl (by simp [hn0]) hl.1 rfl (by simpa [JFrame.monitorRoom] using hcat) hd ⟨ha, hb⟩)
theorem sw_callS_T (C : zOK G X M d mc ms) {M' : zM} {d' mc' ms' n idx : Nat} {as : List Value} {cls : String} {I' : zI} {J' : Int64} {E' : UInt64} (hM : zMeS M' n) (hL : Cond.methodLink M.1.cls idx M'.1 ∈ lw_tbl) (hd : decode M.2.1 pc = .ok (.invokestatic idx, 3)) (hn0 : as.length = n) (hr : (st.map (fun v => v.category)).sum ≤ 8) (h : zCT X.2.1 G M' d' mc' ms' as I J E cls I' J' E') (hdd : d' + 1 ≤ d) (ha : a + mc' ≤ mc) (hb : b + ms' ≤ ms) (hFT : zFinT G X mc ms cls I' J' E') : SW G X a b pc ls (as.reverse ++ st) I J E := by
  obtain ⟨p, l, e, R, s, m, args, below, meth, c, Q⟩ := X
  intro H locs arr hl hn hR hS
  obtain ⟨hx, hbb, hml, hown, hlk, hrt, hF, hRm, hfl⟩ := id C
  have hRm : R = zRm d mc ms := hRm
  subst hRm
  obtain ⟨hMB, hMi⟩ := hM
  obtain ⟨hw1, hw2, hne, hpar, hmx⟩ := id hMB
  have hT := hF.1
  have hcat : (((st.map (zTr G.2.2.1))).map fun v => v.category).sum ≤ 8 := by
    rw [List.map_map]
    rw [show ((fun v : Value => v.category) ∘ zTr G.2.2.1) = (fun v => v.category) from funext (fun v => zTr_cat _ v)]
    exact hr
  have hpre : PreS s H (zPc G as I J E) (as.map (zTr G.2.2.1)) :=
    ⟨zBlind, fun U hU hW => ⟨rfl, by rw [hU]; exact hR, by rw [hU]; exact hF.to hW hS⟩⟩
  have hroom : (zRm d' mc' ms').frames + 1 ≤ (zRm d mc ms).frames ∧ 8 + (M'.2.2.1 + 11) + (zRm d' mc' ms').locals ≤ (zRm d mc ms).locals := by
    simp only [zRm]; omega
  rw [zMapRev]
  exact sw_outT hlk hS hFT ha hb (vx_runS (nL := ls.length) (Ts := []) ⟨hx, hbb, hn.symm, hown, fun w hw => by cases hw⟩ h ⟨⟨rfl, rfl, hroom.1, hroom.2, zCode_ws hT hMB, List.mem_singleton.mpr rfl, hT _ hw1 rfl args, hT _ hw2 rfl args, hne, zNpar hpar, hT _ hL rfl args⟩, hT _ hMi rfl args⟩ hpre rfl (by simp [hn0]) hl.1 rfl (by simpa [JFrame.monitorRoom] using hcat) hd ⟨ha, hb⟩)
end ZT
set_option maxRecDepth 100000 in
theorem zThI : zThrow RX5 252 "java/lang/IndexOutOfBoundsException" ["java/lang/RuntimeException", "java/lang/Exception"] := ⟨by decide +kernel, by decide +kernel, by decide +kernel, by decide +kernel⟩
set_option maxRecDepth 100000 in
theorem zThS : zThrow RX5 178 "java/lang/IllegalStateException" ["java/lang/RuntimeException", "java/lang/Exception"] := ⟨by decide +kernel, by decide +kernel, by decide +kernel, by decide +kernel⟩
set_option maxRecDepth 100000 in
theorem zThA : zThrow RX5 187 "java/lang/IllegalArgumentException" ["java/lang/RuntimeException", "java/lang/Exception"] := ⟨by decide +kernel, by decide +kernel, by decide +kernel, by decide +kernel⟩
set_option maxRecDepth 100000 in
theorem zThM : zThrow RX5 214 "java/lang/ArithmeticException" ["java/lang/RuntimeException", "java/lang/Exception"] := ⟨by decide +kernel, by decide +kernel, by decide +kernel, by decide +kernel⟩
