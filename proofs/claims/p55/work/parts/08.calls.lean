/-! ends and calls -/
section ZC
variable {G : zG} {X : zX} {M : zM} {d mc ms a b pc : Nat} {ls : List (Option Value)} {st : List Value} {I : zI} {J : Int64} {E : UInt64}
theorem sw_iret (C : zOK G X M d mc ms) {v : Int32} {r : Option Value} {I' : zI} {J' : Int64} {E' : UInt64} {ty : FieldType} (hr : M.2.2.2 = some ty) (hn0 : narrow ty (.int v) = .int v) (hF : zFin G X mc ms r I' J' E') (hd : decode M.2.1 pc = .ok (.ireturn, 1)) (ha : a ≤ mc) (hb : b ≤ ms) (e1 : some (.int v) = r) (e2 : I = I') (e3 : J = J') (e4 : E = E') : SW G X a b pc ls [.int v] I J E := by
  obtain ⟨p, l, e, R, s, m, args, below, meth, c, Q⟩ := X
  subst e1; subst e2; subst e3; subst e4
  intro H locs arr hl hn hR hS
  have hQ : Q = MQ below (zQc G (some (.int v)) I J E) args s mc ms (zA G) := hF
  subst hQ
  refine W.widen ha hb ?_
  exact W.zret C.1 C.2.1 (C.2.2.2.2.2.1.trans hr) hn0 (fun t ht hw => ⟨rfl, by rw [ht]; exact hR, hS.F ht⟩) (fun q hq => hS.2.2 q hq) hd C.2.2.2.2.1
theorem sw_vret (C : zOK G X M d mc ms) {I' : zI} {J' : Int64} {E' : UInt64} (hr : M.2.2.2 = none) (hF : zFin G X mc ms none I' J' E') (hd : decode M.2.1 pc = .ok (.return_, 1)) (ha : a ≤ mc) (hb : b ≤ ms) (e2 : I = I') (e3 : J = J') (e4 : E = E') : SW G X a b pc ls [] I J E := by
  obtain ⟨p, l, e, R, s, m, args, below, meth, c, Q⟩ := X
  subst e2; subst e3; subst e4
  intro H locs arr hl hn hR hS
  have hQ : Q = MQ below (zQc G none I J E) args s mc ms (zA G) := hF
  subst hQ
  refine W.widen ha hb ?_
  exact W.vret C.1 C.2.1 (C.2.2.2.2.2.1.trans hr) (fun t ht hw => ⟨rfl, by rw [ht]; exact hR, hS.F ht⟩) (fun q hq => hS.2.2 q hq) hd C.2.2.2.2.1
/-! words of a method and of a call -/
def zMeB (M : zM) (n : Nat) : Prop := Cond.code M.1 M.2.1 M.2.2.1 M.2.2.2 ∈ lw_tbl ∧ Cond.initialized M.1.cls ∈ lw_tbl ∧ (M.1.cls ≠ "java/lang/invoke/MethodHandle" ∧ M.1.cls ≠ "java/lang/invoke/VarHandle") ∧ (parseMethodDescriptor M.1.desc).map (fun d => d.parameters.length) = some n ∧ M.2.2.1 ≤ 40
def zMeV (M : zM) (n : Nat) : Prop := zMeB M n ∧ Cond.instanceMethod M.1 ∈ lw_tbl ∧ Cond.selects M.1.cls M.1 M.1 ∈ lw_tbl
def zMeS (M : zM) (n : Nat) : Prop := zMeB M n ∧ Cond.static M.1 ∈ lw_tbl
def zLk (own : String) (idx : Nat) (y : MethodName) : Prop := Cond.methodLink own idx y ∈ lw_tbl ∨ ∃ host : String, Cond.methodLinkNest own idx y host ∈ lw_tbl
theorem zCode_ws {s : State} {M : zM} {n : Nat} (hT : zTW s) (hM : zMeB M n) : ∀ w ∈ ([Cond.code M.1 M.2.1 M.2.2.1 M.2.2.2] : List Cond), ∀ (a' : Array Value) (U : State), s.WarmedH U.vm → w.before a' U = true := by
  intro w hw a' U hW
  rw [List.mem_singleton] at hw
  subst hw
  exact (hT.moved hW) _ hM.1 rfl a'
theorem zBlind {G : zG} {as : List Value} {I : zI} {J : Int64} {E : UInt64} : FrameBlind (zPc G as I J E) := by
  intro a U g mk ⟨h1, h2, h3⟩
  exact ⟨h1, h2, h3.to (State.WarmedH.refl U) va_S.rf⟩
theorem zNpar {y : MethodName} {n : Nat} (h : (parseMethodDescriptor y.desc).map (fun d => d.parameters.length) = some n) : ∀ sig, parseMethodDescriptor y.desc = some sig → n = sig.parameters.length := by
  intro sig h2
  rw [h2] at h
  exact (Option.some.inj h).symm
theorem zRecv {s : State} {H : Heap} {va cap o ci : Nat} {C : String} (hK : va_K G.1 vwCl (zTys G.2.1) s) (hP : va_P G.1 vwCl (zW G va cap I J E) H) (hs : zSh o = (0, ci)) (ho : o < zN) (hc : vwCl[ci]? = some (zCls ci)) (hC : (zCls ci).1 = C) : ∃ cell : Cell, H[G.2.2.1 o]? = some cell ∧ cell.vm.isStatics = false ∧ s.vm.findClass C = some cell.cls := by
  have he := zW_get (G := G) (va := va) (cap := cap) (I := I) (J := J) (E := E) ho (zSh_in hs (by decide))
  rw [zEnt_obj hs, zAd_ne (zSh_ne hs (by decide))] at he
  subst hC
  exact va_recv hK hP hc he
theorem zMapRev (φ : Nat → Nat) (as st : List Value) : (as.reverse ++ st).map (zTr φ) = (as.map (zTr φ)).reverse ++ st.map (zTr φ) := by simp
/-- after a call that returned -/
theorem sw_back {p : Program} {l : Launch} {e : Env} {R : Room} {s : State} {m : MethodId} {args : Array Value} {below : List Frame} {meth : Method} {c : Code} {Q : State → Prop} {H : Heap} {locs : List Loc} {arr : Array Slot} {mc' ms' : Nat} {st0 : List Value} {as : Array Value} {r : Option Value} {I' : zI} {J' : Int64} {E' : UInt64} (hl : zHas G.2.2.1 arr ls) (hn : ls.length = c.maxLocals) (hS : va_S (zA G) s.heap H locs)
    (run : va_Run p l e R s m args below meth c H locs a b mc' ms' (F0 m pc arr st0) (st.map (zTr G.2.2.1)) (zQc G r I' J' E' as) (zA G)) (k : SW G (p, l, e, R, s, m, args, below, meth, c, Q) (a + mc') (b + ms') (pc + 3) ls (r.toList ++ st) I' J' E') : W p l e R s m args below meth c H locs a b Q (F0 m pc arr st0) := by
  intro T hT X0
  obtain ⟨v, st₀, t, T', L, h0, X', hL, e1, e2, ⟨hv, hR', hF'⟩, hst⟩ := run T hT X0
  have hv : v = r.map (zTr G.2.2.1) := by injection hv
  subst hv
  obtain ⟨g1, g2, g3⟩ := vx_keep (A1 := zA G) (T' := T') h0 e1 hS (fun _ _ h => h) (fun _ h => h) hL hF'
  have e3 : (r.map (zTr G.2.2.1)).toList ++ st.map (zTr G.2.2.1) = (r.toList ++ st).map (zTr G.2.2.1) := by cases r <;> simp
  obtain ⟨t2, a1, b1⟩ := k T'.heap (locs ++ L) arr hl hn (by rw [e1]; exact hR') g3 T' rfl X'
  refine ⟨t2, hst t2 ?_, b1⟩
  rw [show ({ F0 m pc arr st0 with pc := (F0 m pc arr st0).pc + 3, stack := (r.map (zTr G.2.2.1)).toList ++ st.map (zTr G.2.2.1) } : JFrame) = F0 m (pc + 3) arr ((r.toList ++ st).map (zTr G.2.2.1)) by rw [← e3]]
  exact a1
theorem sw_callV (C : zOK G X M d mc ms) {M' : zM} {d' mc' ms' n ci o idx : Nat} {as : List Value} {r : Option Value} {I' : zI} {J' : Int64} {E' : UInt64} (hM : zMeV M' n) (hL : zLk M.1.cls idx M'.1) (hs : zSh o = (0, ci)) (ho : o < zN) (hc : vwCl[ci]? = some (zCls ci)) (hC : (zCls ci).1 = M'.1.cls) (hd : decode M.2.1 pc = .ok (.invokevirtual idx, 3)) (hn0 : as.length = n) (hr : (st.map (fun v => v.category)).sum ≤ 8) (h : zCR X.2.1 G M' d' mc' ms' (.ref o :: as) I J E r I' J' E') (hdd : d' + 1 ≤ d) (ha : a + mc' ≤ mc) (hb : b + ms' ≤ ms) (k : SW G X (a + mc') (b + ms') (pc + 3) ls (r.toList ++ st) I' J' E') : SW G X a b pc ls (as.reverse ++ .ref o :: st) I J E := by
  obtain ⟨p, l, e, R, s, m, args, below, meth, c, Q⟩ := X
  intro H locs arr hl hn hR hS
  obtain ⟨hx, hbb, hml, hown, hlk, hrt, hF, hRm, hfl⟩ := id C
  have hRm : R = zRm d mc ms := hRm
  subst hRm
  obtain ⟨va, cap, hP, hD⟩ := id hR
  obtain ⟨hMB, hMi, hMs⟩ := hM
  obtain ⟨hw1, hw2, hne, hpar, hmx⟩ := id hMB
  have hT := hF.1
  have hcat : (((st.map (zTr G.2.2.1))).map fun v => v.category).sum ≤ 8 := by
    rw [List.map_map]
    rw [show ((fun v : Value => v.category) ∘ zTr G.2.2.1) = (fun v => v.category) from funext (fun v => zTr_cat _ v)]
    exact hr
  have hstk : (as.reverse ++ Value.ref o :: st).map (zTr G.2.2.1) = (as.map (zTr G.2.2.1)).reverse ++ Value.ref (G.2.2.1 o) :: st.map (zTr G.2.2.1) := by simp [zTr]
  have hrecv := zRecv (s := s) hF.2.1 hP hs ho hc hC
  have hpre : PreV s H M'.1.cls (G.2.2.1 o) (zPc G (.ref o :: as) I J E) (as.map (zTr G.2.2.1)) :=
    ⟨zBlind, hrecv, fun U hU hW => ⟨rfl, by rw [hU]; exact hR, by rw [hU]; exact hF.to hW hS⟩⟩
  have hroom : (zRm d' mc' ms').frames + 1 ≤ (zRm d mc ms).frames ∧ 8 + (M'.2.2.1 + 11) + (zRm d' mc' ms').locals ≤ (zRm d mc ms).locals := by
    simp only [zRm]; omega
  have hCB : ∀ hlink : (Cond.methodLink M.1.cls idx M'.1).before args s = true, CallB (zRm d mc ms) s args M.1.cls idx M'.1 M'.2.1 M'.2.2.1 M'.2.2.2 [Cond.code M'.1 M'.2.1 M'.2.2.1 M'.2.2.2] (zRm d' mc' ms') mc' ms' n := fun hlink =>
    ⟨rfl, rfl, hroom.1, hroom.2, zCode_ws hT hMB, List.mem_singleton.mpr rfl, hT _ hw1 rfl args, hT _ hw2 rfl args, hne, zNpar hpar, hlink⟩
  rw [hstk]
  rcases hL with hL | ⟨host, hL⟩
  · exact sw_back hl hn hS (va_runV (nL := ls.length) (Ts := []) ⟨hx, hbb, hn.symm, hown, fun w hw => by cases hw⟩ h ⟨hCB (hT _ hL rfl args), hT _ hMi rfl args, hT _ hMs rfl args⟩ hpre rfl (by simp [hn0]) hl.1 rfl (by simpa [JFrame.monitorRoom] using hcat) hd ⟨ha, hb⟩) k
  · exact sw_back hl hn hS (va_runVN (nL := ls.length) (Ts := []) (host := host) ⟨hx, hbb, hn.symm, hown, fun w hw => by cases hw⟩ h ⟨⟨⟨rfl, rfl, hroom.1, hroom.2, zCode_ws hT hMB, List.mem_singleton.mpr rfl⟩, hT _ hw1 rfl args, hT _ hw2 rfl args, hne, zNpar hpar, hT _ hL rfl args⟩, hT _ hMi rfl args, hT _ hMs rfl args⟩ hpre rfl (by simp [hn0]) hl.1 rfl (by simpa [JFrame.monitorRoom] using hcat) hd ⟨ha, hb⟩) k
theorem sw_callS (C : zOK G X M d mc ms) {M' : zM} {d' mc' ms' n idx : Nat} {as : List Value} {r : Option Value} {I' : zI} {J' : Int64} {E' : UInt64} (hM : zMeS M' n) (hL : zLk M.1.cls idx M'.1) (hd : decode M.2.1 pc = .ok (.invokestatic idx, 3)) (hn0 : as.length = n) (hr : (st.map (fun v => v.category)).sum ≤ 8) (h : zCR X.2.1 G M' d' mc' ms' as I J E r I' J' E') (hdd : d' + 1 ≤ d) (ha : a + mc' ≤ mc) (hb : b + ms' ≤ ms) (k : SW G X (a + mc') (b + ms') (pc + 3) ls (r.toList ++ st) I' J' E') : SW G X a b pc ls (as.reverse ++ st) I J E := by
  obtain ⟨p, l, e, R, s, m, args, below, meth, c, Q⟩ := X
  intro H locs arr hl hn hR hS
  obtain ⟨hx, hbb, hml, hown, hlk, hrt, hF, hRm, hfl⟩ := id C
  have hRm : R = zRm d mc ms := hRm
  subst hRm
  obtain ⟨hMB, hMi⟩ := hM
  obtain ⟨hw1, hw2, hne, hpar, hmx⟩ := id hMB
  have hT := hF.1
  have hcat : (((st.map (zTr G.2.2.1))).map fun v => v.category).sum ≤ 8 := by
    rw [List.map_map]
    rw [show ((fun v : Value => v.category) ∘ zTr G.2.2.1) = (fun v => v.category) from funext (fun v => zTr_cat _ v)]
    exact hr
  have hpre : PreS s H (zPc G as I J E) (as.map (zTr G.2.2.1)) :=
    ⟨zBlind, fun U hU hW => ⟨rfl, by rw [hU]; exact hR, by rw [hU]; exact hF.to hW hS⟩⟩
  have hroom : (zRm d' mc' ms').frames + 1 ≤ (zRm d mc ms).frames ∧ 8 + (M'.2.2.1 + 11) + (zRm d' mc' ms').locals ≤ (zRm d mc ms).locals := by
    simp only [zRm]; omega
  have hCB : ∀ hlink : (Cond.methodLink M.1.cls idx M'.1).before args s = true, CallB (zRm d mc ms) s args M.1.cls idx M'.1 M'.2.1 M'.2.2.1 M'.2.2.2 [Cond.code M'.1 M'.2.1 M'.2.2.1 M'.2.2.2] (zRm d' mc' ms') mc' ms' n := fun hlink =>
    ⟨rfl, rfl, hroom.1, hroom.2, zCode_ws hT hMB, List.mem_singleton.mpr rfl, hT _ hw1 rfl args, hT _ hw2 rfl args, hne, zNpar hpar, hlink⟩
  rw [zMapRev]
  rcases hL with hL | ⟨host, hL⟩
  · exact sw_back hl hn hS (va_runS (nL := ls.length) (Ts := []) ⟨hx, hbb, hn.symm, hown, fun w hw => by cases hw⟩ h ⟨hCB (hT _ hL rfl args), hT _ hMi rfl args⟩ hpre rfl (by simp [hn0]) hl.1 rfl (by simpa [JFrame.monitorRoom] using hcat) hd ⟨ha, hb⟩) k
  · exact sw_back hl hn hS (va_runSN (nL := ls.length) (Ts := []) (host := host) ⟨hx, hbb, hn.symm, hown, fun w hw => by cases hw⟩ h ⟨⟨⟨rfl, rfl, hroom.1, hroom.2, zCode_ws hT hMB, List.mem_singleton.mpr rfl⟩, hT _ hw1 rfl args, hT _ hw2 rfl args, hne, zNpar hpar, hT _ hL rfl args⟩, hT _ hMi rfl args, trivial⟩ hpre rfl (by simp [hn0]) hl.1 rfl (by simpa [JFrame.monitorRoom] using hcat) hd ⟨ha, hb⟩) k
end ZC
