/-! calls of the output's own methods: a superclass's, inherited ones, private ones -/
theorem wSbIL : Cond.selects "java/lang/StringBuilder" (⟨"java/lang/AbstractStringBuilder", "isLatin1", "()Z"⟩ : MethodName) (⟨"java/lang/AbstractStringBuilder", "isLatin1", "()Z"⟩ : MethodName) ∈ lw_tbl := List.mem_of_getElem? (i := 857) (by decide +kernel)
theorem wSbSup : Cond.superclass "java/lang/StringBuilder" "java/lang/AbstractStringBuilder" ∈ lw_tbl := List.mem_of_getElem? (i := 265) (by decide +kernel)
/-- a private method of the output's superclass -/
def zMeP (M : zM) (n : Nat) : Prop := zMeB M n ∧ Cond.instanceMethod M.1 ∈ lw_tbl ∧ Cond.privateMethod M.1 ∈ lw_tbl ∧ M.1.cls = "java/lang/AbstractStringBuilder"
/-- a method of the output's superclass, called by super -/
def zMeU (M : zM) (n : Nat) : Prop := zMeB M n ∧ Cond.instanceMethod M.1 ∈ lw_tbl ∧ Cond.sameMethod M.1.cls M.1.cls M.1.name M.1.desc ∈ lw_tbl ∧ M.1.cls = "java/lang/AbstractStringBuilder" ∧ M.1.name ≠ "<init>"
section ZCP
variable {G : zG} {X : zX} {M : zM} {d mc ms a b pc : Nat} {ls : List (Option Value)} {st : List Value} {I : zI} {J : Int64} {E : UInt64}
theorem zRun_priv {p : Program} {l : Launch} {e : Env} {R : Room} {s : State} {m : MethodId} {args : Array Value} {below : List Frame} {meth : Method} {c : Code} {H : Heap} {locs : List Loc} {cells slots : Nat} {y : MethodName} {bytes cc : ByteArray} {maxL nL mc ms n index : Nat} {ret : Option FieldType} {ws : List Cond} {rm : Room} {Pc : Array Value → State → Prop} {Qc : Array Value → State → Outcome → State → Prop} {free : Addr → Prop} {Ts : List Cond} {own C : String} {b : Addr} {As rest : List Value} {g : JFrame}
    (S : CallFix p m c cc nL s args Ts own) (hM : Met l y ws rm Pc Qc mc ms free) (cw : CallB R s args own index y bytes maxL ret ws rm mc ms n) (hinst : (Cond.instanceMethod y).before args s = true) (hsel : (Cond.selects y.cls y y).before args s = true) (hpriv : s.PrivateAt y) (hp : PreV s H C b Pc As)
    (hg : g.method = m) (hn : As.length = n) (hsize : g.locals.size = nL) (hstack : g.stack = As.reverse ++ .ref b :: rest) (hW : 2 * g.monitorRoom + (rest.map fun v => v.category).sum ≤ 8) (hdg : decode cc g.pc = .ok (.invokevirtual index, 3)) (hf : cells + mc ≤ R.cells ∧ slots + ms ≤ R.slots) :
    va_Run p l e R s m args below meth c H locs cells slots mc ms g rest (Qc (Value.ref b :: As).toArray) (free) := by
  have hK : Back l R p e below s args y 3 8 (PreOf R mc ms Pc) (PostOf Qc mc ms free) := callBack cw hM hp.1
  obtain ⟨-, -, -, -, -, -, hcode, -, hy, hlen, hl⟩ := cw
  obtain ⟨hx, hb, hml, ho, -⟩ := S
  obtain ⟨-, ⟨cellB, hcB, hoB, hclB⟩, hPc⟩ := hp
  intro T hT X
  obtain ⟨v, vm₁, ⟨U', l2, c2, s2⟩, hW₁, X', ⟨g', mk, t, L, e1, e2, hq, h1, hL, h2, h3⟩, st⟩ := X.privateBack hx (bytes := bytes) (maxL := maxL) (ret := ret) ho hl hinst hsel hpriv hcode hy hK hg (hsize.trans hml.symm) (s₀ := T.setTop g) (Steps.refl _) (a := b) (cell := cellB) (by rw [hT]; exact hcB) (fun q h => by rw [h] at hoB; cases hoB) (argsL := As) (rest := rest) (fun sig h => hn.trans (hlen sig h)) hstack hW (by rw [hb]; exact hdg)
    (fun vm₁ hW₁ => ⟨hf.1, hf.2, hPc (T.setVm vm₁) hT hW₁⟩)
  dsimp only [Pt.U, Pt.locs, Pt.cells, Pt.slots] at X' e1 e2 h1 h2 h3 st
  subst h1; subst h2; subst h3
  exact ⟨v, (T.setVm vm₁).calling g' mk (Value.ref b :: As).toArray, t, U', L, hT, X', hL, e1, e2, hq, fun t2 h => st.trans h⟩
/-- a private method selects itself -/
theorem zSelP {s : State} {args : Array Value} {y : MethodName} (hT : zTW s) (hy : y.cls = "java/lang/AbstractStringBuilder") (hi : Cond.instanceMethod y ∈ lw_tbl) (hp : Cond.privateMethod y ∈ lw_tbl) : (Cond.selects y.cls y y).before args s = true ∧ s.PrivateAt y := by
  have h1 := hT _ wSbIL rfl args
  have h2 := hT _ hi rfl args
  have h3 : s.PrivateAt y := Cond.privateMethod_at (args := args) (hT _ hp rfl args)
  obtain ⟨c2, r2, m2, -, -, q3, -, kP, hkP, hkPi⟩ := Cond.selects_spec h1
  have hc := findClass_of_methodNamed q3
  refine ⟨Jvm.Stand.selects_self_of_private (c := m2.cls) (k := kP) (by rw [hy]; exact hc) hkP hkPi h3 h2 (by rw [hy]; decide), h3⟩
theorem sw_callP (C : zOK G X M d mc ms) {M' : zM} {d' mc' ms' n idx : Nat} {as : List Value} {r : Option Value} {I' : zI} {J' : Int64} {E' : UInt64} (hM : zMeP M' n) (hL : Cond.methodLink M.1.cls idx M'.1 ∈ lw_tbl) (hd : decode M.2.1 pc = .ok (.invokevirtual idx, 3)) (hn0 : as.length = n) (hr : (st.map (fun v => v.category)).sum ≤ 8) (h : zCR X.2.1 G M' d' mc' ms' (.ref 10 :: as) I J E r I' J' E') (hdd : d' + 1 ≤ d) (ha : a + mc' ≤ mc) (hb : b + ms' ≤ ms) (k : SW G X (a + mc') (b + ms') (pc + 3) ls (r.toList ++ st) I' J' E') : SW G X a b pc ls (as.reverse ++ .ref 10 :: st) I J E := by
  obtain ⟨p, l, e, R, s, m, args, below, meth, c, Q⟩ := X
  intro H locs arr hl hn hR hS
  obtain ⟨hx, hbb, hml, hown, hlk, hrt, hF, hRm, hfl⟩ := id C
  have hRm : R = zRm d mc ms := hRm
  subst hRm
  obtain ⟨va, cap, hP, hD⟩ := id hR
  obtain ⟨hMB, hMi, hMp, hMc⟩ := hM
  obtain ⟨hw1, hw2, hne, hpar, hmx⟩ := id hMB
  have hT := hF.1
  have hcat : (((st.map (zTr G.2.2.1))).map fun v => v.category).sum ≤ 8 := by
    rw [List.map_map]
    rw [show ((fun v : Value => v.category) ∘ zTr G.2.2.1) = (fun v => v.category) from funext (fun v => zTr_cat _ v)]
    exact hr
  have hstk : (as.reverse ++ Value.ref 10 :: st).map (zTr G.2.2.1) = (as.map (zTr G.2.2.1)).reverse ++ Value.ref (G.2.2.1 10) :: st.map (zTr G.2.2.1) := by simp [zTr]
  have hrecv := zRecv (s := s) hF.2.1 hP (o := 10) (ci := 1) (C := "java/lang/StringBuilder") rfl (by decide) rfl rfl
  have hpre : PreV s H "java/lang/StringBuilder" (G.2.2.1 10) (zPc G (.ref 10 :: as) I J E) (as.map (zTr G.2.2.1)) :=
    ⟨zBlind, hrecv, fun U hU hW => ⟨rfl, by rw [hU]; exact hR, by rw [hU]; exact hF.to hW hS⟩⟩
  have hroom : (zRm d' mc' ms').frames + 1 ≤ (zRm d mc ms).frames ∧ 8 + (M'.2.2.1 + 11) + (zRm d' mc' ms').locals ≤ (zRm d mc ms).locals := by
    simp only [zRm]; omega
  obtain ⟨hsel, hpv⟩ := zSelP (args := args) hT hMc hMi hMp
  rw [hstk]
  exact sw_back hl hn hS (zRun_priv (nL := ls.length) (Ts := []) ⟨hx, hbb, hn.symm, hown, fun w hw => by cases hw⟩ h ⟨rfl, rfl, hroom.1, hroom.2, zCode_ws hT hMB, List.mem_singleton.mpr rfl, hT _ hw1 rfl args, hT _ hw2 rfl args, hne, zNpar hpar, hT _ hL rfl args⟩ (hT _ hMi rfl args) hsel hpv hpre rfl (by simp [hn0]) hl.1 rfl (by simpa [JFrame.monitorRoom] using hcat) hd ⟨ha, hb⟩) k
theorem sw_callSup (C : zOK G X M d mc ms) (hown0 : M.1.cls = "java/lang/StringBuilder") {M' : zM} {d' mc' ms' n idx : Nat} {as : List Value} {r : Option Value} {I' : zI} {J' : Int64} {E' : UInt64} (hM : zMeU M' n) (hL : Cond.methodLink M.1.cls idx M'.1 ∈ lw_tbl) (hd : decode M.2.1 pc = .ok (.invokespecial idx, 3)) (hn0 : as.length = n) (hr : (st.map (fun v => v.category)).sum ≤ 8) (h : zCR X.2.1 G M' d' mc' ms' (.ref 10 :: as) I J E r I' J' E') (hdd : d' + 1 ≤ d) (ha : a + mc' ≤ mc) (hb : b + ms' ≤ ms) (k : SW G X (a + mc') (b + ms') (pc + 3) ls (r.toList ++ st) I' J' E') : SW G X a b pc ls (as.reverse ++ .ref 10 :: st) I J E := by
  obtain ⟨p, l, e, R, s, m, args, below, meth, c, Q⟩ := X
  intro H locs arr hl hn hR hS
  obtain ⟨hx, hbb, hml, hown, hlk, hrt, hF, hRm, hfl⟩ := id C
  have hRm : R = zRm d mc ms := hRm
  subst hRm
  obtain ⟨va, cap, hP, hD⟩ := id hR
  obtain ⟨hMB, hMi, hMs, hMc, hMn⟩ := hM
  obtain ⟨hw1, hw2, hne, hpar, hmx⟩ := id hMB
  have hT := hF.1
  have hcat : (((st.map (zTr G.2.2.1))).map fun v => v.category).sum ≤ 8 := by
    rw [List.map_map]
    rw [show ((fun v : Value => v.category) ∘ zTr G.2.2.1) = (fun v => v.category) from funext (fun v => zTr_cat _ v)]
    exact hr
  have hstk : (as.reverse ++ Value.ref 10 :: st).map (zTr G.2.2.1) = (as.map (zTr G.2.2.1)).reverse ++ Value.ref (G.2.2.1 10) :: st.map (zTr G.2.2.1) := by simp [zTr]
  have hrecv := zRecv (s := s) hF.2.1 hP (o := 10) (ci := 1) (C := "java/lang/StringBuilder") rfl (by decide) rfl rfl
  have hpre : PreV s H "java/lang/StringBuilder" (G.2.2.1 10) (zPc G (.ref 10 :: as) I J E) (as.map (zTr G.2.2.1)) :=
    ⟨zBlind, hrecv, fun U hU hW => ⟨rfl, by rw [hU]; exact hR, by rw [hU]; exact hF.to hW hS⟩⟩
  have hroom : (zRm d' mc' ms').frames + 1 ≤ (zRm d mc ms).frames ∧ 8 + (M'.2.2.1 + 11) + (zRm d' mc' ms').locals ≤ (zRm d mc ms).locals := by
    simp only [zRm]; omega
  have hat : ClassAt s "java/lang/StringBuilder" (G.1.1 1) := (hF.2.1.1 1 (zCls 1) rfl).2
  have hsup : (Cond.superclass M.1.cls M'.1.cls).before args s = true := by rw [hown0, hMc]; exact hT _ wSbSup rfl args
  rw [hstk]
  exact sw_back hl hn hS (va_runSU (nL := ls.length) (Ts := []) hat ⟨hx, hbb, hn.symm, hown, fun w hw => by cases hw⟩ h ⟨⟨rfl, rfl, hroom.1, hroom.2, zCode_ws hT hMB, List.mem_singleton.mpr rfl⟩, hT _ hL rfl args, hT _ hMs rfl args, hsup, hT _ hMi rfl args, hT _ hw2 rfl args, hT _ hw1 rfl args, hMn, zNpar hpar⟩ hpre rfl (by simp [hn0]) hl.1 rfl (by simpa [JFrame.monitorRoom] using hcat) hd ⟨ha, hb⟩) k
theorem sw_callU (C : zOK G X M d mc ms) {M' : zM} {d' mc' ms' n idx : Nat} {as : List Value} {r : Option Value} {I' : zI} {J' : Int64} {E' : UInt64} (hM : zMeU M' n) (hSel : Cond.selects "java/lang/StringBuilder" M'.1 M'.1 ∈ lw_tbl) (hL : Cond.methodLink M.1.cls idx M'.1 ∈ lw_tbl) (hd : decode M.2.1 pc = .ok (.invokevirtual idx, 3)) (hn0 : as.length = n) (hr : (st.map (fun v => v.category)).sum ≤ 8) (h : zCR X.2.1 G M' d' mc' ms' (.ref 10 :: as) I J E r I' J' E') (hdd : d' + 1 ≤ d) (ha : a + mc' ≤ mc) (hb : b + ms' ≤ ms) (k : SW G X (a + mc') (b + ms') (pc + 3) ls (r.toList ++ st) I' J' E') : SW G X a b pc ls (as.reverse ++ .ref 10 :: st) I J E := by
  obtain ⟨p, l, e, R, s, m, args, below, meth, c, Q⟩ := X
  intro H locs arr hl hn hR hS
  obtain ⟨hx, hbb, hml, hown, hlk, hrt, hF, hRm, hfl⟩ := id C
  have hRm : R = zRm d mc ms := hRm
  subst hRm
  obtain ⟨va, cap, hP, hD⟩ := id hR
  obtain ⟨hMB, hMi, hMs, hMc, hMn⟩ := hM
  obtain ⟨hw1, hw2, hne, hpar, hmx⟩ := id hMB
  have hT := hF.1
  have hcat : (((st.map (zTr G.2.2.1))).map fun v => v.category).sum ≤ 8 := by
    rw [List.map_map]
    rw [show ((fun v : Value => v.category) ∘ zTr G.2.2.1) = (fun v => v.category) from funext (fun v => zTr_cat _ v)]
    exact hr
  have hstk : (as.reverse ++ Value.ref 10 :: st).map (zTr G.2.2.1) = (as.map (zTr G.2.2.1)).reverse ++ Value.ref (G.2.2.1 10) :: st.map (zTr G.2.2.1) := by simp [zTr]
  have hrecv := zRecv (s := s) hF.2.1 hP (o := 10) (ci := 1) (C := "java/lang/StringBuilder") rfl (by decide) rfl rfl
  have hpre : PreV s H "java/lang/StringBuilder" (G.2.2.1 10) (zPc G (.ref 10 :: as) I J E) (as.map (zTr G.2.2.1)) :=
    ⟨zBlind, hrecv, fun U hU hW => ⟨rfl, by rw [hU]; exact hR, by rw [hU]; exact hF.to hW hS⟩⟩
  have hroom : (zRm d' mc' ms').frames + 1 ≤ (zRm d mc ms).frames ∧ 8 + (M'.2.2.1 + 11) + (zRm d' mc' ms').locals ≤ (zRm d mc ms).locals := by
    simp only [zRm]; omega
  rw [hstk]
  exact sw_back hl hn hS (va_runU (nL := ls.length) (Ts := []) (owner := M'.1.cls) ⟨hx, hbb, hn.symm, hown, fun w hw => by cases hw⟩ h ⟨⟨rfl, rfl, hroom.1, hroom.2, zCode_ws hT hMB, List.mem_singleton.mpr rfl⟩, hT _ hw1 rfl args, hT _ hw2 rfl args, hne, zNpar hpar, hT _ hL rfl args, hT _ hMs rfl args, va_Decl.of (hT _ hMi rfl args) (hT _ hw1 rfl args), hT _ hSel rfl args, hT _ hMi rfl args⟩ hpre rfl (by simp [hn0]) hl.1 rfl (by simpa [JFrame.monitorRoom] using hcat) hd ⟨ha, hb⟩) k
end ZCP
