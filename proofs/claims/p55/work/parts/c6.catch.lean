/-! methods that catch; what they write into out and outD -/
def zNcs : List (String × String) := [("java/lang/IllegalArgumentException", "java/lang/IndexOutOfBoundsException"), ("java/lang/IllegalStateException", "java/lang/IndexOutOfBoundsException"), ("java/lang/IllegalStateException", "java/lang/IllegalArgumentException"), ("java/util/NoSuchElementException", "java/lang/IndexOutOfBoundsException"), ("java/util/NoSuchElementException", "java/lang/IllegalStateException")]
def zNcF (U : State) : Prop := ∀ q ∈ zNcs, va_Nc q.1 q.2 U
theorem zNcF.moved {s U : State} (hW : s.WarmedH U.vm) (h : zNcF s) : zNcF U := fun q hq => (h q hq).moved hW.alike
def wPc (G : zG) (as : List Value) (I : zI) (J : Int64) (E : UInt64) : Array Value → State → Prop := fun v U => (v = (as.map (zTr G.2.2.1)).toArray ∧ zRep G I J E U.heap ∧ zFacts G U U.heap) ∧ zNcF U
theorem wBlind {G : zG} {as : List Value} {I : zI} {J : Int64} {E : UInt64} : FrameBlind (wPc G as I J E) := by
  intro a U g mk ⟨⟨h1, h2, h3⟩, h4⟩
  exact ⟨⟨h1, h2, h3.to (State.WarmedH.refl U) va_S.rf⟩, h4.moved (State.WarmedH.refl U)⟩
abbrev zHh : Type := List (Nat × Nat × Nat × Nat)
/-- a method with handlers returns r -/
def wCR (l : Launch) (G : zG) (M : zM) (hh : zHh) (d mc ms : Nat) (as : List Value) (S : zS) (J : Int64) (E : UInt64) (r : Option Value) (S' : zS) (J' : Int64) (E' : UInt64) : Prop :=
  Met l M.1 [Cond.codeWith M.1 M.2.1 M.2.2.1 M.2.2.2 hh] (zRm d mc ms) (wPc G as (zIn S) J E) (zQc G r (zIn S') J' E') mc ms (zA G)
def wOK (X : zX) (hh : zHh) : Prop := match X with
  | (_, _, _, _, s, _, _, _, _, c, _) => c.exceptionTable.toList = tableOf hh ∧ zNcF s
theorem wCR.of {l : Launch} {G : zG} {M : zM} {hh : zHh} {d mc ms : Nat} {as : List Value} {S S' : zS} {J J' : Int64} {E E' : UInt64} {r : Option Value} (hl : l.stackTraces = false) (hy : plainName M.1.cls = true) (h1 : as.all (fun v => v.category == 1) = true) (hn : as.length ≤ M.2.2.1) {ls : List (Option Value)} (hls : as.map some ++ List.replicate (M.2.2.1 - as.length) none = ls)
    (body : ∀ X, zOK G X M d mc ms → wOK X hh → zFin G X mc ms r (zIn S') J' E' → X.2.1 = l → SN G X 0 0 0 ls [] S J E) : wCR l G M hh d mc ms as S J E r S' J' E' := by
  have h1' : ∀ v ∈ as, v.category = 1 := fun v hv => by simpa using List.all_eq_true.mp h1 v hv
  refine va_MetW (cc := M.2.1) (maxL := M.2.2.1) (ret := M.2.2.2) (hh := hh) hy rfl ?_
  intro p e s m args below meth c s₁ B hml hv
  obtain ⟨⟨rfl, hR, hF⟩, hN⟩ := hv
  obtain ⟨arr, he, hh2⟩ := zEntry (φ := G.2.2.1) (m := m) h1' hn
  rw [he]
  rw [hls] at hh2
  have hT : c.exceptionTable.toList = tableOf hh := vx_table (x := M.1) B (atoms_spec (ws := [Cond.codeWith M.1 M.2.1 M.2.2.1 M.2.2.2 hh]) B.pre _ List.mem_cons_self)
  refine body (p, l, e, _, s, m, _, below, meth, c, _) ⟨B.exec, B.bytes, hml, findClass_of_methodNamed B.named, B.notSynchronized, B.returns, hF, rfl, hl⟩ ⟨hT, hN⟩ rfl rfl s.heap [] arr hh2 ?_ hR va_S.rf
  rw [hml, ← hls]; simp; omega
/-- the handler that takes an exception of a class -/
def wSel (own cls : String) (hh : zHh) (pc hpc : Nat) : Prop := ∃ (pre : List ExceptionTableEntry) (x : ExceptionTableEntry) (suf : List ExceptionTableEntry), tableOf hh = pre ++ x :: suf ∧ (∀ z ∈ pre, z.catchType ≠ 0 ∧ ∃ nm : String, Cond.classLink own z.catchType nm ∈ lw_tbl ∧ (cls, nm) ∈ zNcs) ∧ covers x pc = true ∧ x.catchType ≠ 0 ∧ x.handlerPc = hpc ∧ ∃ nm : String, Cond.classLink own x.catchType nm ∈ lw_tbl ∧ Cond.castable cls nm ∈ lw_tbl
theorem zHas.setN {φ : Nat → Nat} {arr ls' : Array Slot} {ls : List (Option Value)} {i : Nat} {v : Value} (h : lv_has ls' ls.length ((i, v) :: (zAl φ ls).filter (fun q => !(q.1 == i) && !(q.1 + 1 == i && q.2.category == 2)))) (_ : arr.size = ls.length) (hi : i < ls.length) (hu : ∀ u, (if i = 0 then none else ls[i - 1]?) = some u → zC1 u = true) : zHas φ ls' (ls.set i none) := by
  refine ⟨by rw [h.1]; simp, h.2.1, fun j w hw => ?_⟩
  by_cases hj : j = i
  · subst hj
    rw [List.getElem?_set_self hi] at hw
    cases hw
  · rw [List.getElem?_set_ne (fun h => hj h.symm)] at hw
    refine h.2.2 (j, zTr φ w) (List.mem_cons_of_mem _ (List.mem_filter.mpr ⟨zAl.mem hw, ?_⟩))
    have h1 : (j == i) = false := by simpa using hj
    simp only [h1, Bool.not_false, Bool.true_and]
    by_cases hji : j + 1 = i
    · subst hji
      have h2 := hu (some w) (by simpa using hw)
      simp only [zC1, beq_iff_eq] at h2
      simp [zTr_cat, h2]
    · simp [hji]
section ZK
variable {G : zG} {X : zX} {M : zM} {d mc ms a b pc : Nat} {ls : List (Option Value)} {st : List Value} {I : zI} {J : Int64} {E : UInt64}
/-- a call of a method with handlers -/
theorem sw_callW (C : zOK G X M d mc ms) {S S' : zS} {J' : Int64} {E' : UInt64} {M' : zM} {hh : zHh} {d' mc' ms' n idx : Nat} {as : List Value} {r : Option Value} (hN : ∀ s, s = X.2.2.2.2.1 → zNcF s) (hw1 : Cond.codeWith M'.1 M'.2.1 M'.2.2.1 M'.2.2.2 hh ∈ lw_tbl) (hk1 : zGood (Cond.codeWith M'.1 M'.2.1 M'.2.2.1 M'.2.2.2 hh) = true) (hw2 : Cond.initialized M'.1.cls ∈ lw_tbl) (hne : M'.1.cls ≠ "java/lang/invoke/MethodHandle" ∧ M'.1.cls ≠ "java/lang/invoke/VarHandle") (hpar : (parseMethodDescriptor M'.1.desc).map (fun d => d.parameters.length) = some n) (hmx : M'.2.2.1 ≤ 40) (hst : Cond.static M'.1 ∈ lw_tbl) (hL : Cond.methodLink M.1.cls idx M'.1 ∈ lw_tbl) (hd : decode M.2.1 pc = .ok (.invokestatic idx, 3)) (hn0 : as.length = n) (hr : (st.map (fun v => v.category)).sum ≤ 8) (h : wCR X.2.1 G M' hh d' mc' ms' as S J E r S' J' E') (hdd : d' + 1 ≤ d) (ha : a + mc' ≤ mc) (hb : b + ms' ≤ ms) (k : SN G X (a + mc') (b + ms') (pc + 3) ls (r.toList ++ st) S' J' E') : SN G X a b pc ls (as.reverse ++ st) S J E := by
  obtain ⟨p, l, e, R, s, m, args, below, meth, c, Q⟩ := X
  intro H locs arr hl hn hR hS
  obtain ⟨hx, hbb, hml, hown, hlk, hrt, hF, hRm, hfl⟩ := id C
  have hRm : R = zRm d mc ms := hRm
  subst hRm
  have hT := hF.1
  have hcat : (((st.map (zTr G.2.2.1))).map fun v => v.category).sum ≤ 8 := by
    rw [List.map_map]
    rw [show ((fun v : Value => v.category) ∘ zTr G.2.2.1) = (fun v => v.category) from funext (fun v => zTr_cat _ v)]
    exact hr
  have hNs : zNcF s := hN s rfl
  have hpre : PreS s H (wPc G as (zIn S) J E) (as.map (zTr G.2.2.1)) :=
    ⟨wBlind, fun U hU hW => ⟨⟨rfl, by rw [hU]; exact hR, by rw [hU]; exact hF.to hW hS⟩, hNs.moved hW⟩⟩
  have hroom : (zRm d' mc' ms').frames + 1 ≤ (zRm d mc ms).frames ∧ 8 + (M'.2.2.1 + 11) + (zRm d' mc' ms').locals ≤ (zRm d mc ms).locals := by
    simp only [zRm]; omega
  have hws : ∀ w ∈ ([Cond.codeWith M'.1 M'.2.1 M'.2.2.1 M'.2.2.2 hh] : List Cond), ∀ (a' : Array Value) (U : State), s.WarmedH U.vm → w.before a' U = true := by
    intro w hw a' U hW
    rw [List.mem_singleton] at hw
    subst hw
    exact (hT.moved hW) _ hw1 hk1 a'
  rw [show (as.reverse ++ st).map (zTr G.2.2.1) = (as.map (zTr G.2.2.1)).reverse ++ st.map (zTr G.2.2.1) from zMapRev _ _ _]
  exact sw_back hl hn hS (vx_runSW (hh := hh) (nL := ls.length) (Ts := []) ⟨hx, hbb, hn.symm, hown, fun w hw => by cases hw⟩ h ⟨⟨rfl, rfl, hroom.1, hroom.2, hws, List.mem_singleton.mpr rfl⟩, hT _ hw1 hk1 args, hT _ hw2 rfl args, hne, zNpar hpar, hT _ hL rfl args, hT _ hst rfl args⟩ hpre rfl (by simp [hn0]) hl.1 rfl (by simpa [JFrame.monitorRoom] using hcat) hd ⟨ha, hb⟩) k
/-- after a call that threw: the handler, behind its store -/
theorem sw_inC {p : Program} {l : Launch} {e : Env} {R : Room} {s : State} {m : MethodId} {args : Array Value} {below : List Frame} {meth : Method} {c : Code} {Q : State → Prop} {H : Heap} {locs : List Loc} {arr : Array Slot} {mc' ms' : Nat} {st0 rest : List Value} {as : Array Value} {cls : String} {I' : zI} {J' : Int64} {E' : UInt64} {hh : zHh} {i hpc len : Nat} (C : zOK G (p, l, e, R, s, m, args, below, meth, c, Q) M d mc ms) (hW : wOK (p, l, e, R, s, m, args, below, meth, c, Q) hh) (hsel : wSel M.1.cls cls hh pc hpc) (hl : zHas G.2.2.1 arr ls) (hn : ls.length = c.maxLocals) (hS : va_S (zA G) s.heap H locs) (hi : i < ls.length) (hu : ∀ u, (if i = 0 then none else ls[i - 1]?) = some u → zC1 u = true)
    (hd : (decode M.2.1 hpc = .ok (.astore i, 2) ∧ len = 2) ∨ ∃ j : Fin 4, j.val = i ∧ decode M.2.1 hpc = .ok (.astore_n j, 1) ∧ len = 1) (run : vx_Run p l e R s m args below meth c H locs a b mc' ms' (F0 m pc arr st0) rest (zNo as) (zXc G cls I' J' E') (zA G)) (k : SW G (p, l, e, R, s, m, args, below, meth, c, Q) (a + mc') (b + ms') (hpc + len) (ls.set i none) [] I' J' E') : W p l e R s m args below meth c H locs a b Q (F0 m pc arr st0) := by
  obtain ⟨hx, hbb, hml, hown, hlk, hrt, hF, hRm, hfl⟩ := id C
  obtain ⟨hT, hNc⟩ := hW
  obtain ⟨pre, x, suf, hsplit, hpass, hcov, h0, rfl, nm, hlink, hcast⟩ := hsel
  intro T hTT X0
  rcases run T hTT X0 with ⟨v, st₀, t, T', L, h0, X', hL, e1, e2, hno, hst⟩ | ⟨q, st₀, t, T', L, E1, ce, h0', X', hL, e1, e2, ⟨rfl, hR', hF'⟩, hce, hvm, hcl, hst⟩
  · exact hno.elim
  · obtain ⟨g1, g2, g3⟩ := vx_keep (A1 := zA G) (T' := T') h0' e1 hS (fun _ _ h => h) (fun _ h => h) hL hF'
    have hW0 := hF.1
    have hk : W p l e R s m args below meth c T'.heap (locs ++ L) (a + mc') (b + ms') Q (F0 m x.handlerPc arr [.ref q]) := by
      have go : ∀ ls' : Array Slot, lv_has ls' ls.length ((i, .ref q) :: (zAl G.2.2.1 ls).filter (fun q => !(q.1 == i) && !(q.1 + 1 == i && q.2.category == 2))) → W p l e R s m args below meth c T'.heap (locs ++ L) (a + mc') (b + ms') Q (F0 m (x.handlerPc + len) ls' []) := fun ls' h =>
        k T'.heap (locs ++ L) ls' (zHas.setN h hl.1 hi hu) (by simpa using hn) (by rw [e1]; exact hR') g3
      rcases hd with ⟨hd, rfl⟩ | ⟨j, rfl, hd, rfl⟩
      · exact lv_astore hx hbb (i := i) hd (lv := zAl G.2.2.1 ls) (zHas.has hl) hi rfl go
      · exact lv_astore_n hx hbb (i := j.val) hd rfl (lv := zAl G.2.2.1 ls) (zHas.has hl) hi rfl go
    have kk := vx_catch (name := nm) (rest := rest) (pc := pc) (ls := arr) (H := T'.heap) (locs := locs ++ L) (cells := a + mc') (slots := b + ms') (E := E1) (ce := ce) (q := q) (Q := Q) hown pre x suf (hT.trans hsplit) (fun z hz => Or.inr ⟨(hpass z hz).1, by obtain ⟨-, nm', hl', hn'⟩ := hpass z hz; exact ⟨nm', hW0 _ hl' rfl args, hNc _ hn'⟩⟩) hcov h0 (hW0 _ hlink rfl args) (hW0 _ hcast rfl args) (by rw [e1]; exact hce) hvm hcl hk
    obtain ⟨t2, a1, b1⟩ := kk T' rfl X'
    exact ⟨t2, hst.trans a1, b1⟩
theorem sw_callV_C (C : zOK G X M d mc ms) {hh : zHh} (hW : wOK X hh) {M' : zM} {d' mc' ms' n ci o idx : Nat} {as : List Value} {cls : String} {I' : zI} {J' : Int64} {E' : UInt64} (hM : zMeV M' n) (hL : Cond.methodLink M.1.cls idx M'.1 ∈ lw_tbl) (hs : zSh o = (0, ci)) (ho : o < zN) (hc : vwCl[ci]? = some (zCls ci)) (hC : (zCls ci).1 = M'.1.cls) (hd : decode M.2.1 pc = .ok (.invokevirtual idx, 3)) (hn0 : as.length = n) (hr : (st.map (fun v => v.category)).sum ≤ 8) (h : zCT X.2.1 G M' d' mc' ms' (.ref o :: as) I J E cls I' J' E') (hdd : d' + 1 ≤ d) (ha : a + mc' ≤ mc) (hb : b + ms' ≤ ms) {i hpc len : Nat} (hsel : wSel M.1.cls cls hh pc hpc) (hi : i < ls.length) (hu : ∀ u, (if i = 0 then none else ls[i - 1]?) = some u → zC1 u = true) (hd2 : (decode M.2.1 hpc = .ok (.astore i, 2) ∧ len = 2) ∨ ∃ j : Fin 4, j.val = i ∧ decode M.2.1 hpc = .ok (.astore_n j, 1) ∧ len = 1) {ls' : List (Option Value)} (hls : ls.set i none = ls') (k : SW G X (a + mc') (b + ms') (hpc + len) ls' [] I' J' E') : SW G X a b pc ls (as.reverse ++ .ref o :: st) I J E := by
  subst hls
  obtain ⟨p, l, e, R, s, m, args, below, meth, c, Q⟩ := X
  intro H locs arr hl hn hR hS
  obtain ⟨hx, hbb, hml, hown, hlk, hrt, hF, hRm, hfl⟩ := id C
  have hRm : R = zRm d mc ms := hRm
  subst hRm
  obtain ⟨va, cap, hP, hD⟩ := id hR
  obtain ⟨hMB, hMi, hMs⟩ := hM
  obtain ⟨hw1, hw2, hne, hpar, hmx⟩ := id hMB
  have hT := hF.1
  have hcat : (((st.map (zTr G.2.2.1))).map fun v => v.category).sum ≤ 8 := by
    rw [List.map_map]
    rw [show ((fun v : Value => v.category) ∘ zTr G.2.2.1) = (fun v => v.category) from funext (fun v => zTr_cat _ v)]
    exact hr
  have hstk : (as.reverse ++ Value.ref o :: st).map (zTr G.2.2.1) = (as.map (zTr G.2.2.1)).reverse ++ Value.ref (G.2.2.1 o) :: st.map (zTr G.2.2.1) := by simp [zTr]
  have hrecv := zRecv (s := s) hF.2.1 hP hs ho hc hC
  have hpre : PreV s H M'.1.cls (G.2.2.1 o) (zPc G (.ref o :: as) I J E) (as.map (zTr G.2.2.1)) :=
    ⟨zBlind, hrecv, fun U hU hW => ⟨rfl, by rw [hU]; exact hR, by rw [hU]; exact hF.to hW hS⟩⟩
  have hroom : (zRm d' mc' ms').frames + 1 ≤ (zRm d mc ms).frames ∧ 8 + (M'.2.2.1 + 11) + (zRm d' mc' ms').locals ≤ (zRm d mc ms).locals := by
    simp only [zRm]; omega
  rw [hstk]
  exact sw_inC C hW hsel hl hn hS hi hu hd2 (vx_runV (nL := ls.length) (Ts := []) ⟨hx, hbb, hn.symm, hown, fun w hw => by cases hw⟩ h ⟨⟨rfl, rfl, hroom.1, hroom.2, zCode_ws hT hMB, List.mem_singleton.mpr rfl, hT _ hw1 rfl args, hT _ hw2 rfl args, hne, zNpar hpar, hT _ hL rfl args⟩, hT _ hMi rfl args, hT _ hMs rfl args⟩ hpre rfl (by simp [hn0]) hl.1 rfl (by simpa [JFrame.monitorRoom] using hcat) hd ⟨ha, hb⟩) k
end ZK
