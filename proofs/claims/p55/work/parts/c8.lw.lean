/-! the law's own methods: own cells first, the object's last -/
abbrev zWo (G : zG) (va cap : Nat) (S : zS) : va_W := zW G va cap (zIn S) 0 0
/-- the free set without the cells of u -/
def zGn (G : zG) (u : va_W) : zG := (G.1, G.2.1, G.2.2.1, fun q => zA G q ∧ ∀ x ∈ u, x.1 ≠ q)
theorem va_P.mem {D : va_G} {cl : List vw_C} {ws : va_W} {H : Heap} (h : va_P D cl ws H) {x : Nat × va_E} (hx : x ∈ ws) : va_at D cl x H := by
  obtain ⟨i, hi⟩ := List.getElem?_of_mem hx
  exact h i x hi
theorem va_at.lt {D : va_G} {cl : List vw_C} {x : Nat × va_E} {H : Heap} (h : va_at D cl x H) : x.1 < H.size := by
  obtain ⟨q, e⟩ := x
  cases e with
  | inl y =>
    have h1 : H[q]? = some (vp_cell y.1 y.2) := h
    exact (Array.getElem?_eq_some_iff.mp h1).1
  | inr y =>
    obtain ⟨q', h1, cell, g1, -⟩ := h
    exact (Array.getElem?_eq_some_iff.mp g1).1
theorem va_P.left {D : va_G} {cl : List vw_C} {u v : va_W} {H : Heap} (h : va_P D cl (u ++ v) H) : va_P D cl u H := fun k q hk => h k q (by rw [List.getElem?_append_left (List.getElem?_eq_some_iff.mp hk).1]; exact hk)
theorem va_P.right {D : va_G} {cl : List vw_C} {u v : va_W} {H : Heap} (h : va_P D cl (u ++ v) H) : va_P D cl v H := fun k q hk => h (u.length + k) q (by rw [List.getElem?_append_right (by omega), Nat.add_sub_cancel_left]; exact hk)
theorem va_D.left {A : Nat → Prop} {u v : va_W} (h : va_D A (u ++ v)) : va_D A u :=
  ⟨fun i j p q hi hj => h.1 i j p q (by rw [List.getElem?_append_left (List.getElem?_eq_some_iff.mp hi).1]; exact hi) (by rw [List.getElem?_append_left (List.getElem?_eq_some_iff.mp hj).1]; exact hj), fun k q hk => h.2 k q (by rw [List.getElem?_append_left (List.getElem?_eq_some_iff.mp hk).1]; exact hk)⟩
theorem va_D.apart {A : Nat → Prop} {u v : va_W} (h : va_D A (u ++ v)) {x y : Nat × va_E} (hx : x ∈ u) (hy : y ∈ v) : x.1 ≠ y.1 := by
  obtain ⟨i, hi⟩ := List.getElem?_of_mem hx
  obtain ⟨j, hj⟩ := List.getElem?_of_mem hy
  have hil := (List.getElem?_eq_some_iff.mp hi).1
  intro e
  have := h.1 i (u.length + j) x y (by rw [List.getElem?_append_left hil]; exact hi) (by rw [List.getElem?_append_right (by omega), Nat.add_sub_cancel_left]; exact hj) e
  omega
theorem va_D.right {A : Nat → Prop} {u v : va_W} (h : va_D A (u ++ v)) : va_D (fun q => A q ∧ ∀ x ∈ u, x.1 ≠ q) v := by
  refine ⟨fun i j p q hi hj e => ?_, fun k q hk => ⟨h.2 (u.length + k) q (by rw [List.getElem?_append_right (by omega), Nat.add_sub_cancel_left]; exact hk), fun x hx => h.apart hx (List.mem_of_getElem? hk)⟩⟩
  have := h.1 (u.length + i) (u.length + j) p q (by rw [List.getElem?_append_right (by omega), Nat.add_sub_cancel_left]; exact hi) (by rw [List.getElem?_append_right (by omega), Nat.add_sub_cancel_left]; exact hj) e
  omega
theorem zFacts.narrow {G : zG} {u : va_W} {U : State} {H : Heap} (h : zFacts G U H) (hu : ∀ x ∈ u, x.1 < H.size) : zFacts (zGn G u) U H := by
  have hAB : ∀ q, zA (zGn G u) q → zA G q := fun q hq => hq.1
  obtain ⟨h1, h2, h3, h4, h5, h6, ⟨a1, a2, a3, a4, ⟨⟨b1, b2⟩, ⟨b3, b4⟩⟩, c1, c2⟩⟩ := h
  refine ⟨h1, h2, h3.narrow hAB, h4.narrow hAB, h5, fun q hq => ⟨h6 q hq, fun x hx e => ?_⟩, ⟨a1, a2.narrow hAB, a3.narrow hAB, ?_, ⟨⟨b1.narrow hAB, b2.narrow hAB⟩, ⟨b3.narrow hAB, b4.narrow hAB⟩⟩, c1, c2.narrow hAB⟩⟩
  · have := hu x hx; omega
  · exact a4.imp (fun h => h.narrow hAB) (fun h => h.narrow hAB)
section LW
variable {G : zG} {X : zX} {M : zM} {d mc ms a b pc : Nat} {ls : List (Option Value)} {st : List Value} {u : va_W} {S : zS}
def LW (G : zG) (X : zX) (cells slots pc : Nat) (ls : List (Option Value)) (st : List Value) (u : va_W) (S : zS) : Prop := ∀ va cap, zGh G va cap (zIn S) → RW G X cells slots pc ls st (u ++ zWo G va cap S)
def lPc (G : zG) (as : List Value) (ws : va_W) : Array Value → State → Prop := fun v U => (v = as.toArray ∧ va_P G.1 vwCl ws U.heap ∧ va_D (zA G) ws ∧ zFacts G U U.heap) ∧ zNcF U
theorem lBlind {as : List Value} {ws : va_W} : FrameBlind (lPc G as ws) := by
  intro a U g mk ⟨⟨h1, h2, h3, h4⟩, h5⟩
  exact ⟨⟨h1, h2, h3, h4.to (State.WarmedH.refl U) va_S.rf⟩, h5.moved (State.WarmedH.refl U)⟩
def lQr (G : zG) (Qr : Option Value → va_W → zS → Prop) : Option Value → va_W → Prop := fun r ws' => ∃ u' va' cap' S', ws' = u' ++ zWo G va' cap' S' ∧ zGh G va' cap' (zIn S') ∧ Qr r u' S'
/-- a method of the law: from the cells u and the object's state S -/
def lCR (l : Launch) (G : zG) (M : zM) (d mc ms : Nat) (as : List Value) (u : va_W) (S : zS) (Qr : Option Value → va_W → zS → Prop) : Prop :=
  ∀ va cap, zGh G va cap (zIn S) → Met l M.1 [Cond.code M.1 M.2.1 M.2.2.1 M.2.2.2] (zRm d mc ms) (lPc G as (u ++ zWo G va cap S)) (rQc G (lQr G Qr)) mc ms (zA G)
def lOK (X : zX) : Prop := zNcF X.2.2.2.2.1
theorem lCR.of {l : Launch} {as : List Value} {Qr : Option Value → va_W → zS → Prop} (hl : l.stackTraces = false) (hy : plainName M.1.cls = true) (h1 : ∀ v ∈ as, v.category = 1) (hn : as.length ≤ M.2.2.1) {ls : List (Option Value)} (hls : as.map some ++ List.replicate (M.2.2.1 - as.length) none = ls)
    (body : ∀ X, zOK G X M d mc ms → lOK X → rFin G X mc ms (lQr G Qr) → X.2.1 = l → LW G X 0 0 0 ls [] u S) : lCR l G M d mc ms as u S Qr := by
  intro va cap hg
  refine Met.ofW (cc := M.2.1) (maxL := M.2.2.1) (ret := M.2.2.2) hy rfl ?_
  intro p e s m args below meth c s₁ B hml hv
  obtain ⟨⟨rfl, hP, hD, hF⟩, hN⟩ := hv
  obtain ⟨arr, he, hh⟩ := zEntry (φ := zid) (m := m) h1 hn
  rw [zMap_id] at he
  rw [he]
  rw [hls] at hh
  refine body (p, l, e, _, s, m, _, below, meth, c, _) ⟨B.exec, B.bytes, hml, findClass_of_methodNamed B.named, B.notSynchronized, B.returns, hF, rfl, hl⟩ hN rfl rfl va cap hg s.heap [] arr hh ?_ hP hD va_S.rf
  rw [hml, ← hls]; simp; omega
/-- behind a call of a contract over the object alone -/
theorem rl_back {p : Program} {l : Launch} {e : Env} {R : Room} {s : State} {m : MethodId} {args : Array Value} {below : List Frame} {meth : Method} {c : Code} {Q : State → Prop} {H : Heap} {locs : List Loc} {arr : Array Slot} {mc' ms' va cap : Nat} {st0 : List Value} {as : Array Value} {r : Option Value} {S' : zS} (hl : zHas zid arr ls) (hn : ls.length = c.maxLocals) (hP : va_P G.1 vwCl (u ++ zWo G va cap S) H) (hD : va_D (zA G) (u ++ zWo G va cap S)) (hS : va_S (zA G) s.heap H locs)
    (run : va_Run p l e R s m args below meth c H locs a b mc' ms' (F0 m pc arr st0) (st.map (zTr zid)) (zQc (zGn G u) r (zIn S') 0 0 as) (zA (zGn G u))) (k : LW G (p, l, e, R, s, m, args, below, meth, c, Q) (a + mc') (b + ms') (pc + 3) ls ((r.map (zTr G.2.2.1)).toList ++ st) u S') : W p l e R s m args below meth c H locs a b Q (F0 m pc arr st0) := by
  intro T hT X0
  obtain ⟨v, st₀, t, T', L, h0, X', hL, e1, e2, ⟨hv, hR', hF'⟩, hst⟩ := run T hT X0
  have hv : v = r.map (zTr G.2.2.1) := by injection hv
  subst hv
  obtain ⟨g1, g2, g3⟩ := vx_keep (A1 := zA (zGn G u)) (T' := T') h0 e1 hS (fun _ _ h => h.1) (fun _ h => h.1) hL hF'
  obtain ⟨va', cap', hP', hD', hg'⟩ := hR'
  have hPu : va_P G.1 vwCl u H := hP.left
  have hPu' : va_P G.1 vwCl u T'.heap := hPu.kept (fun k q hk => by
    have hq : q ∈ u := List.mem_of_getElem? hk
    exact g2 q.1 (hPu.mem hq).lt (fun h => h.2 q hq rfl))
  have hW : va_P G.1 vwCl (u ++ zWo G va' cap' S') T'.heap := hPu'.app (by rw [e1]; exact hP')
  have hDW : va_D (zA G) (u ++ zWo G va' cap' S') := hD.left.app (hD'.weaken (fun _ _ _ h => h.1)) (fun i j p q hi hj e => (hD'.2 j q hj).2 p (List.mem_of_getElem? hi) e)
  have e3 : (r.map (zTr G.2.2.1)).toList ++ st.map (zTr zid) = ((r.map (zTr G.2.2.1)).toList ++ st).map (zTr zid) := by rw [zMap_id, zMap_id]
  obtain ⟨t2, a1, b1⟩ := k va' cap' hg' T'.heap (locs ++ L) arr hl hn hW hDW g3 T' rfl X'
  refine ⟨t2, hst t2 ?_, b1⟩
  rw [show ({ F0 m pc arr st0 with pc := (F0 m pc arr st0).pc + 3, stack := (r.map (zTr G.2.2.1)).toList ++ st.map (zTr zid) } : JFrame) = F0 m (pc + 3) arr (((r.map (zTr G.2.2.1)).toList ++ st).map (zTr zid)) by rw [← e3]]
  exact a1
/-- what the narrower world gives to a call -/
theorem rl_pre {p : Program} {l : Launch} {e : Env} {R : Room} {s : State} {m : MethodId} {args : Array Value} {below : List Frame} {meth : Method} {c : Code} {Q : State → Prop} {H : Heap} {locs : List Loc} {va cap : Nat} (hF : zFacts G s s.heap) (hP : va_P G.1 vwCl (u ++ zWo G va cap S) H) (hD : va_D (zA G) (u ++ zWo G va cap S)) (hS : va_S (zA G) s.heap H locs) (hg : zGh G va cap (zIn S)) (U : State) (hU : U.heap = H) (hW : s.WarmedH U.vm) : zRep (zGn G u) (zIn S) 0 0 U.heap ∧ zFacts (zGn G u) U U.heap := by
  refine ⟨⟨va, cap, by rw [hU]; exact hP.right, hD.right, hg⟩, ?_⟩
  rw [hU]
  exact (hF.to hW hS).narrow (fun x hx => (hP.left.mem hx).lt)
/-- a method of the object's -/
theorem rl_callV (C : zOK G X M d mc ms) {M' : zM} {d' mc' ms' n va cap idx : Nat} {as : List Value} {r : Option Value} {S' : zS} (hg : zGh G va cap (zIn S)) (hM : zMeV M' n) (hC : M'.1.cls = RX5) (hL : zLk M.1.cls idx M'.1) (hd : decode M.2.1 pc = .ok (.invokevirtual idx, 3)) (hn0 : as.length = n) (hr : (st.map (fun v => v.category)).sum ≤ 8) (h : nCR X.2.1 (zGn G u) M' d' mc' ms' (.ref 0 :: as) S 0 0 r S' 0 0) (hdd : d' + 1 ≤ d) (ha : a + mc' ≤ mc) (hb : b + ms' ≤ ms) (k : LW G X (a + mc') (b + ms') (pc + 3) ls ((r.map (zTr G.2.2.1)).toList ++ st) u S') : RW G X a b pc ls ((as.map (zTr G.2.2.1)).reverse ++ .ref (G.2.2.1 0) :: st) (u ++ zWo G va cap S) := by
  obtain ⟨p, l, e, R, s, m, args, below, meth, c, Q⟩ := X
  intro H locs arr hl hn hP hD hS
  obtain ⟨hx, hbb, hml, hown, hlk, hrt, hF, hRm, hfl⟩ := id C
  have hRm : R = zRm d mc ms := hRm
  subst hRm
  obtain ⟨hMB, hMi, hMs⟩ := hM
  obtain ⟨hw1, hw2, hne, hpar, hmx⟩ := id hMB
  have hT := hF.1
  have hcat : (((st.map (zTr zid))).map fun v => v.category).sum ≤ 8 := by rw [zMap_id]; exact hr
  have hrecv : ∃ cell : Cell, H[G.2.2.1 0]? = some cell ∧ cell.vm.isStatics = false ∧ s.vm.findClass M'.1.cls = some cell.cls := by
    have := zRecv (G := G) (I := zIn S) (J := 0) (E := 0) (s := s) (o := 0) (ci := 9) (C := RX5) hF.2.1 hP.right rfl (by decide) rfl rfl
    rw [hC]; exact this
  have hpre : PreV s H M'.1.cls (G.2.2.1 0) (zPc (zGn G u) (.ref 0 :: as) (zIn S) 0 0) (as.map (zTr G.2.2.1)) :=
    ⟨zBlind, hrecv, fun U hU hW => ⟨rfl, (rl_pre (p := p) (l := l) (e := e) (R := zRm d mc ms) (m := m) (args := args) (below := below) (meth := meth) (c := c) (Q := Q) hF hP hD hS hg U hU hW).1, (rl_pre (p := p) (l := l) (e := e) (R := zRm d mc ms) (m := m) (args := args) (below := below) (meth := meth) (c := c) (Q := Q) hF hP hD hS hg U hU hW).2⟩⟩
  have hroom : (zRm d' mc' ms').frames + 1 ≤ (zRm d mc ms).frames ∧ 8 + (M'.2.2.1 + 11) + (zRm d' mc' ms').locals ≤ (zRm d mc ms).locals := by
    simp only [zRm]; omega
  have hstk : ((as.map (zTr G.2.2.1)).reverse ++ Value.ref (G.2.2.1 0) :: st).map (zTr zid) = (as.map (zTr G.2.2.1)).reverse ++ Value.ref (G.2.2.1 0) :: st.map (zTr zid) := by rw [zMap_id, zMap_id]
  have hCB : ∀ hlink : (Cond.methodLink M.1.cls idx M'.1).before args s = true, CallB (zRm d mc ms) s args M.1.cls idx M'.1 M'.2.1 M'.2.2.1 M'.2.2.2 [Cond.code M'.1 M'.2.1 M'.2.2.1 M'.2.2.2] (zRm d' mc' ms') mc' ms' n := fun hlink =>
    ⟨rfl, rfl, hroom.1, hroom.2, zCode_ws hT hMB, List.mem_singleton.mpr rfl, hT _ hw1 rfl args, hT _ hw2 rfl args, hne, zNpar hpar, hlink⟩
  rw [hstk]
  rcases hL with hL | ⟨host, hL⟩
  · exact rl_back hl hn hP hD hS (va_runV (nL := ls.length) (Ts := []) ⟨hx, hbb, hn.symm, hown, fun w hw => by cases hw⟩ h ⟨hCB (hT _ hL rfl args), hT _ hMi rfl args, hT _ hMs rfl args⟩ hpre rfl (by simp [hn0]) hl.1 rfl (by simpa [JFrame.monitorRoom] using hcat) hd ⟨ha, hb⟩) k
  · exact rl_back hl hn hP hD hS (va_runVN (nL := ls.length) (Ts := []) (host := host) ⟨hx, hbb, hn.symm, hown, fun w hw => by cases hw⟩ h ⟨⟨⟨rfl, rfl, hroom.1, hroom.2, zCode_ws hT hMB, List.mem_singleton.mpr rfl⟩, hT _ hw1 rfl args, hT _ hw2 rfl args, hne, zNpar hpar, hT _ hL rfl args⟩, hT _ hMi rfl args, hT _ hMs rfl args⟩ hpre rfl (by simp [hn0]) hl.1 rfl (by simpa [JFrame.monitorRoom] using hcat) hd ⟨ha, hb⟩) k
/-- a static method of the law's whose contract speaks of the object alone -/
theorem rl_callS (C : zOK G X M d mc ms) {M' : zM} {d' mc' ms' n va cap idx : Nat} {as : List Value} {r : Option Value} {S' : zS} (hg : zGh G va cap (zIn S)) (hM : zMeS M' n) (hL : Cond.methodLink M.1.cls idx M'.1 ∈ lw_tbl) (hd : decode M.2.1 pc = .ok (.invokestatic idx, 3)) (hn0 : as.length = n) (hr : (st.map (fun v => v.category)).sum ≤ 8) (h : nCR X.2.1 (zGn G u) M' d' mc' ms' as S 0 0 r S' 0 0) (hdd : d' + 1 ≤ d) (ha : a + mc' ≤ mc) (hb : b + ms' ≤ ms) (k : LW G X (a + mc') (b + ms') (pc + 3) ls ((r.map (zTr G.2.2.1)).toList ++ st) u S') : RW G X a b pc ls ((as.map (zTr G.2.2.1)).reverse ++ st) (u ++ zWo G va cap S) := by
  obtain ⟨p, l, e, R, s, m, args, below, meth, c, Q⟩ := X
  intro H locs arr hl hn hP hD hS
  obtain ⟨hx, hbb, hml, hown, hlk, hrt, hF, hRm, hfl⟩ := id C
  have hRm : R = zRm d mc ms := hRm
  subst hRm
  obtain ⟨hMB, hMi⟩ := hM
  obtain ⟨hw1, hw2, hne, hpar, hmx⟩ := id hMB
  have hT := hF.1
  have hcat : (((st.map (zTr zid))).map fun v => v.category).sum ≤ 8 := by rw [zMap_id]; exact hr
  have hpre : PreS s H (zPc (zGn G u) as (zIn S) 0 0) (as.map (zTr G.2.2.1)) :=
    ⟨zBlind, fun U hU hW => ⟨rfl, (rl_pre (p := p) (l := l) (e := e) (R := zRm d mc ms) (m := m) (args := args) (below := below) (meth := meth) (c := c) (Q := Q) hF hP hD hS hg U hU hW).1, (rl_pre (p := p) (l := l) (e := e) (R := zRm d mc ms) (m := m) (args := args) (below := below) (meth := meth) (c := c) (Q := Q) hF hP hD hS hg U hU hW).2⟩⟩
  have hroom : (zRm d' mc' ms').frames + 1 ≤ (zRm d mc ms).frames ∧ 8 + (M'.2.2.1 + 11) + (zRm d' mc' ms').locals ≤ (zRm d mc ms).locals := by
    simp only [zRm]; omega
  have hstk : ((as.map (zTr G.2.2.1)).reverse ++ st).map (zTr zid) = (as.map (zTr G.2.2.1)).reverse ++ st.map (zTr zid) := by rw [zMap_id, zMap_id]
  rw [hstk]
  exact rl_back hl hn hP hD hS (va_runS (nL := ls.length) (Ts := []) ⟨hx, hbb, hn.symm, hown, fun w hw => by cases hw⟩ h ⟨⟨rfl, rfl, hroom.1, hroom.2, zCode_ws hT hMB, List.mem_singleton.mpr rfl, hT _ hw1 rfl args, hT _ hw2 rfl args, hne, zNpar hpar, hT _ hL rfl args⟩, hT _ hMi rfl args⟩ hpre rfl (by simp [hn0]) hl.1 rfl (by simpa [JFrame.monitorRoom] using hcat) hd ⟨ha, hb⟩) k
/-- a method of the law's that catches -/
theorem rl_callW (C : zOK G X M d mc ms) (hO : lOK X) {M' : zM} {hh : zHh} {d' mc' ms' n va cap idx : Nat} {as : List Value} {r : Option Value} {S' : zS} (hg : zGh G va cap (zIn S)) (hw1 : Cond.codeWith M'.1 M'.2.1 M'.2.2.1 M'.2.2.2 hh ∈ lw_tbl) (hk1 : zGood (Cond.codeWith M'.1 M'.2.1 M'.2.2.1 M'.2.2.2 hh) = true) (hw2 : Cond.initialized M'.1.cls ∈ lw_tbl) (hne : M'.1.cls ≠ "java/lang/invoke/MethodHandle" ∧ M'.1.cls ≠ "java/lang/invoke/VarHandle") (hpar : (parseMethodDescriptor M'.1.desc).map (fun d => d.parameters.length) = some n) (hmx : M'.2.2.1 ≤ 40) (hst : Cond.static M'.1 ∈ lw_tbl) (hL : Cond.methodLink M.1.cls idx M'.1 ∈ lw_tbl) (hd : decode M.2.1 pc = .ok (.invokestatic idx, 3)) (hn0 : as.length = n) (hr : (st.map (fun v => v.category)).sum ≤ 8) (h : wCR X.2.1 (zGn G u) M' hh d' mc' ms' as S 0 0 r S' 0 0) (hdd : d' + 1 ≤ d) (ha : a + mc' ≤ mc) (hb : b + ms' ≤ ms) (k : LW G X (a + mc') (b + ms') (pc + 3) ls ((r.map (zTr G.2.2.1)).toList ++ st) u S') : RW G X a b pc ls ((as.map (zTr G.2.2.1)).reverse ++ st) (u ++ zWo G va cap S) := by
  obtain ⟨p, l, e, R, s, m, args, below, meth, c, Q⟩ := X
  intro H locs arr hl hn hP hD hS
  obtain ⟨hx, hbb, hml, hown, hlk, hrt, hF, hRm, hfl⟩ := id C
  have hRm : R = zRm d mc ms := hRm
  subst hRm
  have hT := hF.1
  have hNs : zNcF s := hO
  have hcat : (((st.map (zTr zid))).map fun v => v.category).sum ≤ 8 := by rw [zMap_id]; exact hr
  have hpre : PreS s H (wPc (zGn G u) as (zIn S) 0 0) (as.map (zTr G.2.2.1)) :=
    ⟨wBlind, fun U hU hW => ⟨⟨rfl, (rl_pre (p := p) (l := l) (e := e) (R := zRm d mc ms) (m := m) (args := args) (below := below) (meth := meth) (c := c) (Q := Q) hF hP hD hS hg U hU hW).1, (rl_pre (p := p) (l := l) (e := e) (R := zRm d mc ms) (m := m) (args := args) (below := below) (meth := meth) (c := c) (Q := Q) hF hP hD hS hg U hU hW).2⟩, hNs.moved hW⟩⟩
  have hroom : (zRm d' mc' ms').frames + 1 ≤ (zRm d mc ms).frames ∧ 8 + (M'.2.2.1 + 11) + (zRm d' mc' ms').locals ≤ (zRm d mc ms).locals := by
    simp only [zRm]; omega
  have hws : ∀ w ∈ ([Cond.codeWith M'.1 M'.2.1 M'.2.2.1 M'.2.2.2 hh] : List Cond), ∀ (a' : Array Value) (U : State), s.WarmedH U.vm → w.before a' U = true := by
    intro w hw a' U hW
    rw [List.mem_singleton] at hw
    subst hw
    exact (hT.moved hW) _ hw1 hk1 a'
  have hstk : ((as.map (zTr G.2.2.1)).reverse ++ st).map (zTr zid) = (as.map (zTr G.2.2.1)).reverse ++ st.map (zTr zid) := by rw [zMap_id, zMap_id]
  rw [hstk]
  exact rl_back hl hn hP hD hS (vx_runSW (hh := hh) (nL := ls.length) (Ts := []) ⟨hx, hbb, hn.symm, hown, fun w hw => by cases hw⟩ h ⟨⟨rfl, rfl, hroom.1, hroom.2, hws, List.mem_singleton.mpr rfl⟩, hT _ hw1 hk1 args, hT _ hw2 rfl args, hne, zNpar hpar, hT _ hL rfl args, hT _ hst rfl args⟩ hpre rfl (by simp [hn0]) hl.1 rfl (by simpa [JFrame.monitorRoom] using hcat) hd ⟨ha, hb⟩) k
/-- a static method of the law's, over cells and object -/
theorem rl_callL (C : zOK G X M d mc ms) (hO : lOK X) {M' : zM} {d' mc' ms' n va cap idx : Nat} {as : List Value} {Qr : Option Value → va_W → zS → Prop} (hg : zGh G va cap (zIn S)) (hM : zMeS M' n) (hL : Cond.methodLink M.1.cls idx M'.1 ∈ lw_tbl) (hd : decode M.2.1 pc = .ok (.invokestatic idx, 3)) (hn0 : as.length = n) (hr : (st.map (fun v => v.category)).sum ≤ 8) (h : lCR X.2.1 G M' d' mc' ms' as u S Qr) (hdd : d' + 1 ≤ d) (ha : a + mc' ≤ mc) (hb : b + ms' ≤ ms) (k : ∀ r u' S', Qr r u' S' → LW G X (a + mc') (b + ms') (pc + 3) ls (r.toList ++ st) u' S') : RW G X a b pc ls (as.reverse ++ st) (u ++ zWo G va cap S) := by
  obtain ⟨p, l, e, R, s, m, args, below, meth, c, Q⟩ := X
  intro H locs arr hl hn hP hD hS
  obtain ⟨hx, hbb, hml, hown, hlk, hrt, hF, hRm, hfl⟩ := id C
  have hRm : R = zRm d mc ms := hRm
  subst hRm
  obtain ⟨hMB, hMi⟩ := hM
  obtain ⟨hw1, hw2, hne, hpar, hmx⟩ := id hMB
  have hT := hF.1
  have hNs : zNcF s := hO
  have hcat : (((st.map (zTr zid))).map fun v => v.category).sum ≤ 8 := by rw [zMap_id]; exact hr
  have hpre : PreS s H (lPc G as (u ++ zWo G va cap S)) as :=
    ⟨lBlind, fun U hU hW => ⟨⟨rfl, by rw [hU]; exact hP, hD, by rw [hU]; exact hF.to hW hS⟩, hNs.moved hW⟩⟩
  have hroom : (zRm d' mc' ms').frames + 1 ≤ (zRm d mc ms).frames ∧ 8 + (M'.2.2.1 + 11) + (zRm d' mc' ms').locals ≤ (zRm d mc ms).locals := by
    simp only [zRm]; omega
  have hstk : (as.reverse ++ st).map (zTr zid) = as.reverse ++ st.map (zTr zid) := by rw [zMap_id, zMap_id]
  rw [hstk]
  refine rw_back (Qr := lQr G Qr) hl hn hS (va_runS (nL := ls.length) (Ts := []) ⟨hx, hbb, hn.symm, hown, fun w hw => by cases hw⟩ (h va cap hg) ⟨⟨rfl, rfl, hroom.1, hroom.2, zCode_ws hT hMB, List.mem_singleton.mpr rfl, hT _ hw1 rfl args, hT _ hw2 rfl args, hne, zNpar hpar, hT _ hL rfl args⟩, hT _ hMi rfl args⟩ hpre rfl hn0 hl.1 rfl (by simpa [JFrame.monitorRoom] using hcat) hd ⟨ha, hb⟩) (fun r ws' hq => ?_)
  obtain ⟨u', va', cap', S', rfl, hg', hq⟩ := hq
  exact k r u' S' hq va' cap' hg'
/-- the ghost part of the state may be written as one likes -/
theorem zIn_ghost {S S' : zS} (h : ∀ a k, a < 12 ∨ 25 ≤ a → S' a k = S a k) {va cap : Nat} : zWo G va cap S' = zWo G va cap S ∧ (zGh G va cap (zIn S') ↔ zGh G va cap (zIn S)) := by
  have h1 : ∀ a, a < 12 ∨ 25 ≤ a → zIn S' a = zIn S a := fun a ha => by funext k; unfold zIn; rw [h a k ha]
  refine ⟨?_, ?_⟩
  · apply List.map_congr_left
    intro k hk
    obtain ⟨-, h2⟩ := zO_lt (List.mem_range.mp hk)
    rw [zEnt_congr (h1 _ h2)]
  · have : zCap (zIn S') = zCap (zIn S) := by unfold zCap; rw [h1 10 (Or.inl (by decide))]
    unfold zGh
    rw [this]
theorem LW.ghost {S' : zS} (h : ∀ a k, a < 12 ∨ 25 ≤ a → S' a k = S a k) (k : LW G X a b pc ls st u S') : LW G X a b pc ls st u S := by
  intro va cap hg
  obtain ⟨e1, e2⟩ := zIn_ghost (G := G) h (va := va) (cap := cap)
  have := k va cap (e2.mpr hg)
  rw [e1] at this
  exact this
end LW
