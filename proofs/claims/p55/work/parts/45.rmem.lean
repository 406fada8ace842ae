/-! a raw world: its order, what is left out, rows by places, calls -/
section RM
variable {G : zG} {X : zX} {M : zM} {d mc ms a b pc : Nat} {ls : List (Option Value)} {st : List Value} {ws ws' : va_W}
theorem RW.map {ws ws' : va_W} (hP : ∀ H, va_P G.1 vwCl ws H → va_P G.1 vwCl ws' H) (hD : va_D (zA G) ws → va_D (zA G) ws') (k : RW G X a b pc ls st ws') : RW G X a b pc ls st ws := by
  obtain ⟨p, l, e, R, s, m, args, below, meth, c, Q⟩ := X
  intro H locs arr hl hn h1 h2 hS
  exact k H locs arr hl hn (hP H h1) (hD h2) hS
/-- other places, or fewer -/
theorem RW.part {Y cx pl : va_W} (is : List Nat) (hn : va_nd is = true) (hs : is.map (fun i => Y[i]?) = cx.map some) (k : RW G X a b pc ls st (cx ++ pl)) : RW G X a b pc ls st (Y ++ pl) :=
  RW.map (fun _ h => h.part is hs) (fun h => h.part is hn hs) k
/-- what was made last comes first -/
theorem RW.front {q : Nat × va_E} (k : RW G X a b pc ls st (q :: ws)) : RW G X a b pc ls st (ws ++ [q]) :=
  RW.map (ws' := q :: ws) (fun H h => va_P.swap (a := []) (b := ws) (c := [q]) h) (fun h => va_D.swap (a := []) (b := ws) (c := [q]) h) k
theorem RW.wide {a' b' : Nat} (ha : a ≤ a') (hb : b ≤ b') (k : RW G X a' b' pc ls st ws) : RW G X a b pc ls st ws := by
  obtain ⟨p, l, e, R, s, m, args, below, meth, c, Q⟩ := X
  intro H locs arr hl hn h1 h2 hS
  exact W.widen ha hb (k H locs arr hl hn h1 h2 hS)
/-- a field read -/
theorem rp_get (C : zOK G X M d mc ms) {k q ci j idx : Nat} {fs : List Value} {v : Value} (hF : zFld M.1.cls idx ci j) (he : ws[k]? = some (q, .inr (ci, fs))) (hv : fs[j]? = some v) (hd : decode M.2.1 pc = .ok (.getfield idx, 3)) (kk : RW G X a b (pc + 3) ls (v :: st) ws) : RW G X a b pc ls (.ref q :: st) ws := by
  obtain ⟨p, l, e, R, s, m, args, below, meth, c, Q⟩ := X
  intro H locs arr hl hn hP hD hS
  obtain ⟨hx, hb, hml, hown, hlk, hrt, ⟨hT, hK, -⟩, -⟩ := id C
  obtain ⟨⟨hc, hN, hws, -⟩, hj, hlink⟩ := hF
  have hj2 : j < (zCls ci).2.2 := hN ▸ hj
  have hin : ∀ w ∈ u_ws (zCls ci).1 (zCls ci).2.1 (zCls ci).2.2, w ∈ u_ws (zCls ci).1 (zCls ci).2.1 (zCls ci).2.2 := fun w h => h
  have hts : ∀ w ∈ u_ws (zCls ci).1 (zCls ci).2.1 (zCls ci).2.2, w.before args s = true := fun w h => hT w (hws w h).1 (hws w h).2 args
  have k2 := kk H locs arr hl hn hP hD hS
  rw [List.map_cons, zTr_id] at k2
  rcases hlink with h | ⟨host, h⟩
  · exact va_get hx hb hts hin hown hK hP k he hc j hj2 (hT _ h rfl args) (fun _ h => h) hv hd k2
  · exact va_getN hx hb hts hin hown hK hP k he hc j hj2 (hT _ h rfl args) (fun _ h => h) hv hd k2
/-- a field written -/
theorem rp_put (C : zOK G X M d mc ms) {k q ci j idx : Nat} {fs : List Value} {v : Value} {ty : FieldType} (hF : zFld M.1.cls idx ci j) (he : ws[k]? = some (q, .inr (ci, fs))) (ht : zTy ci j = ty) (hfin : ((zCls ci).2.1 j).2.2.2 = false) (hn0 : narrow ty v = v) (hft : fits ty v = true) (hl0 : j < fs.length) (hw : ws.set k (q, .inr (ci, fs.set j v)) = ws') (hd : decode M.2.1 pc = .ok (.putfield idx, 3)) (kk : RW G X a b (pc + 3) ls st ws') : RW G X a b pc ls (v :: .ref q :: st) ws := by
  subst hw
  obtain ⟨p, l, e, R, s, m, args, below, meth, c, Q⟩ := X
  intro H locs arr hl hn hP hD hS
  obtain ⟨hx, hb, hml, hown, hlk, hrt, ⟨hT, hK, -⟩, -⟩ := id C
  obtain ⟨⟨hc, hN, hws, hty, hnm⟩, hj, hlink⟩ := hF
  have hj2 : j < (zCls ci).2.2 := hN ▸ hj
  have hin : ∀ w ∈ u_ws (zCls ci).1 (zCls ci).2.1 (zCls ci).2.2, w ∈ u_ws (zCls ci).1 (zCls ci).2.1 (zCls ci).2.2 := fun w h => h
  have hts : ∀ w ∈ u_ws (zCls ci).1 (zCls ci).2.1 (zCls ci).2.2, w.before args s = true := fun w h => hT w (hws w h).1 (hws w h).2 args
  have k2 : ∀ (H1 : Heap) (locs1 : List Loc), va_P G.1 vwCl (ws.set k (q, .inr (ci, fs.set j v))) H1 → va_D (zA G) (ws.set k (q, .inr (ci, fs.set j v))) → va_S (zA G) s.heap H1 locs1 → W p l e R s m args below meth c H1 locs1 a b Q (F0 m (pc + 3) arr (st.map (zTr zid))) := fun H1 locs1 hP1 hD1 hS1 => kk H1 locs1 arr hl hn hP1 hD1 hS1
  rw [List.map_cons, zTr_id, List.map_cons, zTr_id]
  rcases hlink with h | ⟨host, h⟩
  · exact va_put hx hb hts hin (zTy ci) hty hnm hown hK hP hD hS k he hc j hj2 (hT _ h rfl args) (fun _ h => h) hfin (ht ▸ hty j hj2) hn0 hft hl0 hd k2
  · exact va_putN hx hb hts hin (zTy ci) hty hnm hown hK hP hD hS k he hc j hj2 (hT _ h rfl args) (fun _ h => h) hfin (ht ▸ hty j hj2) hn0 hft hl0 hd k2
/-- a final field written, in the constructor of its class -/
theorem rp_putF (C : zOK G X M d mc ms) (hname : ∀ n, n = X.2.2.2.2.2.2.2.2.1.name → n = "<init>") {k q ci j idx : Nat} {fs : List Value} {v : Value} {ty : FieldType} (hck : zCk ci) (hj : j < (zCls ci).2.2) (hlink : Cond.fieldLink M.1.cls idx ((zCls ci).2.1 j).1 ((zCls ci).2.1 j).2.1 ((zCls ci).2.1 j).2.2.1 ∈ lw_tbl) (he : ws[k]? = some (q, .inr (ci, fs))) (ht : zTy ci j = ty) (hfin : ((zCls ci).2.1 j).2.2.2 = true) (hdecl : ((zCls ci).2.1 j).1 = M.1.cls) (hn0 : narrow ty v = v) (hft : fits ty v = true) (hl0 : j < fs.length) (hw : ws.set k (q, .inr (ci, fs.set j v)) = ws') (hd : decode M.2.1 pc = .ok (.putfield idx, 3)) (kk : RW G X a b (pc + 3) ls st ws') : RW G X a b pc ls (v :: .ref q :: st) ws := by
  subst hw
  obtain ⟨p, l, e, R, s, m, args, below, meth, c, Q⟩ := X
  intro H locs arr hl hn hP hD hS
  obtain ⟨hx, hb, hml, hown, hlk, hrt, ⟨hT, hK, -⟩, -⟩ := id C
  obtain ⟨hc, hN, hws, hty, hnm⟩ := hck
  have hin : ∀ w ∈ u_ws (zCls ci).1 (zCls ci).2.1 (zCls ci).2.2, w ∈ u_ws (zCls ci).1 (zCls ci).2.1 (zCls ci).2.2 := fun w h => h
  have hts : ∀ w ∈ u_ws (zCls ci).1 (zCls ci).2.1 (zCls ci).2.2, w.before args s = true := fun w h => hT w (hws w h).1 (hws w h).2 args
  have k2 : ∀ (H1 : Heap) (locs1 : List Loc), va_P G.1 vwCl (ws.set k (q, .inr (ci, fs.set j v))) H1 → va_D (zA G) (ws.set k (q, .inr (ci, fs.set j v))) → va_S (zA G) s.heap H1 locs1 → W p l e R s m args below meth c H1 locs1 a b Q (F0 m (pc + 3) arr (st.map (zTr zid))) := fun H1 locs1 hP1 hD1 hS1 => kk H1 locs1 arr hl hn hP1 hD1 hS1
  rw [List.map_cons, zTr_id, List.map_cons, zTr_id]
  exact va_putF hx hb hts hin (zTy ci) hty hnm hown hK hP hD hS k he hc j hj (hT _ hlink rfl args) (fun _ h => h) hfin (hname _ rfl) hdecl (ht ▸ hty j hj) hn0 hft hl0 hd k2
/-- arrays -/
theorem rp_iald (C : zOK G X M d mc ms) {k q n i : Nat} {f : Nat → Int32} (he : ws[k]? = some (q, .inl (G.2.1 1, n, .inl f))) (hi : i < n) (hn30 : n < 2 ^ 30) (hd : decode M.2.1 pc = .ok (.iaload, 1)) (kk : RW G X a b (pc + 1) ls (.int (f i) :: st) ws) : RW G X a b pc ls (zi i :: .ref q :: st) ws := by
  obtain ⟨p, l, e, R, s, m, args, below, meth, c, Q⟩ := X
  intro H locs arr hl hn hP hD hS
  obtain ⟨hx, hb, hml, hown, hlk, hrt, ⟨hT, hK, -⟩, -⟩ := id C
  have k2 := kk H locs arr hl hn hP hD hS
  refine va_iald hx hb hK hP k 0 he (zTys_get (by decide)) (zInp hi (by omega)) hd ?_
  rw [nI_clamp (by omega)]
  exact k2
theorem rp_iast (C : zOK G X M d mc ms) {k q n i : Nat} {x : Int32} {f : Nat → Int32} (he : ws[k]? = some (q, .inl (G.2.1 1, n, .inl f))) (hi : i < n) (hn30 : n < 2 ^ 30) (hw : ws.set k (q, .inl (G.2.1 1, n, .inl (upd f i x))) = ws') (hd : decode M.2.1 pc = .ok (.iastore, 1)) (kk : RW G X a b (pc + 1) ls st ws') : RW G X a b pc ls (.int x :: zi i :: .ref q :: st) ws := by
  subst hw
  obtain ⟨p, l, e, R, s, m, args, below, meth, c, Q⟩ := X
  intro H locs arr hl hn hP hD hS
  obtain ⟨hx, hb, hml, hown, hlk, hrt, ⟨hT, hK, -⟩, -⟩ := id C
  refine va_iast hx hb hK hP hD hS k 0 he (zTys_get (by decide)) (zInp hi (by omega)) hd (fun H1 locs1 hP1 hD1 hS1 => ?_)
  rw [nI_clamp (by omega)] at hP1 hD1
  exact kk H1 locs1 arr hl hn hP1 hD1 hS1
theorem rp_bald (C : zOK G X M d mc ms) {k q n i : Nat} {f : Nat → Int32} (he : ws[k]? = some (q, .inl (G.2.1 3, n, .inl f))) (hi : i < n) (hn30 : n < 2 ^ 30) (hd : decode M.2.1 pc = .ok (.baload, 1)) (kk : RW G X a b (pc + 1) ls (.int (f i) :: st) ws) : RW G X a b pc ls (zi i :: .ref q :: st) ws := by
  obtain ⟨p, l, e, R, s, m, args, below, meth, c, Q⟩ := X
  intro H locs arr hl hn hP hD hS
  obtain ⟨hx, hb, hml, hown, hlk, hrt, ⟨hT, hK, -⟩, -⟩ := id C
  have k2 := kk H locs arr hl hn hP hD hS
  refine va_bald hx hb hK hP k 2 he (zTys_get (by decide)) (zInp hi (by omega)) hd ?_
  rw [nI_clamp (by omega)]
  exact k2
theorem rp_bast (C : zOK G X M d mc ms) {k q n i : Nat} {x : Int32} {f : Nat → Int32} (he : ws[k]? = some (q, .inl (G.2.1 3, n, .inl f))) (hi : i < n) (hn30 : n < 2 ^ 30) (hw : ws.set k (q, .inl (G.2.1 3, n, .inl (upd f i (vp_nar .byte x)))) = ws') (hd : decode M.2.1 pc = .ok (.bastore, 1)) (kk : RW G X a b (pc + 1) ls st ws') : RW G X a b pc ls (.int x :: zi i :: .ref q :: st) ws := by
  subst hw
  obtain ⟨p, l, e, R, s, m, args, below, meth, c, Q⟩ := X
  intro H locs arr hl hn hP hD hS
  obtain ⟨hx, hb, hml, hown, hlk, hrt, ⟨hT, hK, -⟩, -⟩ := id C
  refine va_bast hx hb hK hP hD hS k 2 he (zTys_get (by decide)) (zInp hi (by omega)) hd (fun H1 locs1 hP1 hD1 hS1 => ?_)
  rw [nI_clamp (by omega)] at hP1 hD1
  exact kk H1 locs1 arr hl hn hP1 hD1 hS1
/-- an int returned -/
theorem rw_iret (C : zOK G X M d mc ms) {Qr : Option Value → va_W → Prop} {v : Int32} {ty : FieldType} (hr : M.2.2.2 = some ty) (hn0 : narrow ty (.int v) = .int v) (hF : rFin G X mc ms Qr) (hd : decode M.2.1 pc = .ok (.ireturn, 1)) (ha : a ≤ mc) (hb : b ≤ ms) (hq : Qr (some (.int v)) ws) : RW G X a b pc ls [.int v] ws := by
  obtain ⟨p, l, e, R, s, m, args, below, meth, c, Q⟩ := X
  intro H locs arr hl hn hP hD hS
  have hQ : Q = MQ below (rQc G Qr) args s mc ms (zA G) := hF
  subst hQ
  refine W.widen ha hb ?_
  exact W.zret C.1 C.2.1 (C.2.2.2.2.2.1.trans hr) hn0 (fun t ht hw => ⟨some (.int v), ws, rfl, hq, by rw [ht]; exact hP, hD, hS.F ht⟩) (fun q hq => hS.2.2 q hq) hd C.2.2.2.2.1
/-! calls over a raw world -/
theorem rw_back {p : Program} {l : Launch} {e : Env} {R : Room} {s : State} {m : MethodId} {args : Array Value} {below : List Frame} {meth : Method} {c : Code} {Q : State → Prop} {H : Heap} {locs : List Loc} {arr : Array Slot} {mc' ms' : Nat} {st0 : List Value} {as : Array Value} {Qr : Option Value → va_W → Prop} (hl : zHas zid arr ls) (hn : ls.length = c.maxLocals) (hS : va_S (zA G) s.heap H locs)
    (run : va_Run p l e R s m args below meth c H locs a b mc' ms' (F0 m pc arr st0) (st.map (zTr zid)) (rQc G Qr as) (zA G)) (k : ∀ r ws', Qr r ws' → RW G (p, l, e, R, s, m, args, below, meth, c, Q) (a + mc') (b + ms') (pc + 3) ls (r.toList ++ st) ws') : W p l e R s m args below meth c H locs a b Q (F0 m pc arr st0) := by
  intro T hT X0
  obtain ⟨v, st₀, t, T', L, h0, X', hL, e1, e2, ⟨r, ws', hv, hq, hP', hD', hF'⟩, hst⟩ := run T hT X0
  have hv : v = r := by injection hv
  subst hv
  obtain ⟨g1, g2, g3⟩ := vx_keep (A1 := zA G) (T' := T') h0 e1 hS (fun _ _ h => h) (fun _ h => h) hL hF'
  have e3 : v.toList ++ st.map (zTr zid) = (v.toList ++ st).map (zTr zid) := by rw [zMap_id, zMap_id]
  obtain ⟨t2, a1, b1⟩ := k v ws' hq T'.heap (locs ++ L) arr hl hn (by rw [e1]; exact hP') hD' g3 T' rfl X'
  refine ⟨t2, hst t2 ?_, b1⟩
  rw [show ({ F0 m pc arr st0 with pc := (F0 m pc arr st0).pc + 3, stack := v.toList ++ st.map (zTr zid) } : JFrame) = F0 m (pc + 3) arr ((v.toList ++ st).map (zTr zid)) by rw [← e3]]
  exact a1
theorem rw_callS (C : zOK G X M d mc ms) {M' : zM} {d' mc' ms' n idx : Nat} {as : List Value} {Qr : Option Value → va_W → Prop} (hM : zMeS M' n) (hL : zLk M.1.cls idx M'.1) (hd : decode M.2.1 pc = .ok (.invokestatic idx, 3)) (hn0 : as.length = n) (hr : (st.map (fun v => v.category)).sum ≤ 8) (h : rCR X.2.1 G M' d' mc' ms' as ws Qr) (hdd : d' + 1 ≤ d) (ha : a + mc' ≤ mc) (hb : b + ms' ≤ ms) (k : ∀ r ws', Qr r ws' → RW G X (a + mc') (b + ms') (pc + 3) ls (r.toList ++ st) ws') : RW G X a b pc ls (as.reverse ++ st) ws := by
  obtain ⟨p, l, e, R, s, m, args, below, meth, c, Q⟩ := X
  intro H locs arr hl hn hP hD hS
  obtain ⟨hx, hbb, hml, hown, hlk, hrt, hF, hRm, hfl⟩ := id C
  have hRm : R = zRm d mc ms := hRm
  subst hRm
  obtain ⟨hMB, hMi⟩ := hM
  obtain ⟨hw1, hw2, hne, hpar, hmx⟩ := id hMB
  have hT := hF.1
  have hcat : (((st.map (zTr zid))).map fun v => v.category).sum ≤ 8 := by rw [zMap_id]; exact hr
  have hpre : PreS s H (rPc G as ws) as :=
    ⟨rBlind, fun U hU hW => ⟨rfl, by rw [hU]; exact hP, hD, by rw [hU]; exact hF.to hW hS⟩⟩
  have hroom : (zRm d' mc' ms').frames + 1 ≤ (zRm d mc ms).frames ∧ 8 + (M'.2.2.1 + 11) + (zRm d' mc' ms').locals ≤ (zRm d mc ms).locals := by
    simp only [zRm]; omega
  have hstk : (as.reverse ++ st).map (zTr zid) = as.reverse ++ st.map (zTr zid) := by rw [zMap_id, zMap_id]
  have hCB : ∀ hlink : (Cond.methodLink M.1.cls idx M'.1).before args s = true, CallB (zRm d mc ms) s args M.1.cls idx M'.1 M'.2.1 M'.2.2.1 M'.2.2.2 [Cond.code M'.1 M'.2.1 M'.2.2.1 M'.2.2.2] (zRm d' mc' ms') mc' ms' n := fun hlink =>
    ⟨rfl, rfl, hroom.1, hroom.2, zCode_ws hT hMB, List.mem_singleton.mpr rfl, hT _ hw1 rfl args, hT _ hw2 rfl args, hne, zNpar hpar, hlink⟩
  rw [hstk]
  rcases hL with hL | ⟨host, hL⟩
  · exact rw_back hl hn hS (va_runS (nL := ls.length) (Ts := []) ⟨hx, hbb, hn.symm, hown, fun w hw => by cases hw⟩ h ⟨hCB (hT _ hL rfl args), hT _ hMi rfl args⟩ hpre rfl hn0 hl.1 rfl (by simpa [JFrame.monitorRoom] using hcat) hd ⟨ha, hb⟩) k
  · exact rw_back hl hn hS (va_runSN (nL := ls.length) (Ts := []) (host := host) ⟨hx, hbb, hn.symm, hown, fun w hw => by cases hw⟩ h ⟨⟨⟨rfl, rfl, hroom.1, hroom.2, zCode_ws hT hMB, List.mem_singleton.mpr rfl⟩, hT _ hw1 rfl args, hT _ hw2 rfl args, hne, zNpar hpar, hT _ hL rfl args⟩, hT _ hMi rfl args, trivial⟩ hpre rfl hn0 hl.1 rfl (by simpa [JFrame.monitorRoom] using hcat) hd ⟨ha, hb⟩) k
/-- an instance method of the receiver's own class: the receiver is known by what the caller gives of it -/
theorem rw_callVg (C : zOK G X M d mc ms) {M' : zM} {d' mc' ms' n q idx : Nat} {as : List Value} {Qr : Option Value → va_W → Prop} (hM : zMeV M' n) (hL : zLk M.1.cls idx M'.1) (hrc : ∀ (s : State) (H : Heap) (locs : List Loc), s = X.2.2.2.2.1 → va_P G.1 vwCl ws H → va_S (zA G) s.heap H locs → ∃ cell : Cell, H[q]? = some cell ∧ cell.vm.isStatics = false ∧ s.vm.findClass M'.1.cls = some cell.cls) (hd : decode M.2.1 pc = .ok (.invokevirtual idx, 3)) (hn0 : as.length = n) (hr : (st.map (fun v => v.category)).sum ≤ 8) (h : rCR X.2.1 G M' d' mc' ms' (.ref q :: as) ws Qr) (hdd : d' + 1 ≤ d) (ha : a + mc' ≤ mc) (hb : b + ms' ≤ ms) (k : ∀ r ws', Qr r ws' → RW G X (a + mc') (b + ms') (pc + 3) ls (r.toList ++ st) ws') : RW G X a b pc ls (as.reverse ++ .ref q :: st) ws := by
  obtain ⟨p, l, e, R, s, m, args, below, meth, c, Q⟩ := X
  intro H locs arr hl hn hP hD hS
  have hrecv := hrc s H locs rfl hP hS
  obtain ⟨hx, hbb, hml, hown, hlk, hrt, hF, hRm, hfl⟩ := id C
  have hRm : R = zRm d mc ms := hRm
  subst hRm
  obtain ⟨hMB, hMi, hMs⟩ := hM
  obtain ⟨hw1, hw2, hne, hpar, hmx⟩ := id hMB
  have hT := hF.1
  have hcat : (((st.map (zTr zid))).map fun v => v.category).sum ≤ 8 := by rw [zMap_id]; exact hr
  have hpre : PreV s H M'.1.cls q (rPc G (.ref q :: as) ws) as :=
    ⟨rBlind, hrecv, fun U hU hW => ⟨rfl, by rw [hU]; exact hP, hD, by rw [hU]; exact hF.to hW hS⟩⟩
  have hroom : (zRm d' mc' ms').frames + 1 ≤ (zRm d mc ms).frames ∧ 8 + (M'.2.2.1 + 11) + (zRm d' mc' ms').locals ≤ (zRm d mc ms).locals := by
    simp only [zRm]; omega
  have hstk : (as.reverse ++ Value.ref q :: st).map (zTr zid) = as.reverse ++ Value.ref q :: st.map (zTr zid) := by rw [zMap_id, zMap_id]
  have hCB : ∀ hlink : (Cond.methodLink M.1.cls idx M'.1).before args s = true, CallB (zRm d mc ms) s args M.1.cls idx M'.1 M'.2.1 M'.2.2.1 M'.2.2.2 [Cond.code M'.1 M'.2.1 M'.2.2.1 M'.2.2.2] (zRm d' mc' ms') mc' ms' n := fun hlink =>
    ⟨rfl, rfl, hroom.1, hroom.2, zCode_ws hT hMB, List.mem_singleton.mpr rfl, hT _ hw1 rfl args, hT _ hw2 rfl args, hne, zNpar hpar, hlink⟩
  rw [hstk]
  rcases hL with hL | ⟨host, hL⟩
  · exact rw_back hl hn hS (va_runV (nL := ls.length) (Ts := []) ⟨hx, hbb, hn.symm, hown, fun w hw => by cases hw⟩ h ⟨hCB (hT _ hL rfl args), hT _ hMi rfl args, hT _ hMs rfl args⟩ hpre rfl hn0 hl.1 rfl (by simpa [JFrame.monitorRoom] using hcat) hd ⟨ha, hb⟩) k
  · exact rw_back hl hn hS (va_runVN (nL := ls.length) (Ts := []) (host := host) ⟨hx, hbb, hn.symm, hown, fun w hw => by cases hw⟩ h ⟨⟨⟨rfl, rfl, hroom.1, hroom.2, zCode_ws hT hMB, List.mem_singleton.mpr rfl⟩, hT _ hw1 rfl args, hT _ hw2 rfl args, hne, zNpar hpar, hT _ hL rfl args⟩, hT _ hMi rfl args, hT _ hMs rfl args⟩ hpre rfl hn0 hl.1 rfl (by simpa [JFrame.monitorRoom] using hcat) hd ⟨ha, hb⟩) k
theorem rw_callV (C : zOK G X M d mc ms) {M' : zM} {d' mc' ms' n q ci k0 idx : Nat} {fs : List Value} {as : List Value} {Qr : Option Value → va_W → Prop} (hM : zMeV M' n) (hL : zLk M.1.cls idx M'.1) (he : ws[k0]? = some (q, .inr (ci, fs))) (hc : vwCl[ci]? = some (zCls ci)) (hC : (zCls ci).1 = M'.1.cls) (hd : decode M.2.1 pc = .ok (.invokevirtual idx, 3)) (hn0 : as.length = n) (hr : (st.map (fun v => v.category)).sum ≤ 8) (h : rCR X.2.1 G M' d' mc' ms' (.ref q :: as) ws Qr) (hdd : d' + 1 ≤ d) (ha : a + mc' ≤ mc) (hb : b + ms' ≤ ms) (k : ∀ r ws', Qr r ws' → RW G X (a + mc') (b + ms') (pc + 3) ls (r.toList ++ st) ws') : RW G X a b pc ls (as.reverse ++ .ref q :: st) ws :=
  rw_callVg C hM hL (fun s H locs hs hP hS => by
    subst hs
    rw [← hC]
    exact va_recv C.2.2.2.2.2.2.1.2.1 hP hc he) hd hn0 hr h hdd ha hb k
/-- a private method of StringBuilder's superclass -/
theorem rw_callP (C : zOK G X M d mc ms) {M' : zM} {d' mc' ms' n q k0 idx : Nat} {fs : List Value} {as : List Value} {Qr : Option Value → va_W → Prop} (hM : zMeP M' n) (hL : Cond.methodLink M.1.cls idx M'.1 ∈ lw_tbl) (he : ws[k0]? = some (q, .inr (1, fs))) (hd : decode M.2.1 pc = .ok (.invokevirtual idx, 3)) (hn0 : as.length = n) (hr : (st.map (fun v => v.category)).sum ≤ 8) (h : rCR X.2.1 G M' d' mc' ms' (.ref q :: as) ws Qr) (hdd : d' + 1 ≤ d) (ha : a + mc' ≤ mc) (hb : b + ms' ≤ ms) (k : ∀ r ws', Qr r ws' → RW G X (a + mc') (b + ms') (pc + 3) ls (r.toList ++ st) ws') : RW G X a b pc ls (as.reverse ++ .ref q :: st) ws := by
  obtain ⟨p, l, e, R, s, m, args, below, meth, c, Q⟩ := X
  intro H locs arr hl hn hP hD hS
  obtain ⟨hx, hbb, hml, hown, hlk, hrt, hF, hRm, hfl⟩ := id C
  have hRm : R = zRm d mc ms := hRm
  subst hRm
  obtain ⟨hMB, hMi, hMp, hMc⟩ := hM
  obtain ⟨hw1, hw2, hne, hpar, hmx⟩ := id hMB
  have hT := hF.1
  have hcat : (((st.map (zTr zid))).map fun v => v.category).sum ≤ 8 := by rw [zMap_id]; exact hr
  have hrecv : ∃ cell : Cell, H[q]? = some cell ∧ cell.vm.isStatics = false ∧ s.vm.findClass "java/lang/StringBuilder" = some cell.cls := va_recv (q := zCls 1) hF.2.1 hP rfl he
  have hpre : PreV s H "java/lang/StringBuilder" q (rPc G (.ref q :: as) ws) as :=
    ⟨rBlind, hrecv, fun U hU hW => ⟨rfl, by rw [hU]; exact hP, hD, by rw [hU]; exact hF.to hW hS⟩⟩
  have hroom : (zRm d' mc' ms').frames + 1 ≤ (zRm d mc ms).frames ∧ 8 + (M'.2.2.1 + 11) + (zRm d' mc' ms').locals ≤ (zRm d mc ms).locals := by
    simp only [zRm]; omega
  have hstk : (as.reverse ++ Value.ref q :: st).map (zTr zid) = as.reverse ++ Value.ref q :: st.map (zTr zid) := by rw [zMap_id, zMap_id]
  obtain ⟨hsel, hpv⟩ := zSelP (args := args) hT hMc hMi hMp
  rw [hstk]
  exact rw_back hl hn hS (zRun_priv (nL := ls.length) (Ts := []) ⟨hx, hbb, hn.symm, hown, fun w hw => by cases hw⟩ h ⟨rfl, rfl, hroom.1, hroom.2, zCode_ws hT hMB, List.mem_singleton.mpr rfl, hT _ hw1 rfl args, hT _ hw2 rfl args, hne, zNpar hpar, hT _ hL rfl args⟩ (hT _ hMi rfl args) hsel hpv hpre rfl hn0 hl.1 rfl (by simpa [JFrame.monitorRoom] using hcat) hd ⟨ha, hb⟩) k
/-- a method of the superclass, by super -/
theorem rw_callSup (C : zOK G X M d mc ms) (hown0 : M.1.cls = "java/lang/StringBuilder") {M' : zM} {d' mc' ms' n q k0 idx : Nat} {fs : List Value} {as : List Value} {Qr : Option Value → va_W → Prop} (hM : zMeU M' n) (hL : Cond.methodLink M.1.cls idx M'.1 ∈ lw_tbl) (he : ws[k0]? = some (q, .inr (1, fs))) (hd : decode M.2.1 pc = .ok (.invokespecial idx, 3)) (hn0 : as.length = n) (hr : (st.map (fun v => v.category)).sum ≤ 8) (h : rCR X.2.1 G M' d' mc' ms' (.ref q :: as) ws Qr) (hdd : d' + 1 ≤ d) (ha : a + mc' ≤ mc) (hb : b + ms' ≤ ms) (k : ∀ r ws', Qr r ws' → RW G X (a + mc') (b + ms') (pc + 3) ls (r.toList ++ st) ws') : RW G X a b pc ls (as.reverse ++ .ref q :: st) ws := by
  obtain ⟨p, l, e, R, s, m, args, below, meth, c, Q⟩ := X
  intro H locs arr hl hn hP hD hS
  obtain ⟨hx, hbb, hml, hown, hlk, hrt, hF, hRm, hfl⟩ := id C
  have hRm : R = zRm d mc ms := hRm
  subst hRm
  obtain ⟨hMB, hMi, hMs, hMc, hMn⟩ := hM
  obtain ⟨hw1, hw2, hne, hpar, hmx⟩ := id hMB
  have hT := hF.1
  have hcat : (((st.map (zTr zid))).map fun v => v.category).sum ≤ 8 := by rw [zMap_id]; exact hr
  have hrecv : ∃ cell : Cell, H[q]? = some cell ∧ cell.vm.isStatics = false ∧ s.vm.findClass "java/lang/StringBuilder" = some cell.cls := va_recv (q := zCls 1) hF.2.1 hP rfl he
  have hpre : PreV s H "java/lang/StringBuilder" q (rPc G (.ref q :: as) ws) as :=
    ⟨rBlind, hrecv, fun U hU hW => ⟨rfl, by rw [hU]; exact hP, hD, by rw [hU]; exact hF.to hW hS⟩⟩
  have hroom : (zRm d' mc' ms').frames + 1 ≤ (zRm d mc ms).frames ∧ 8 + (M'.2.2.1 + 11) + (zRm d' mc' ms').locals ≤ (zRm d mc ms).locals := by
    simp only [zRm]; omega
  have hstk : (as.reverse ++ Value.ref q :: st).map (zTr zid) = as.reverse ++ Value.ref q :: st.map (zTr zid) := by rw [zMap_id, zMap_id]
  have hat : ClassAt s "java/lang/StringBuilder" (G.1.1 1) := (hF.2.1.1 1 (zCls 1) rfl).2
  have hsup : (Cond.superclass M.1.cls M'.1.cls).before args s = true := by rw [hown0, hMc]; exact hT _ wSbSup rfl args
  rw [hstk]
  exact rw_back hl hn hS (va_runSU (nL := ls.length) (Ts := []) hat ⟨hx, hbb, hn.symm, hown, fun w hw => by cases hw⟩ h ⟨⟨rfl, rfl, hroom.1, hroom.2, zCode_ws hT hMB, List.mem_singleton.mpr rfl⟩, hT _ hL rfl args, hT _ hMs rfl args, hsup, hT _ hMi rfl args, hT _ hw2 rfl args, hT _ hw1 rfl args, hMn, zNpar hpar⟩ hpre rfl hn0 hl.1 rfl (by simpa [JFrame.monitorRoom] using hcat) hd ⟨ha, hb⟩) k
/-- an inherited method, found in the superclass -/
theorem rw_callU (C : zOK G X M d mc ms) {M' : zM} {d' mc' ms' n q k0 idx : Nat} {fs : List Value} {as : List Value} {Qr : Option Value → va_W → Prop} (hM : zMeU M' n) (hSel : Cond.selects "java/lang/StringBuilder" M'.1 M'.1 ∈ lw_tbl) (hL : Cond.methodLink M.1.cls idx M'.1 ∈ lw_tbl) (he : ws[k0]? = some (q, .inr (1, fs))) (hd : decode M.2.1 pc = .ok (.invokevirtual idx, 3)) (hn0 : as.length = n) (hr : (st.map (fun v => v.category)).sum ≤ 8) (h : rCR X.2.1 G M' d' mc' ms' (.ref q :: as) ws Qr) (hdd : d' + 1 ≤ d) (ha : a + mc' ≤ mc) (hb : b + ms' ≤ ms) (k : ∀ r ws', Qr r ws' → RW G X (a + mc') (b + ms') (pc + 3) ls (r.toList ++ st) ws') : RW G X a b pc ls (as.reverse ++ .ref q :: st) ws := by
  obtain ⟨p, l, e, R, s, m, args, below, meth, c, Q⟩ := X
  intro H locs arr hl hn hP hD hS
  obtain ⟨hx, hbb, hml, hown, hlk, hrt, hF, hRm, hfl⟩ := id C
  have hRm : R = zRm d mc ms := hRm
  subst hRm
  obtain ⟨hMB, hMi, hMs, hMc, hMn⟩ := hM
  obtain ⟨hw1, hw2, hne, hpar, hmx⟩ := id hMB
  have hT := hF.1
  have hcat : (((st.map (zTr zid))).map fun v => v.category).sum ≤ 8 := by rw [zMap_id]; exact hr
  have hrecv : ∃ cell : Cell, H[q]? = some cell ∧ cell.vm.isStatics = false ∧ s.vm.findClass "java/lang/StringBuilder" = some cell.cls := va_recv (q := zCls 1) hF.2.1 hP rfl he
  have hpre : PreV s H "java/lang/StringBuilder" q (rPc G (.ref q :: as) ws) as :=
    ⟨rBlind, hrecv, fun U hU hW => ⟨rfl, by rw [hU]; exact hP, hD, by rw [hU]; exact hF.to hW hS⟩⟩
  have hroom : (zRm d' mc' ms').frames + 1 ≤ (zRm d mc ms).frames ∧ 8 + (M'.2.2.1 + 11) + (zRm d' mc' ms').locals ≤ (zRm d mc ms).locals := by
    simp only [zRm]; omega
  have hstk : (as.reverse ++ Value.ref q :: st).map (zTr zid) = as.reverse ++ Value.ref q :: st.map (zTr zid) := by rw [zMap_id, zMap_id]
  rw [hstk]
  exact rw_back hl hn hS (va_runU (nL := ls.length) (Ts := []) (owner := M'.1.cls) ⟨hx, hbb, hn.symm, hown, fun w hw => by cases hw⟩ h ⟨⟨rfl, rfl, hroom.1, hroom.2, zCode_ws hT hMB, List.mem_singleton.mpr rfl⟩, hT _ hw1 rfl args, hT _ hw2 rfl args, hne, zNpar hpar, hT _ hL rfl args, hT _ hMs rfl args, va_Decl.of (hT _ hMi rfl args) (hT _ hw1 rfl args), hT _ hSel rfl args, hT _ hMi rfl args⟩ hpre rfl hn0 hl.1 rfl (by simpa [JFrame.monitorRoom] using hcat) hd ⟨ha, hb⟩) k
end RM
