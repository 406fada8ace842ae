/-! constructors: rows over a raw world -/
def cAO (U : State) : Prop := va_AO "RumourHives$Rumour" U ∧ va_AO "RumourHives$Scene" U
theorem cAO.moved {s U : State} (hW : s.WarmedH U.vm) (h : cAO s) : cAO U := ⟨h.1.moved hW.alike, h.2.moved hW.alike⟩
def bPc (G : zG) (as : List Value) (ws : va_W) : Array Value → State → Prop := fun v U => (v = as.toArray ∧ va_P G.1 vwCl ws U.heap ∧ va_D (zA G) ws ∧ zFacts G U U.heap) ∧ cAO U
theorem bBlind {G : zG} {as : List Value} {ws : va_W} : FrameBlind (bPc G as ws) := by
  intro a U g mk ⟨⟨h1, h2, h3, h4⟩, h5⟩
  exact ⟨⟨h1, h2, h3, h4.to (State.WarmedH.refl U) va_S.rf⟩, h5.moved (State.WarmedH.refl U)⟩
/-- a constructor: from the world ws to one of Qw -/
def bCR (l : Launch) (G : zG) (M : zM) (d mc ms : Nat) (as : List Value) (ws : va_W) (Qw : va_W → Prop) : Prop :=
  Met l M.1 [Cond.code M.1 M.2.1 M.2.2.1 M.2.2.2] (zRm d mc ms) (bPc G as ws) (rQc G (fun r ws' => r = none ∧ Qw ws')) mc ms (zA G)
def bOK (X : zX) : Prop := match X with
  | (_, _, _, _, s, _, _, _, meth, _, _) => meth.name = "<init>" ∧ cAO s
theorem bCR.of {l : Launch} {G : zG} {M : zM} {d mc ms : Nat} {as : List Value} {ws : va_W} {Qw : va_W → Prop} (hl : l.stackTraces = false) (hy : plainName M.1.cls = true) (hnm : M.1.name = "<init>") (h1 : as.all (fun v => v.category == 1) = true) (hn : as.length ≤ M.2.2.1) {ls : List (Option Value)} (hls : as.map some ++ List.replicate (M.2.2.1 - as.length) none = ls)
    (body : ∀ X, zOK G X M d mc ms → bOK X → rFin G X mc ms (fun r ws' => r = none ∧ Qw ws') → X.2.1 = l → RW G X 0 0 0 ls [] ws) : bCR l G M d mc ms as ws Qw := by
  have h1' : ∀ v ∈ as, v.category = 1 := fun v hv => by simpa using List.all_eq_true.mp h1 v hv
  refine Met.ofW (cc := M.2.1) (maxL := M.2.2.1) (ret := M.2.2.2) hy rfl ?_
  intro p e s m args below meth c s₁ B hml hv
  obtain ⟨⟨rfl, hP, hD, hF⟩, hA⟩ := hv
  obtain ⟨arr, he, hh⟩ := zEntry (φ := zid) (m := m) h1' hn
  rw [zMap_id] at he
  rw [he]
  rw [hls] at hh
  refine body (p, l, e, _, s, m, _, below, meth, c, _) ⟨B.exec, B.bytes, hml, findClass_of_methodNamed B.named, B.notSynchronized, B.returns, hF, rfl, hl⟩ ⟨(name_of_methodNamed B.named B.method).1.trans hnm, hA⟩ rfl rfl s.heap [] arr hh ?_ hP hD va_S.rf
  rw [hml, ← hls]; simp; omega
theorem rGet {α : Type} {u v : List α} {x : α} : (u ++ x :: v)[u.length]? = some x := by simp
theorem rSet {α : Type} {u v : List α} {x y : α} : (u ++ x :: v).set u.length y = u ++ y :: v := by simp
theorem wArI : Cond.arrayClass .int ∈ lw_tbl := List.mem_of_getElem? (i := 95) (by decide +kernel)
theorem wArC : Cond.arrayClass .char ∈ lw_tbl := List.mem_of_getElem? (i := 233) (by decide +kernel)
theorem wArL : Cond.arrayClass .long ∈ lw_tbl := List.mem_of_getElem? (i := 1934) (by decide +kernel)
theorem wArD : Cond.arrayClass .double ∈ lw_tbl := List.mem_of_getElem? (i := 1935) (by decide +kernel)
theorem wOb1 : Cond.instanceMethod Lib.objectInit ∈ lw_tbl := List.mem_of_getElem? (i := 60) (by decide +kernel)
theorem wOb2 : Cond.code Lib.objectInit ⟨#[0xb1]⟩ 1 none ∈ lw_tbl := List.mem_of_getElem? (i := 61) (by decide +kernel)
section RB
variable {G : zG} {X : zX} {M : zM} {d mc ms a b pc : Nat} {ls : List (Option Value)} {st : List Value} {ws : va_W}
theorem rw_objInit (C : zOK G X M d mc ms) {idx q : Nat} (hL : Cond.methodLink M.1.cls idx Lib.objectInit ∈ lw_tbl) (hr : (st.map (fun v => v.category)).sum ≤ 8) (hd : decode M.2.1 pc = .ok (.invokespecial idx, 3)) (k : RW G X a b (pc + 3) ls st ws) : RW G X a b pc ls (.ref q :: st) ws := by
  obtain ⟨p, l, e, R, s, m, args, below, meth, c, Q⟩ := X
  intro H locs arr hl hn hP hD hS
  obtain ⟨hx, hb, hml, hown, hlk, hrt, ⟨hT, hK, -⟩, hRm, -⟩ := id C
  have hRm : R = zRm d mc ms := hRm
  subst hRm
  have hcat : (((st.map (zTr zid))).map fun v => v.category).sum ≤ 8 := by rw [zMap_id]; exact hr
  refine W.objInit hx hb hown (hT _ hL rfl args) (hT _ wOb1 rfl args) (hT _ wOb2 rfl args) rfl (hl.1.trans hn) rfl hd (by simp only [zRm]; omega) ?_ (k H locs arr hl hn hP hD hS)
  have h9 : 2 * (F0 m pc arr (Value.ref q :: st.map (zTr zid))).monitorRoom + ((st.map (zTr zid)).map fun v => v.category).sum ≤ 8 := by simpa [JFrame.monitorRoom] using hcat
  refine Nat.le_trans (Nat.add_le_add_right h9 12) ?_
  simp only [zRm]; omega
theorem rw_new (C : zOK G X M d mc ms) {ci idx : Nat} (fs : List Value) (hck : zCk ci) (hcl : Cond.classLink M.1.cls idx (zCls ci).1 ∈ lw_tbl) (hin : Cond.instantiable (zCls ci).1 (zCls ci).2.2 ∈ lw_tbl) (hini : Cond.initialized (zCls ci).1 ∈ lw_tbl) {N : Nat} (hN : (zCls ci).2.2 = N) (hfs : ∀ j, j < N → defaultValue (zTy ci j) = vp_V fs j) (ha : a + 1 ≤ mc) (hb0 : b + N ≤ ms) (hd : decode M.2.1 pc = .ok (.new idx, 3)) (k : ∀ q, RW G X (a + 1) (b + N) (pc + 3) ls (.ref q :: st) (ws ++ [(q, .inr (ci, fs))])) : RW G X a b pc ls st ws := by
  subst hN
  obtain ⟨p, l, e, R, s, m, args, below, meth, c, Q⟩ := X
  intro H locs arr hl hn hP hD hS
  obtain ⟨hx, hb, hml, hown, hlk, hrt, ⟨hT, hK, -, -, -, hbase, -⟩, hRm, -⟩ := id C
  have hRm : R = zRm d mc ms := hRm
  subst hRm
  obtain ⟨hc, hNf, hws, hty, hnm⟩ := hck
  have hts : ∀ w ∈ u_ws (zCls ci).1 (zCls ci).2.1 (zCls ci).2.2, w.before args s = true := fun w h => hT w (hws w h).1 (hws w h).2 args
  exact va_new hx hb hts (fun w h => h) (zTy ci) hty hown (hT _ hcl rfl args) (hT _ hin rfl args) (hT _ hini rfl args) hK hP hD hS hbase hc hfs ha hb0 hd (fun q H1 hP1 hD1 hS1 => k q H1 locs arr hl hn hP1 hD1 hS1)
theorem rw_putI (C : zOK G X M d mc ms) {u v : va_W} {q ci j idx : Nat} {fs : List Value} {x : Int32} {ty : FieldType} (hF : zFld M.1.cls idx ci j) (ht : zTy ci j = ty) (hfin : ((zCls ci).2.1 j).2.2.2 = false) (hn0 : narrow ty (.int x) = .int x) (hft : fits ty (.int x) = true) (hl0 : j < fs.length) (hd : decode M.2.1 pc = .ok (.putfield idx, 3)) (k : RW G X a b (pc + 3) ls st (u ++ (q, .inr (ci, fs.set j (.int x))) :: v)) : RW G X a b pc ls (.int x :: .ref q :: st) (u ++ (q, .inr (ci, fs)) :: v) := by
  obtain ⟨p, l, e, R, s, m, args, below, meth, c, Q⟩ := X
  intro H locs arr hl hn hP hD hS
  obtain ⟨hx, hb, hml, hown, hlk, hrt, ⟨hT, hK, -⟩, -⟩ := id C
  obtain ⟨⟨hc, hN, hws, hty, hnm⟩, hj, hlink⟩ := hF
  have hj2 : j < (zCls ci).2.2 := hN ▸ hj
  have hin : ∀ w ∈ u_ws (zCls ci).1 (zCls ci).2.1 (zCls ci).2.2, w ∈ u_ws (zCls ci).1 (zCls ci).2.1 (zCls ci).2.2 := fun w h => h
  have hts : ∀ w ∈ u_ws (zCls ci).1 (zCls ci).2.1 (zCls ci).2.2, w.before args s = true := fun w h => hT w (hws w h).1 (hws w h).2 args
  have kk : ∀ (H1 : Heap) (locs1 : List Loc), va_P G.1 vwCl ((u ++ (q, .inr (ci, fs)) :: v).set u.length (q, .inr (ci, fs.set j (.int x)))) H1 → va_D (zA G) ((u ++ (q, .inr (ci, fs)) :: v).set u.length (q, .inr (ci, fs.set j (.int x)))) → va_S (zA G) s.heap H1 locs1 → W p l e R s m args below meth c H1 locs1 a b Q (F0 m (pc + 3) arr (st.map (zTr zid))) := by
    intro H1 locs1 hP1 hD1 hS1
    rw [rSet] at hP1 hD1
    exact k H1 locs1 arr hl hn hP1 hD1 hS1
  rcases hlink with h | ⟨host, h⟩
  · exact va_put hx hb hts hin (zTy ci) hty hnm hown hK hP hD hS u.length rGet hc j hj2 (hT _ h rfl args) (fun _ h => h) hfin (ht ▸ hty j hj2) hn0 hft hl0 hd kk
  · exact va_putN hx hb hts hin (zTy ci) hty hnm hown hK hP hD hS u.length rGet hc j hj2 (hT _ h rfl args) (fun _ h => h) hfin (ht ▸ hty j hj2) hn0 hft hl0 hd kk
/-- a field that holds a reference: final, or not -/
theorem rw_putR (C : zOK G X M d mc ms) (Bk : bOK X) {u v : va_W} {q ci j idx r : Nat} {fs : List Value} {ty : FieldType} (hck : zCk ci) (hj : j < (zCls ci).2.2) (hlink : Cond.fieldLink M.1.cls idx ((zCls ci).2.1 j).1 ((zCls ci).2.1 j).2.1 ((zCls ci).2.1 j).2.2.1 ∈ lw_tbl) (ht : zTy ci j = ty) (hfin : ((zCls ci).2.1 j).2.2.2 = true) (hdecl : ((zCls ci).2.1 j).1 = M.1.cls) (hn0 : narrow ty (.ref r) = .ref r) (hft : fits ty (.ref r) = true) (hl0 : j < fs.length) (hd : decode M.2.1 pc = .ok (.putfield idx, 3)) (k : RW G X a b (pc + 3) ls st (u ++ (q, .inr (ci, fs.set j (.ref r))) :: v)) : RW G X a b pc ls (.ref r :: .ref q :: st) (u ++ (q, .inr (ci, fs)) :: v) := by
  obtain ⟨p, l, e, R, s, m, args, below, meth, c, Q⟩ := X
  intro H locs arr hl hn hP hD hS
  obtain ⟨hx, hb, hml, hown, hlk, hrt, ⟨hT, hK, -⟩, -⟩ := id C
  obtain ⟨hc, hN, hws, hty, hnm⟩ := hck
  have hin : ∀ w ∈ u_ws (zCls ci).1 (zCls ci).2.1 (zCls ci).2.2, w ∈ u_ws (zCls ci).1 (zCls ci).2.1 (zCls ci).2.2 := fun w h => h
  have hts : ∀ w ∈ u_ws (zCls ci).1 (zCls ci).2.1 (zCls ci).2.2, w.before args s = true := fun w h => hT w (hws w h).1 (hws w h).2 args
  have kk : ∀ (H1 : Heap) (locs1 : List Loc), va_P G.1 vwCl ((u ++ (q, .inr (ci, fs)) :: v).set u.length (q, .inr (ci, fs.set j (.ref r)))) H1 → va_D (zA G) ((u ++ (q, .inr (ci, fs)) :: v).set u.length (q, .inr (ci, fs.set j (.ref r)))) → va_S (zA G) s.heap H1 locs1 → W p l e R s m args below meth c H1 locs1 a b Q (F0 m (pc + 3) arr (st.map (zTr zid))) := by
    intro H1 locs1 hP1 hD1 hS1
    rw [rSet] at hP1 hD1
    exact k H1 locs1 arr hl hn hP1 hD1 hS1
  exact va_putF hx hb hts hin (zTy ci) hty hnm hown hK hP hD hS u.length rGet hc j hj (hT _ hlink rfl args) (fun _ h => h) hfin Bk.1 hdecl (ht ▸ hty j hj) hn0 hft hl0 hd kk
theorem rw_putRn (C : zOK G X M d mc ms) {u v : va_W} {q ci j idx r : Nat} {fs : List Value} {ty : FieldType} (hF : zFld M.1.cls idx ci j) (ht : zTy ci j = ty) (hfin : ((zCls ci).2.1 j).2.2.2 = false) (hn0 : narrow ty (.ref r) = .ref r) (hft : fits ty (.ref r) = true) (hl0 : j < fs.length) (hd : decode M.2.1 pc = .ok (.putfield idx, 3)) (k : RW G X a b (pc + 3) ls st (u ++ (q, .inr (ci, fs.set j (.ref r))) :: v)) : RW G X a b pc ls (.ref r :: .ref q :: st) (u ++ (q, .inr (ci, fs)) :: v) := by
  obtain ⟨p, l, e, R, s, m, args, below, meth, c, Q⟩ := X
  intro H locs arr hl hn hP hD hS
  obtain ⟨hx, hb, hml, hown, hlk, hrt, ⟨hT, hK, -⟩, -⟩ := id C
  obtain ⟨⟨hc, hN, hws, hty, hnm⟩, hj, hlink⟩ := hF
  have hj2 : j < (zCls ci).2.2 := hN ▸ hj
  have hin : ∀ w ∈ u_ws (zCls ci).1 (zCls ci).2.1 (zCls ci).2.2, w ∈ u_ws (zCls ci).1 (zCls ci).2.1 (zCls ci).2.2 := fun w h => h
  have hts : ∀ w ∈ u_ws (zCls ci).1 (zCls ci).2.1 (zCls ci).2.2, w.before args s = true := fun w h => hT w (hws w h).1 (hws w h).2 args
  have kk : ∀ (H1 : Heap) (locs1 : List Loc), va_P G.1 vwCl ((u ++ (q, .inr (ci, fs)) :: v).set u.length (q, .inr (ci, fs.set j (.ref r)))) H1 → va_D (zA G) ((u ++ (q, .inr (ci, fs)) :: v).set u.length (q, .inr (ci, fs.set j (.ref r)))) → va_S (zA G) s.heap H1 locs1 → W p l e R s m args below meth c H1 locs1 a b Q (F0 m (pc + 3) arr (st.map (zTr zid))) := by
    intro H1 locs1 hP1 hD1 hS1
    rw [rSet] at hP1 hD1
    exact k H1 locs1 arr hl hn hP1 hD1 hS1
  rcases hlink with h | ⟨host, h⟩
  · exact va_put hx hb hts hin (zTy ci) hty hnm hown hK hP hD hS u.length rGet hc j hj2 (hT _ h rfl args) (fun _ h => h) hfin (ht ▸ hty j hj2) hn0 hft hl0 hd kk
  · exact va_putN hx hb hts hin (zTy ci) hty hnm hown hK hP hD hS u.length rGet hc j hj2 (hT _ h rfl args) (fun _ h => h) hfin (ht ▸ hty j hj2) hn0 hft hl0 hd kk
/-- a field of the object that holds a reference, read -/
theorem rw_getR (C : zOK G X M d mc ms) {u v : va_W} {q ci j idx r : Nat} {fs : List Value} (hF : zFld M.1.cls idx ci j) (hv : fs[j]? = some (.ref r)) (hd : decode M.2.1 pc = .ok (.getfield idx, 3)) (k : RW G X a b (pc + 3) ls (.ref r :: st) (u ++ (q, .inr (ci, fs)) :: v)) : RW G X a b pc ls (.ref q :: st) (u ++ (q, .inr (ci, fs)) :: v) := by
  obtain ⟨p, l, e, R, s, m, args, below, meth, c, Q⟩ := X
  intro H locs arr hl hn hP hD hS
  obtain ⟨hx, hb, hml, hown, hlk, hrt, ⟨hT, hK, -⟩, -⟩ := id C
  obtain ⟨⟨hc, hN, hws, -⟩, hj, hlink⟩ := hF
  have hj2 : j < (zCls ci).2.2 := hN ▸ hj
  have hin : ∀ w ∈ u_ws (zCls ci).1 (zCls ci).2.1 (zCls ci).2.2, w ∈ u_ws (zCls ci).1 (zCls ci).2.1 (zCls ci).2.2 := fun w h => h
  have hts : ∀ w ∈ u_ws (zCls ci).1 (zCls ci).2.1 (zCls ci).2.2, w.before args s = true := fun w h => hT w (hws w h).1 (hws w h).2 args
  have kk := k H locs arr hl hn hP hD hS
  rcases hlink with h | ⟨host, h⟩
  · exact va_get hx hb hts hin hown hK hP u.length rGet hc j hj2 (hT _ h rfl args) (fun _ h => h) hv hd kk
  · exact va_getN hx hb hts hin hown hK hP u.length rGet hc j hj2 (hT _ h rfl args) (fun _ h => h) hv hd kk
theorem rw_newi (C : zOK G X M d mc ms) {n : Nat} (hn30 : n < 2 ^ 20) (ha : a + 1 ≤ mc) (hb0 : b + n ≤ ms) (hd : decode M.2.1 pc = .ok (.newarray .int, 2)) (k : ∀ q, RW G X (a + 1) (b + n) (pc + 2) ls (.ref q :: st) (ws ++ [(q, .inl (G.2.1 1, n, .inl (fun _ => 0)))])) : RW G X a b pc ls (zi n :: st) ws := by
  obtain ⟨p, l, e, R, s, m, args, below, meth, c, Q⟩ := X
  intro H locs arr hl hn hP hD hS
  obtain ⟨hx, hb, hml, hown, hlk, hrt, ⟨hT, hK, -, -, -, hbase, -⟩, hRm, -⟩ := id C
  have hRm : R = zRm d mc ms := hRm
  subst hRm
  refine va_newa hx hb (atype := .int) (hT _ wArI rfl args) rfl hK hP hD hS hbase (n := nI n) (N' := n) (a0 := (n, .inl (fun _ => 0))) (fun cA => rfl) (nI_pos (by omega)) (nI_clamp (by omega)) (show n * 4 ≤ 536870912 by omega) ha hb0 hd (fun q cA H1 hK1 hP1 hD1 hS1 => ?_)
  have h1 := (hK1.2 7 (cA, .int) rfl).2
  have h2 := (hK.2 0 (G.2.1 1, .int) rfl).2
  have e1 : cA = G.2.1 1 := Option.some.inj (h1.symm.trans h2)
  subst e1
  exact k q H1 locs arr hl hn hP1 hD1 hS1
theorem rw_newc (C : zOK G X M d mc ms) {n : Nat} (hn30 : n < 2 ^ 20) (ha : a + 1 ≤ mc) (hb0 : b + n ≤ ms) (hd : decode M.2.1 pc = .ok (.newarray .char, 2)) (k : ∀ q, RW G X (a + 1) (b + n) (pc + 2) ls (.ref q :: st) (ws ++ [(q, .inl (G.2.1 2, n, .inl (fun _ => 0)))])) : RW G X a b pc ls (zi n :: st) ws := by
  obtain ⟨p, l, e, R, s, m, args, below, meth, c, Q⟩ := X
  intro H locs arr hl hn hP hD hS
  obtain ⟨hx, hb, hml, hown, hlk, hrt, ⟨hT, hK, -, -, -, hbase, -⟩, hRm, -⟩ := id C
  have hRm : R = zRm d mc ms := hRm
  subst hRm
  refine va_newa hx hb (atype := .char) (hT _ wArC rfl args) rfl hK hP hD hS hbase (n := nI n) (N' := n) (a0 := (n, .inl (fun _ => 0))) (fun cA => rfl) (nI_pos (by omega)) (nI_clamp (by omega)) (show n * 2 ≤ 536870912 by omega) ha hb0 hd (fun q cA H1 hK1 hP1 hD1 hS1 => ?_)
  have h1 := (hK1.2 7 (cA, .char) rfl).2
  have h2 := (hK.2 1 (G.2.1 2, .char) rfl).2
  have e1 : cA = G.2.1 2 := Option.some.inj (h1.symm.trans h2)
  subst e1
  exact k q H1 locs arr hl hn hP1 hD1 hS1
theorem rw_newl (C : zOK G X M d mc ms) {n : Nat} (hn30 : n < 2 ^ 20) (ha : a + 1 ≤ mc) (hb0 : b + n ≤ ms) (hd : decode M.2.1 pc = .ok (.newarray .long, 2)) (k : ∀ q, RW G X (a + 1) (b + n) (pc + 2) ls (.ref q :: st) (ws ++ [(q, .inl (G.2.1 6, n, .inr (.inl (fun _ => 0))))])) : RW G X a b pc ls (zi n :: st) ws := by
  obtain ⟨p, l, e, R, s, m, args, below, meth, c, Q⟩ := X
  intro H locs arr hl hn hP hD hS
  obtain ⟨hx, hb, hml, hown, hlk, hrt, ⟨hT, hK, -, -, -, hbase, -⟩, hRm, -⟩ := id C
  have hRm : R = zRm d mc ms := hRm
  subst hRm
  refine va_newa hx hb (atype := .long) (hT _ wArL rfl args) rfl hK hP hD hS hbase (n := nI n) (N' := n) (a0 := (n, .inr (.inl (fun _ => 0)))) (fun cA => rfl) (nI_pos (by omega)) (nI_clamp (by omega)) (show n * 8 ≤ 536870912 by omega) ha hb0 hd (fun q cA H1 hK1 hP1 hD1 hS1 => ?_)
  have h1 := (hK1.2 7 (cA, .long) rfl).2
  have h2 := (hK.2 5 (G.2.1 6, .long) rfl).2
  have e1 : cA = G.2.1 6 := Option.some.inj (h1.symm.trans h2)
  subst e1
  exact k q H1 locs arr hl hn hP1 hD1 hS1
theorem rw_newd (C : zOK G X M d mc ms) {n : Nat} (hn30 : n < 2 ^ 20) (ha : a + 1 ≤ mc) (hb0 : b + n ≤ ms) (hd : decode M.2.1 pc = .ok (.newarray .double, 2)) (k : ∀ q, RW G X (a + 1) (b + n) (pc + 2) ls (.ref q :: st) (ws ++ [(q, .inl (G.2.1 7, n, .inr (.inr (.inr (.inl (fun _ => 0))))))])) : RW G X a b pc ls (zi n :: st) ws := by
  obtain ⟨p, l, e, R, s, m, args, below, meth, c, Q⟩ := X
  intro H locs arr hl hn hP hD hS
  obtain ⟨hx, hb, hml, hown, hlk, hrt, ⟨hT, hK, -, -, -, hbase, -⟩, hRm, -⟩ := id C
  have hRm : R = zRm d mc ms := hRm
  subst hRm
  refine va_newa hx hb (atype := .double) (hT _ wArD rfl args) rfl hK hP hD hS hbase (n := nI n) (N' := n) (a0 := (n, .inr (.inr (.inr (.inl (fun _ => 0)))))) (fun cA => rfl) (nI_pos (by omega)) (nI_clamp (by omega)) (show n * 8 ≤ 536870912 by omega) ha hb0 hd (fun q cA H1 hK1 hP1 hD1 hS1 => ?_)
  have h1 := (hK1.2 7 (cA, .double) rfl).2
  have h2 := (hK.2 6 (G.2.1 7, .double) rfl).2
  have e1 : cA = G.2.1 7 := Option.some.inj (h1.symm.trans h2)
  subst e1
  exact k q H1 locs arr hl hn hP1 hD1 hS1
/-- a new array of references: t 3 Rumour, 4 Scene -/
theorem rw_newq (C : zOK G X M d mc ms) {n idx t : Nat} {K : String} (hA0 : ∀ s, s = X.2.2.2.2.1 → va_AO K s) (hcl : Cond.classLink M.1.cls idx K ∈ lw_tbl) (ht : (t = 3 ∧ K = "RumourHives$Rumour") ∨ (t = 4 ∧ K = "RumourHives$Scene")) (hn30 : n < 2 ^ 20) (ha : a + 1 ≤ mc) (hb0 : b + n ≤ ms) (hd : decode M.2.1 pc = .ok (.anewarray idx, 3)) (k : ∀ q, RW G X (a + 1) (b + n) (pc + 3) ls (.ref q :: st) (ws ++ [(q, .inl (G.2.1 (t + 1), n, .inr (.inr (.inr (.inr (fun _ => none))))))])) : RW G X a b pc ls (zi n :: st) ws := by
  obtain ⟨p, l, e, R, s, m, args, below, meth, c, Q⟩ := X
  intro H locs arr hl hn hP hD hS
  obtain ⟨hx, hb, hml, hown, hlk, hrt, ⟨hT, hK, -, -, -, hbase, -⟩, hRm, -⟩ := id C
  have hRm : R = zRm d mc ms := hRm
  subst hRm
  refine va_newq hx hb hown (hT _ hcl rfl args) (hA0 s rfl) hK hP hD hS hbase (n := nI n) (N' := n) (nI_pos (by omega)) (nI_clamp (by omega)) (show n * 4 ≤ 536870912 by omega) ha hb0 hd (fun q cA H1 hK1 hP1 hD1 hS1 => ?_)
  have e1 : cA = G.2.1 (t + 1) := by
    rcases ht with ⟨rfl, rfl⟩ | ⟨rfl, rfl⟩
    · obtain ⟨kA, comp, -, -, -, h1⟩ := (hK1.2 7 (cA, .object "RumourHives$Rumour") rfl).2
      obtain ⟨kA2, comp2, -, -, -, h2⟩ := (hK.2 3 (G.2.1 4, .object "RumourHives$Rumour") rfl).2
      exact Option.some.inj (h1.symm.trans h2)
    · obtain ⟨kA, comp, -, -, -, h1⟩ := (hK1.2 7 (cA, .object "RumourHives$Scene") rfl).2
      obtain ⟨kA2, comp2, -, -, -, h2⟩ := (hK.2 4 (G.2.1 5, .object "RumourHives$Scene") rfl).2
      exact Option.some.inj (h1.symm.trans h2)
  subst e1
  exact k q H1 locs arr hl hn hP1 hD1 hS1
/-- a store into an array of ints -/
theorem rw_iast (C : zOK G X M d mc ms) {u v : va_W} {q n i x : Nat} {f : Nat → Int32} (hi : i < n) (hn30 : n < 2 ^ 20) (hd : decode M.2.1 pc = .ok (.iastore, 1)) (k : RW G X a b (pc + 1) ls st (u ++ (q, .inl (G.2.1 1, n, .inl (upd f i (nI x)))) :: v)) : RW G X a b pc ls (zi x :: zi i :: .ref q :: st) (u ++ (q, .inl (G.2.1 1, n, .inl f)) :: v) := by
  obtain ⟨p, l, e, R, s, m, args, below, meth, c, Q⟩ := X
  intro H locs arr hl hn hP hD hS
  obtain ⟨hx, hb, hml, hown, hlk, hrt, ⟨hT, hK, -⟩, -⟩ := id C
  refine va_iast hx hb hK hP hD hS u.length 0 rGet (zTys_get (by decide)) (zInp hi (by omega)) hd (fun H1 locs1 hP1 hD1 hS1 => ?_)
  rw [rSet, nI_clamp (by omega)] at hP1 hD1
  exact k H1 locs1 arr hl hn hP1 hD1 hS1
/-- a store into an array of references: the object's own place in the world is qk -/
theorem rw_aast (C : zOK G X M d mc ms) {u v : va_W} {q n i r t qk ci : Nat} {vs : List Value} {f : Nat → Option Nat} (hi : i < n) (hn30 : n < 2 ^ 20) (ht : (t = 3 ∧ ci = 6) ∨ (t = 4 ∧ ci = 7)) (hck : zCk ci) (hk : (u ++ (q, .inl (G.2.1 (t + 1), n, .inr (.inr (.inr (.inr f))))) :: v)[qk]? = some (r, .inr (ci, vs))) (hd : decode M.2.1 pc = .ok (.aastore, 1)) (k : RW G X a b (pc + 1) ls st (u ++ (q, .inl (G.2.1 (t + 1), n, .inr (.inr (.inr (.inr (va_up f i (some r))))))) :: v)) : RW G X a b pc ls (.ref r :: zi i :: .ref q :: st) (u ++ (q, .inl (G.2.1 (t + 1), n, .inr (.inr (.inr (.inr f))))) :: v) := by
  obtain ⟨p, l, e, R, s, m, args, below, meth, c, Q⟩ := X
  intro H locs arr hl hn hP hD hS
  obtain ⟨hx, hb, hml, hown, hlk, hrt, ⟨hT, hK, -⟩, -⟩ := id C
  have hty : (zTys G.2.1)[t]? = some (G.2.1 (t + 1), .object (zCls ci).1) := by
    rcases ht with ⟨rfl, rfl⟩ | ⟨rfl, rfl⟩ <;> rfl
  refine va_astq hx hb hK hP hD hS u.length t qk ci rGet hty hk hck.1 (zInp hi (by omega)) hd (fun H1 locs1 hP1 hD1 hS1 => ?_)
  rw [rSet, nI_clamp (by omega)] at hP1 hD1
  exact k H1 locs1 arr hl hn hP1 hD1 hS1
theorem rw_getCS (C : zOK G X M d mc ms) {idx : Nat} (hw : Cond.fieldLink M.1.cls idx "java/lang/String" "COMPACT_STRINGS" "Z" ∈ lw_tbl) (hd : decode M.2.1 pc = .ok (.getstatic idx, 3)) (kk : RW G X a b (pc + 3) ls (zi 1 :: st) ws) : RW G X a b pc ls st ws := by
  obtain ⟨p, l, e, R, s, m, args, below, meth, c, Q⟩ := X
  intro H locs arr hl hn hP hD hS
  obtain ⟨hx, hb, hml, hown, hlk, hrt, ⟨hT, hK, -, -, -, -, hfr⟩, -⟩ := id C
  exact va_gets hx hb hfr.2.2.1 hS hown (hT _ hw rfl args) (fun _ h => h) hd (kk H locs arr hl hn hP hD hS)
/-- a call of a constructor -/
theorem rw_callI (C : zOK G X M d mc ms) (hAO : ∀ s, s = X.2.2.2.2.1 → cAO s) {M' : zM} {d' mc' ms' n idx q : Nat} {as : List Value} {Qw : va_W → Prop} (hM : zMeB M' n ∧ Cond.instanceMethod M'.1 ∈ lw_tbl) (hret : M'.2.2.2 = none) (hnm : M'.1.name = "<init>") (hL : zLk M.1.cls idx M'.1) (hd : decode M.2.1 pc = .ok (.invokespecial idx, 3)) (hn0 : as.length = n) (hr : (st.map (fun v => v.category)).sum ≤ 8) (h : bCR X.2.1 G M' d' mc' ms' (.ref q :: as) ws Qw) (hdd : d' + 1 ≤ d) (ha : a + mc' ≤ mc) (hb : b + ms' ≤ ms) (k : ∀ ws', Qw ws' → RW G X (a + mc') (b + ms') (pc + 3) ls st ws') : RW G X a b pc ls (as.reverse ++ .ref q :: st) ws := by
  obtain ⟨p, l, e, R, s, m, args, below, meth, c, Q⟩ := X
  obtain ⟨y', cc', ml', rt'⟩ := M'
  have hret : rt' = none := hret
  subst hret
  intro H locs arr hl hn hP hD hS
  obtain ⟨hx, hbb, hml, hown, hlk, hrt, hF, hRm, hfl⟩ := id C
  have hRm : R = zRm d mc ms := hRm
  subst hRm
  obtain ⟨hMB, hMi⟩ := hM
  obtain ⟨hw1, hw2, hne, hpar, hmx⟩ := id hMB
  have hT := hF.1
  have hA0 : cAO s := hAO s rfl
  have hcat : (((st.map (zTr zid))).map fun v => v.category).sum ≤ 8 := by rw [zMap_id]; exact hr
  have hpre : PreS s H (bPc G (.ref q :: as) ws) (.ref q :: as) :=
    ⟨bBlind, fun U hU hW => ⟨⟨rfl, by rw [hU]; exact hP, hD, by rw [hU]; exact hF.to hW hS⟩, hA0.moved hW⟩⟩
  have hroom : (zRm d' mc' ms').frames + 1 ≤ (zRm d mc ms).frames ∧ 8 + (ml' + 11) + (zRm d' mc' ms').locals ≤ (zRm d mc ms).locals := by
    have hmx : ml' ≤ 40 := hmx
    simp only [zRm]; omega
  have hstk : (as.reverse ++ Value.ref q :: st).map (zTr zid) = as.reverse ++ Value.ref q :: st.map (zTr zid) := by rw [zMap_id, zMap_id]
  rw [hstk]
  have go : ∀ run : va_Run p l e (zRm d mc ms) s m args below meth c H locs a b mc' ms' (F0 m pc arr (as.reverse ++ Value.ref q :: st.map (zTr zid))) (st.map (zTr zid)) (rQc G (fun r ws' => r = none ∧ Qw ws') (Value.ref q :: as).toArray) (zA G), W p l e (zRm d mc ms) s m args below meth c H locs a b Q (F0 m pc arr (as.reverse ++ Value.ref q :: st.map (zTr zid))) := by
    intro run T hT0 X0
    obtain ⟨v, st₀, t, T', L, h0, X', hL, e1, e2, ⟨r, ws', hv, ⟨hr0, hq⟩, hP', hD', hF'⟩, hst⟩ := run T hT0 X0
    have hv : v = r := by injection hv
    subst hv
    subst hr0
    obtain ⟨g1, g2, g3⟩ := vx_keep (A1 := zA G) (T' := T') h0 e1 hS (fun _ _ h => h) (fun _ h => h) hL hF'
    obtain ⟨t2, a1, b1⟩ := k ws' hq T'.heap (locs ++ L) arr hl hn (by rw [e1]; exact hP') hD' g3 T' rfl X'
    exact ⟨t2, hst t2 a1, b1⟩
  rcases hL with hL | ⟨host, hL⟩
  · exact go (va_runI (nL := ls.length) (Ts := []) ⟨hx, hbb, hn.symm, hown, fun w hw => by cases hw⟩ h ⟨⟨rfl, rfl, hroom.1, hroom.2, zCode_ws hT hMB, List.mem_singleton.mpr rfl, hT _ hw1 rfl args, hT _ hw2 rfl args, hne, zNpar hpar, hT _ hL rfl args⟩, hnm, hT _ hMi rfl args⟩ hpre rfl hn0 hl.1 rfl (by simpa [JFrame.monitorRoom] using hcat) hd ⟨ha, hb⟩)
  · exact go (va_runIN (nL := ls.length) (Ts := []) (host := host) ⟨hx, hbb, hn.symm, hown, fun w hw => by cases hw⟩ h ⟨⟨⟨rfl, rfl, hroom.1, hroom.2, zCode_ws hT hMB, List.mem_singleton.mpr rfl⟩, hT _ hw1 rfl args, hT _ hw2 rfl args, hne, zNpar hpar, hT _ hL rfl args⟩, hnm, hT _ hMi rfl args⟩ hpre rfl hn0 hl.1 rfl (by simpa [JFrame.monitorRoom] using hcat) hd ⟨ha, hb⟩)
theorem rw_bret (C : zOK G X M d mc ms) {Qw : va_W → Prop} (hr : M.2.2.2 = none) (hF : rFin G X mc ms (fun r ws' => r = none ∧ Qw ws')) (hd : decode M.2.1 pc = .ok (.return_, 1)) (ha : a ≤ mc) (hb : b ≤ ms) (hq : Qw ws) : RW G X a b pc ls [] ws := rw_vret C hr hF hd ha hb ⟨rfl, hq⟩
end RB
