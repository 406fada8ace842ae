/-! contracts over a raw world -/
theorem zTr_id (v : Value) : zTr zid v = v := by cases v <;> rfl
theorem zMap_id (st : List Value) : st.map (zTr zid) = st := by
  rw [show zTr zid = id from funext zTr_id]; exact List.map_id st
def rPc (G : zG) (as : List Value) (ws : va_W) : Array Value → State → Prop := fun v U => v = as.toArray ∧ va_P G.1 vwCl ws U.heap ∧ va_D (zA G) ws ∧ zFacts G U U.heap
def rQc (G : zG) (Qr : Option Value → va_W → Prop) : Array Value → State → Outcome → State → Prop := fun _ st oc t => ∃ (r : Option Value) (ws' : va_W), oc = .returned r ∧ Qr r ws' ∧ va_P G.1 vwCl ws' t.heap ∧ va_D (zA G) ws' ∧ va_F (zA G) st t
def rCR (l : Launch) (G : zG) (M : zM) (d mc ms : Nat) (as : List Value) (ws : va_W) (Qr : Option Value → va_W → Prop) : Prop :=
  Met l M.1 [Cond.code M.1 M.2.1 M.2.2.1 M.2.2.2] (zRm d mc ms) (rPc G as ws) (rQc G Qr) mc ms (zA G)
def rFin (G : zG) (X : zX) (mc ms : Nat) (Qr : Option Value → va_W → Prop) : Prop :=
  match X with
  | (_, _, _, _, s, _, args, below, _, _, Q) => Q = MQ below (rQc G Qr) args s mc ms (zA G)
theorem rBlind {G : zG} {as : List Value} {ws : va_W} : FrameBlind (rPc G as ws) := by
  intro a U g mk ⟨h1, h2, h3, h4⟩
  exact ⟨h1, h2, h3, h4.to (State.WarmedH.refl U) va_S.rf⟩
theorem rCR.of {l : Launch} {G : zG} {M : zM} {d mc ms : Nat} {as : List Value} {ws : va_W} {Qr : Option Value → va_W → Prop} (hl : l.stackTraces = false) (hy : plainName M.1.cls = true) (h1 : ∀ v ∈ as, v.category = 1) (hn : as.length ≤ M.2.2.1) {ls : List (Option Value)} (hls : as.map some ++ List.replicate (M.2.2.1 - as.length) none = ls)
    (body : ∀ X, zOK G X M d mc ms → rFin G X mc ms Qr → RW G X 0 0 0 ls [] ws) : rCR l G M d mc ms as ws Qr := by
  refine Met.ofW (cc := M.2.1) (maxL := M.2.2.1) (ret := M.2.2.2) hy rfl ?_
  intro p e s m args below meth c s₁ B hml hv
  obtain ⟨rfl, hP, hD, hF⟩ := hv
  obtain ⟨arr, he, hh⟩ := zEntry (φ := zid) (m := m) h1 hn
  rw [zMap_id] at he
  rw [he]
  rw [hls] at hh
  refine body (p, l, e, _, s, m, _, below, meth, c, _) ⟨B.exec, B.bytes, hml, findClass_of_methodNamed B.named, B.notSynchronized, B.returns, hF, rfl, hl⟩ rfl s.heap [] arr hh ?_ hP hD va_S.rf
  rw [hml, ← hls]; simp; omega
section RCC
variable {G : zG} {X : zX} {M : zM} {d mc ms a b pc : Nat} {ls : List (Option Value)} {st : List Value} {ws : va_W}
theorem rw_vret (C : zOK G X M d mc ms) {Qr : Option Value → va_W → Prop} (hr : M.2.2.2 = none) (hF : rFin G X mc ms Qr) (hd : decode M.2.1 pc = .ok (.return_, 1)) (ha : a ≤ mc) (hb : b ≤ ms) (hq : Qr none ws) : RW G X a b pc ls [] ws := by
  obtain ⟨p, l, e, R, s, m, args, below, meth, c, Q⟩ := X
  intro H locs arr hl hn hP hD hS
  have hQ : Q = MQ below (rQc G Qr) args s mc ms (zA G) := hF
  subst hQ
  refine W.widen ha hb ?_
  exact W.vret C.1 C.2.1 (C.2.2.2.2.2.1.trans hr) (fun t ht hw => ⟨none, ws, rfl, hq, by rw [ht]; exact hP, hD, hS.F ht⟩) (fun q hq => hS.2.2 q hq) hd C.2.2.2.2.1
theorem rw_aret (C : zOK G X M d mc ms) {Qr : Option Value → va_W → Prop} {o : Nat} {ty : FieldType} (hr : M.2.2.2 = some ty) (hty : zIsR ty = true) (hF : rFin G X mc ms Qr) (hd : decode M.2.1 pc = .ok (.areturn, 1)) (ha : a ≤ mc) (hb : b ≤ ms) (hq : Qr (some (.ref o)) ws) : RW G X a b pc ls [.ref o] ws := by
  obtain ⟨p, l, e, R, s, m, args, below, meth, c, Q⟩ := X
  intro H locs arr hl hn hP hD hS
  have hQ : Q = MQ below (rQc G Qr) args s mc ms (zA G) := hF
  subst hQ
  refine W.widen ha hb ?_
  refine W.aret C.1 C.2.1 (C.2.2.2.2.2.1.trans hr) ?_ (Or.inr ⟨_, rfl⟩) (fun t ht hw => ⟨some (.ref o), ws, rfl, hq, by rw [ht]; exact hP, hD, hS.F ht⟩) (fun q hq => hS.2.2 q hq) hd C.2.2.2.2.1
  cases ty <;> first | exact Or.inl ⟨_, rfl⟩ | exact Or.inr ⟨_, rfl⟩ | cases hty
/-- a call of a static method over a raw world, seen from any frame -/
theorem zRaw_S {p : Program} {l : Launch} {e : Env} {R : Room} {s : State} {m : MethodId} {args : Array Value} {below : List Frame} {meth : Method} {c : Code} {Q : State → Prop} {H : Heap} {locs : List Loc} {arr : Array Slot} {rest : List Value} (C : zOK G (p, l, e, R, s, m, args, below, meth, c, Q) M d mc ms) {M' : zM} {d' mc' ms' n idx : Nat} {as : List Value} {Qr : Option Value → va_W → Prop} (hM : zMeS M' n) (hL : Cond.methodLink M.1.cls idx M'.1 ∈ lw_tbl) (hd : decode M.2.1 pc = .ok (.invokestatic idx, 3)) (hn0 : as.length = n) (hcat : (rest.map (fun v => v.category)).sum ≤ 8) (h : rCR l G M' d' mc' ms' as ws Qr) (hdd : d' + 1 ≤ d) (ha : a + mc' ≤ mc) (hb : b + ms' ≤ ms) (hn : arr.size = c.maxLocals) (hP : va_P G.1 vwCl ws H) (hD : va_D (zA G) ws) (hS : va_S (zA G) s.heap H locs)
    (k : ∀ (r : Option Value) (ws' : va_W) (H1 : Heap) (locs1 : List Loc), Qr r ws' → va_P G.1 vwCl ws' H1 → va_D (zA G) ws' → va_S (zA G) s.heap H1 locs1 → W p l e R s m args below meth c H1 locs1 (a + mc') (b + ms') Q (F0 m (pc + 3) arr (r.toList ++ rest))) : W p l e R s m args below meth c H locs a b Q (F0 m pc arr (as.reverse ++ rest)) := by
  obtain ⟨hx, hbb, hml, hown, hlk, hrt, hF, hRm, hfl⟩ := id C
  have hRm : R = zRm d mc ms := hRm
  subst hRm
  obtain ⟨hMB, hMi⟩ := hM
  obtain ⟨hw1, hw2, hne, hpar, hmx⟩ := id hMB
  have hT := hF.1
  have hpre : PreS s H (rPc G as ws) as :=
    ⟨rBlind, fun U hU hW => ⟨rfl, by rw [hU]; exact hP, hD, by rw [hU]; exact hF.to hW hS⟩⟩
  have hroom : (zRm d' mc' ms').frames + 1 ≤ (zRm d mc ms).frames ∧ 8 + (M'.2.2.1 + 11) + (zRm d' mc' ms').locals ≤ (zRm d mc ms).locals := by
    simp only [zRm]; omega
  have run := va_runS (p := p) (e := e) (m := m) (below := below) (meth := meth) (c := c) (locs := locs) (cells := a) (slots := b) (g := F0 m pc arr (as.reverse ++ rest)) (nL := arr.size) (Ts := []) (rest := rest) ⟨hx, hbb, hn.symm, hown, fun w hw => by cases hw⟩ h ⟨⟨rfl, rfl, hroom.1, hroom.2, zCode_ws hT hMB, List.mem_singleton.mpr rfl, hT _ hw1 rfl args, hT _ hw2 rfl args, hne, zNpar hpar, hT _ hL rfl args⟩, hT _ hMi rfl args⟩ hpre rfl hn0 rfl rfl (by simpa [JFrame.monitorRoom] using hcat) hd ⟨ha, hb⟩
  intro T hT0 X0
  obtain ⟨v, st₀, t, T', L, h0, X', hL, e1, e2, ⟨r, ws', hv, hq, hP', hD', hF'⟩, hst⟩ := run T hT0 X0
  have hv : v = r := by injection hv
  subst hv
  obtain ⟨g1, g2, g3⟩ := vx_keep (A1 := zA G) (T' := T') h0 e1 hS (fun _ _ h => h) (fun _ h => h) hL hF'
  obtain ⟨t2, a1, b1⟩ := k v ws' T'.heap (locs ++ L) hq (by rw [e1]; exact hP') hD' g3 T' rfl X'
  exact ⟨t2, hst t2 a1, b1⟩
theorem wArB : Cond.arrayClass .byte ∈ lw_tbl := List.mem_of_getElem? (i := 266) (by decide +kernel)
/-- a new array of bytes -/
theorem rw_newb (C : zOK G X M d mc ms) {n : Nat} (hn30 : n < 2 ^ 28) (ha : a + 1 ≤ mc) (hb0 : b + n ≤ ms) (hd : decode M.2.1 pc = .ok (.newarray .byte, 2)) (k : ∀ q, RW G X (a + 1) (b + n) (pc + 2) ls (.ref q :: st) (ws ++ [(q, .inl (G.2.1 3, n, .inl (fun _ => 0)))])) : RW G X a b pc ls (zi n :: st) ws := by
  obtain ⟨p, l, e, R, s, m, args, below, meth, c, Q⟩ := X
  intro H locs arr hl hn hP hD hS
  obtain ⟨hx, hb, hml, hown, hlk, hrt, ⟨hT, hK, -, -, -, hbase, -⟩, hRm, -⟩ := id C
  have hRm : R = zRm d mc ms := hRm
  subst hRm
  refine va_newa hx hb (atype := .byte) (hT _ wArB rfl args) rfl hK hP hD hS hbase (n := nI n) (N' := n) (a0 := (n, .inl (fun _ => 0))) (fun cA => rfl) (nI_pos (by omega)) (nI_clamp (by omega)) (show n * 1 ≤ 536870912 by omega) ha hb0 hd (fun q cA H1 hK1 hP1 hD1 hS1 => ?_)
  have h1 := (hK1.2 7 (cA, .byte) rfl).2
  have h2 := (hK.2 2 (G.2.1 3, .byte) rfl).2
  have e1 : cA = G.2.1 3 := Option.some.inj (h1.symm.trans h2)
  subst e1
  exact k q H1 locs arr hl hn hP1 hD1 hS1
end RCC
