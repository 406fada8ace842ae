/-! the law's walk, from its entry to its end -/
def R_law : String := "RumourHivesLaw"
def lw_P (b : Addr) (xs : List Int32) (args : Array Value) (s : State) : Prop := args = #[.ref b] ∧ s.IntsAt b xs ∧ xs.length ≤ 1536 ∧ (Jvm.Cond.and given_1 narrow_1).before args s = true
/-- what a walk over the start with the record d0 says of its end, said of the start itself -/
theorem lw_closed {s t : State} {o : Outcome} {d0 : Drawn} {L : List Loc} {k n : Nat} (hd0 : s.drawn.sameBut d0 lw_cs) (hv : ∃ v, o = .returned v) (hW : (s.setDrawn d0).WarmedH t.vm) (hs : (s.setDrawn d0).sameButNew ({ t with vm := s.vm } : State) L k n) : State.butDraws s t lw_cs (fun t1 => Framed s o t1 L k n) := by
  have h2 : t.drawn = d0 := congrArg State.drawn hs.1
  refine ⟨⟨hv, hW, State.sameButNew.setDrawn hs s.drawn⟩, ?_, by decide⟩
  rw [h2]
  exact hd0
def lw_Q (_ : Array Value) (s : State) (o : Outcome) (t : State) : Prop := o = .returned (some (.int 1)) ∧ State.butDraws s t lw_cs (fun t1 => Framed s o t1 [] 603072 7211114)
def lw_Z (below : List Frame) (a : Array Value) (s : State) : State → Prop := fun t => ∃ o, t.status = .running ∧ Ended t below o ∧ lw_Q a s o t
/-- the law's own end, with 1 on the stack, nothing written that was there before, its room as the claim has it; d0: the record of draws at this point (at the entry s.drawn: begin with 'refine W.base ?_' and 'have hd0 := Drawn.sameBut.refl s.drawn lw_cs') -/
theorem lw_ret {p : Program} {l : Launch} {e : Env} {s : State} {m : MethodId} {below : List Frame} {meth : Method} {c : Code} {b : Nat} {d0 : Drawn} (hd0 : s.drawn.sameBut d0 lw_cs) (hx : p.tables.exec = Jvm.exec) (hb : c.code = code) (hr : meth.sig.returnType = ret) (hlocks : meth.locks = false) {pc : Nat} {H : Heap} {ls : Array Slot} (hdg : decode code pc = .ok (.ireturn, 1)) : W p l e room_1 (s.setDrawn d0) m #[Value.ref b] below meth c H [] 603072 7211114 (lw_Z below #[Value.ref b] s) (F0 m pc ls [.int 1]) := by
  intro T hT X
  obtain ⟨fs, hret, hrun, hended, hW, hframe⟩ := X.leave (v := some (.int 1)) (hlocks := hlocks) (fun h => by rw [hr] at h; cases h)
  have hmeth' : T.vm.method? m = some meth := X.method'
  refine ⟨T.setFrames fs, ?_, .returned (some (.int 1)), hrun, hended, rfl, lw_closed hd0 ⟨_, rfl⟩ hW hframe⟩
  jvm_step X.here [X.here.top, hx, hb, hdg, hmeth', hr, ret, narrow_b1]
  (try refine ⟨rfl, ?_⟩); (try refine ⟨rfl, ?_⟩)
  first | (intro acts; rw [hret _ acts rfl rfl rfl]) | rw [hret _ _ rfl rfl rfl]
  exact Steps.refl _
/-- what holds at the law's entry: the machine, the code, the tables' words (any of lw_tbl by 'hts w (by decide +kernel)'), the script of L ints xs at the cell b, what the Statement gives of the start (any of its parts by flat_of_before) -/
def lw_At (p : Program) (s : State) (m : MethodId) (meth : Method) (c : Code) (b L : Nat) (xs : Nat → Int32) : Prop :=
  p.tables.exec = Jvm.exec ∧ c.code = code ∧ meth.sig.returnType = ret ∧ c.maxLocals = 9 ∧ s.vm.findClass R_law = some m.cls ∧ (∀ w ∈ lw_tbl, w.before #[Value.ref b] s = true) ∧ va_X b L xs s s.heap ∧ b < s.heap.size ∧ meth.locks = false ∧ (Jvm.Cond.and given_1 narrow_1).before #[Value.ref b] s = true
theorem nA_L_8 : Cond.classLink RL 8 (zCls 9).1 ∈ lw_tbl := List.mem_of_getElem? (i := 90) (by decide +kernel)
theorem nA_L_155 : Cond.classLink RL 155 (zCls 10).1 ∈ lw_tbl := List.mem_of_getElem? (i := 1485) (by decide +kernel)
theorem zLower {p : Program} {l : Launch} {e : Env} {R R' : Room} {s : State} {m : MethodId} {args : Array Value} {below : List Frame} {meth : Method} {c : Code} {H : Heap} {locs : List Loc} {cells slots : Nat} {Q : State → Prop} {g : JFrame} (hf : R'.frames ≤ R.frames) (hl : R'.locals ≤ R.locals) (hc : R'.cells ≤ R.cells) (hs : R'.slots ≤ R.slots) (kk : W p l e R' s m args below meth c H locs cells slots Q g) : W p l e R s m args below meth c H locs cells slots Q g := fun T hT X => by
  have h := X.room
  have h2 : s.hasRoom e.platform R' = true := by
    simp only [State.hasRoom, Bool.and_eq_true, decide_eq_true_eq] at h ⊢
    obtain ⟨⟨⟨⟨h1, h2, h3, h4, h5, h6⟩, h7⟩, h8⟩, h9⟩ := h
    refine ⟨⟨⟨⟨?_, ?_, ?_, ?_, ?_, h6⟩, ?_⟩, ?_⟩, h9⟩ <;> omega
  exact kk T hT { X with room := h2 }
theorem lawPhi_hi {φ0 : Nat → Nat} {q r7 g8 r17 h18 r19 t20 t21 t22 t23 r24 b25 mA m1 m2 m3 m4 m5 m6 m7 m8 m9 m10 ql qd : Nat} {f2 f4 f6 f9 f10 f11 f12 f13 f14 f15 f16 : Nat → Nat} (o : Nat) (h : 201 ≤ o) : lawPhi φ0 q r7 g8 r17 h18 r19 t20 t21 t22 t23 r24 b25 mA m1 m2 m3 m4 m5 m6 m7 m8 m9 m10 ql qd f2 f4 f6 f9 f10 f11 f12 f13 f14 f15 f16 o = φ0 o := by
  unfold lawPhi
  rw [if_neg (by omega), if_neg (by omega), if_neg (by omega), if_neg (by omega), if_neg (by omega), if_neg (by omega), if_neg (by omega), if_neg (by omega), if_neg (by omega), if_neg (by omega), if_neg (by omega), if_neg (by omega)]
/-- the law's own end, in any room -/
theorem lw_ret2 {p : Program} {l : Launch} {e : Env} {R : Room} {s : State} {m : MethodId} {below : List Frame} {meth : Method} {c : Code} {b : Nat} {d0 : Drawn} (hd0 : s.drawn.sameBut d0 lw_cs) (hx : p.tables.exec = Jvm.exec) (hb : c.code = code) (hr : meth.sig.returnType = ret) (hlocks : meth.locks = false) {pc : Nat} {H : Heap} {ls : Array Slot} (hdg : decode code pc = .ok (.ireturn, 1)) : W p l e R (s.setDrawn d0) m #[Value.ref b] below meth c H [] 603072 7211114 (lw_Z below #[Value.ref b] s) (F0 m pc ls [.int 1]) := by
  intro T hT X
  obtain ⟨fs, hret, hrun, hended, hW, hframe⟩ := X.leave (v := some (.int 1)) (hlocks := hlocks) (fun h => by rw [hr] at h; cases h)
  have hmeth' : T.vm.method? m = some meth := X.method'
  refine ⟨T.setFrames fs, ?_, .returned (some (.int 1)), hrun, hended, rfl, lw_closed hd0 ⟨_, rfl⟩ hW hframe⟩
  jvm_step X.here [X.here.top, hx, hb, hdg, hmeth', hr, ret, narrow_b1]
  (try refine ⟨rfl, ?_⟩); (try refine ⟨rfl, ?_⟩)
  first | (intro acts; rw [hret _ acts rfl rfl rfl]) | rw [hret _ _ rfl rfl rfl]
  exact Steps.refl _
set_option maxRecDepth 1000000 in
set_option maxHeartbeats 40000000 in
/-- from the entry to the end -/
theorem whole_start {p : Program} {e : Env} {s : State} {m : MethodId} {below : List Frame} {meth : Method} {c : Code} (l : Launch) (hflags : l.flags = flags0) {b L : Nat} {xs : Nat → Int32} (hL : L ≤ 1536) (C0 : lw_At p s m meth c b L xs) : W p l e room_1 s m #[Value.ref b] below meth c s.heap [] 0 0 (lw_Z below #[Value.ref b] s) (entryFrame m ([Value.ref b] : List Value).toArray 9) := by
  obtain ⟨hx, hb, hr, hml, hown, hts, hX, hbl, hlocks, hgv⟩ := id C0
  have hl : l.stackTraces = false := by unfold Launch.stackTraces; rw [hflags]; decide
  obtain ⟨D, cA, φ0, h400, h298, hF, hAO, hNc⟩ := zStart hts (zGvn_ok hgv)
  refine zLower (R' := zRm 1200 603072 7211114) (by decide) (by decide) (Nat.le_refl _) (Nat.le_refl _) ?_
  obtain ⟨arr, he, hh⟩ := zEntry (φ := zid) (m := m) (as := [Value.ref b]) (n := 9) (fun v hv => by rcases List.mem_singleton.mp hv with rfl; rfl) (Nat.le_of_ble_eq_true rfl)
  rw [zMap_id] at he
  rw [he]
  have C : zOK (D, cA, φ0, s.heap.size) (p, l, e, zRm 1200 603072 7211114, s, m, #[Value.ref b], below, meth, c, lw_Z below #[Value.ref b] s) mL_law 1200 603072 7211114 := ⟨hx, hb, hml, hown, hlocks, hr, hF, rfl, hl⟩
  have K : RW (D, cA, φ0, s.heap.size) (p, l, e, zRm 1200 603072 7211114, s, m, #[Value.ref b], below, meth, c, lw_Z below #[Value.ref b] s) 0 0 0 [some (.ref b), none, none, none, none, none, none, none, none] [] [] := by
    refine rw_new C [.null, .null, .null, .null, .null, .null, .null, .int 0, .int 0, .int 0] zck9 nA_L_8 iI_X5 iN_X5 (N := 10) rfl dfs_X5 (by decide) (by decide) dL_law_0 (fun q => ?_)
    refine rw_dup C rfl dL_law_3 ?_
    refine rw_callI (as := []) C (fun s' e => by rw [e]; exact hAO) vX5_init rfl rfl lL_154 dL_law_4 rfl (Nat.le_of_ble_eq_true rfl) (b_X5_init hl (u := []) (q := q)) (by decide) (by decide) (by decide) ?_
    rintro ws' ⟨r7, g8, r17, h18, r19, t20, t21, t22, t23, r24, b25, f2, f4, f6, f9, f10, f11, f12, f13, f14, f15, f16, rfl⟩
    refine rw_astore_1 C rfl dL_law_7 ?_
    refine rw_new C [.int 0, .int 0, .int 0, .int 0, .int 0, .null, .null, .null, .null, .null, .null, .null, .null, .null, .null, .int 0, .int 0, .int 0, .int 0, .int 0, .int 0] zck10 nA_L_155 iI_X6 iN_X6 (N := 21) rfl dfs_X6 (by decide) (by decide) dL_law_8 (fun mA => ?_)
    refine rw_dup C rfl dL_law_11 ?_
    refine rw_callI (as := []) C (fun s' e => by rw [e]; exact hAO) vX6_init rfl rfl lL_157 dL_law_12 rfl (Nat.le_of_ble_eq_true rfl) (b_X6_init hl (q := mA)) (by decide) (by decide) (by decide) ?_
    rintro ws' ⟨m1, m2, m3, m4, m5, m6, m7, m8, m9, m10, rfl⟩
    refine rw_astore_2 C rfl dL_law_15 ?_
    refine rw_iconst C (v := nI 1) (by decide) dL_law_16 ?_
    refine rw_newl C (n := 1) (by decide) (by decide) (by decide) dL_law_17 (fun ql => ?_)
    refine rw_astore_3 C rfl dL_law_19 ?_
    refine rw_iconst C (v := nI 1) (by decide) dL_law_20 ?_
    refine rw_newd C (n := 1) (by decide) (by decide) (by decide) dL_law_21 (fun qd => ?_)
    refine rw_astore_4 C rfl dL_law_23 ?_
    refine rw_iconst C (v := nI 0) (by decide) dL_law_25 ?_
    refine rw_istore_5 C rfl dL_law_26 ?_
    intro H locs arr hl2 hn hP hD hS
    have e1 := wsLaw (D := D) (cA := cA) (φ0 := φ0) (base := s.heap.size) (q := q) (r7 := r7) (g8 := g8) (r17 := r17) (h18 := h18) (r19 := r19) (t20 := t20) (t21 := t21) (t22 := t22) (t23 := t23) (r24 := r24) (b25 := b25) (mA := mA) (m1 := m1) (m2 := m2) (m3 := m3) (m4 := m4) (m5 := m5) (m6 := m6) (m7 := m7) (m8 := m8) (m9 := m9) (m10 := m10) (ql := ql) (qd := qd) (f2 := f2) (f4 := f4) (f6 := f6) (f9 := f9) (f10 := f10) (f11 := f11) (f12 := f12) (f13 := f13) (f14 := f14) (f15 := f15) (f16 := f16)
    obtain ⟨φ1, hφ⟩ : ∃ φ1, lawPhi φ0 q r7 g8 r17 h18 r19 t20 t21 t22 t23 r24 b25 mA m1 m2 m3 m4 m5 m6 m7 m8 m9 m10 ql qd f2 f4 f6 f9 f10 f11 f12 f13 f14 f15 f16 = φ1 := ⟨_, rfl⟩
    have hhi : ∀ o, 201 ≤ o → φ1 o = φ0 o := fun o ho => by rw [← hφ]; exact lawPhi_hi o ho
    have f0 : φ1 0 = q := by rw [← hφ]; rfl
    have f12 : φ1 12 = mA := by rw [← hφ]; rfl
    have f23 : φ1 23 = ql := by rw [← hφ]; rfl
    have f24 : φ1 24 = qd := by rw [← hφ]; rfl
    rw [hφ] at e1
    have hP2 : va_P D vwCl (ordL.map (fun o => (φ1 o, rawE (D, cA, φ1, s.heap.size) o))) H := Eq.mp (congrArg (fun w => va_P D vwCl w H) e1) hP
    have hD2 : va_D (zA (D, cA, φ1, s.heap.size)) (ordL.map (fun o => (φ1 o, rawE (D, cA, φ1, s.heap.size) o))) := Eq.mp (congrArg (fun w => va_D (zA (D, cA, φ0, s.heap.size)) w) e1) hD
    have g400 : φ1 400 = b := (hhi _ (by decide)).trans h400
    have g298 : φ1 298 ≠ 1 := by rw [hhi _ (by decide), h298]; decide
    have C1 : zOK (D, cA, φ1, s.heap.size) (p, l, e, zRm 1200 603072 7211114, s, m, #[Value.ref b], below, meth, c, lw_Z below #[Value.ref b] s) mL_law 1200 603072 7211114 := ⟨hx, hb, hml, hown, hlocks, hr, hF.phi hhi, rfl, hl⟩
    have W1 : zLw (D, cA, φ1, s.heap.size) (p, l, e, zRm 1200 603072 7211114, s, m, #[Value.ref b], below, meth, c, lw_Z below #[Value.ref b] s) L xs := by
      refine ⟨C1, ⟨?_, ?_, ?_⟩, hNc, hl, g298⟩
      · show va_X (φ1 400) L xs s s.heap
        rw [g400]; exact hX
      · show φ1 400 < s.heap.size
        rw [g400]; exact hbl
      · show ¬ s.heap.size ≤ φ1 400
        rw [g400]; omega
    have fin : ∀ (a b' : Nat) (S : zS) (J : Int64) (E : UInt64) (ls : List (Option Value)), a ≤ 603072 → b' ≤ 7211114 → SN (D, cA, φ1, s.heap.size) (p, l, e, zRm 1200 603072 7211114, s, m, #[Value.ref b], below, meth, c, lw_Z below #[Value.ref b] s) a b' 2944 ls [] S J E := by
      intro a b' S J E ls ha hb' 
      refine sn_iconst C1 1 (by decide) dL_law_2944 ?_
      intro H locs arr hl hn hR hS
      refine va_forget (fun q hq => hS.2.2 q hq) ?_
      refine W.widen ha hb' ?_
      refine W.base ?_
      exact lw_ret2 (Drawn.sameBut.refl s.drawn lw_cs) hx hb hr hlocks dL_law_2945
    have go := zLoop W1 hL fin 512 0 ?_ ?_ S0 0 0 ?_ ?_ ?_ ?_ zInv0
    refine go H locs arr ⟨hl2.1, hl2.2.1, fun i v hv => ?_⟩ hn (zRep_of hP2 hD2 g298) hS
    · match i, hv with
      | 0, hv => cases hv; show arr[0]? = some (.val (.ref (φ1 400))); rw [g400]; exact hl2.2.2 0 (.ref b) rfl
      | 1, hv => cases hv; show arr[1]? = some (.val (.ref (φ1 0))); rw [f0]; exact hl2.2.2 1 (.ref q) rfl
      | 2, hv => cases hv; show arr[2]? = some (.val (.ref (φ1 12))); rw [f12]; exact hl2.2.2 2 (.ref mA) rfl
      | 3, hv => cases hv; show arr[3]? = some (.val (.ref (φ1 23))); rw [f23]; exact hl2.2.2 3 (.ref ql) rfl
      | 4, hv => cases hv; show arr[4]? = some (.val (.ref (φ1 24))); rw [f24]; exact hl2.2.2 4 (.ref qd) rfl
      | 5, hv => cases hv; exact hl2.2.2 5 (.int (nI 0)) rfl
      | 6, hv => cases hv
      | 7, hv => cases hv
      | 8, hv => cases hv
      | n + 9, hv => cases hv
    all_goals omega
  have hP0 : va_P D vwCl [] s.heap := fun k q h => by simp at h
  have hD0 : va_D (zA (D, cA, φ0, s.heap.size)) [] := ⟨fun i j p q h => by simp at h, fun k q h => by simp at h⟩
  exact K s.heap [] arr hh (by rw [hml]; rfl) hP0 hD0 va_S.rf
set_option maxHeartbeats 4000000 in
theorem lw_walk (l : Launch) (hflags : l.flags = flags0) (b : Addr) (xs : List Int32) : MetFree l x (headSpec (Jvm.Cond.code x code maxLocals ret :: tables_1) room_1) (lw_P b xs) (fun _ _ _ _ _ => True) lw_Q := by
  refine MetFree.of_bodyS (code := code) (maxLocals := maxLocals) (ret := ret) (by decide) ?_ ?_
  · intro args s m h hn
    obtain ⟨meth, c, h1, h2, h3, h4, h5, h6, -, -⟩ := Cond.code_spec hn (atoms_spec (ws := Jvm.Cond.code x code maxLocals ret :: tables_1) h _ List.mem_cons_self)
    exact ⟨meth, c, h1, h2, h3, h4, h5, h6⟩
  · intro p e s m args below meth c s₁ B hml0 hP _
    obtain ⟨rfl, hx, hbd, hgv⟩ := hP
    obtain ⟨scr, harrAt, hlist, hof, hsmall⟩ := hx
    obtain ⟨hcb, hkn, -, -⟩ := State.arrayAt?_spec harrAt
    have hown : s.vm.findClass R_law = some m.cls := findClass_of_methodNamed B.named
    have hts0 : ∀ c ∈ (Jvm.Cond.code x code maxLocals ret :: tables_1), c.before #[Value.ref b] s = true := atoms_spec (ws := Jvm.Cond.code x code maxLocals ret :: tables_1) B.pre
    have hts : ∀ w ∈ lw_tbl, w.before #[Value.ref b] s = true := k2_hts_sels lw_privs (fun w hw => hts0 w (List.mem_cons_of_mem _ hw)) lw_privs_ok
    have hml : c.maxLocals = 9 := B.maxLocals_eq (hts0 _ List.mem_cons_self)
    have X₀ : Stand p l e room_1 s m #[Value.ref b] below meth c s₁ [] 0 0 := Stand.of_body B
    have hh0 : s₁.heap = s.heap := by rw [B.state]; rfl
    have hsz : scr.slots.size = xs.length := by rw [← Array.length_toList, hlist, List.length_map]
    have hval : ∀ j : Nat, j < xs.length → scr.slots[j]? = some (.int (xs.getD j 0)) := fun j hj => by
      rw [← Array.getElem?_toList, hlist]
      simp [hj]
    have hbl : b < s.heap.size := (Array.getElem?_eq_some_iff.mp hcb).1
    have hX : va_X b xs.length (fun j => xs.getD j 0) s s.heap := ⟨scr, hcb, hof, hkn, hsz, hval⟩
    have K : W p l e room_1 s m #[Value.ref b] below meth c s₁.heap [] 0 0 (lw_Z below #[Value.ref b] s) (entryFrame m ([Value.ref b] : List Value).toArray 9) := by
      rw [hh0]
      exact whole_start l hflags hbd ⟨B.exec, B.bytes, B.returns, hml, hown, hts, hX, hbl, B.notSynchronized, hgv⟩
    obtain ⟨t, a1, o, b1, b2, b3⟩ := K s₁ rfl X₀
    exact ⟨t, o, a1, b1, b2, b3⟩
theorem lw_pre_spec {args : Array Value} {s : State} (h : (Jvm.Cond.and given_1 narrow_1).before args s = true) (hr : rest_1_c.before args s = true) : ∃ (b : Addr) (xs : List Int32), lw_P b xs args s := by
  have hs := flat_of_before _ h
  have hq := flat_of_before _ hr
  have hc : (Cond.count 1).before args s = true := hs _ (by decide +kernel)
  have harr : (Cond.arrayOf (.arg 0) .int).before args s = true := hs _ (by decide +kernel)
  have hle : (Cond.le (.length (.arg 0)) (.int 1536)).before args s = true := hs _ (by decide +kernel)
  have hlen : (Cond.isInt (.length (.arg 0))).before args s = true := hq _ (by decide +kernel)
  have hall : (Cond.all (.arg 0) (.isInt (.elem (.arg 0) (.index 0)))).before args s = true := hq _ (by decide +kernel)
  obtain ⟨b, xs, hb, hx⟩ := State.ints_of_pre rfl harr hlen hall
  have hsm : xs.length < 2 ^ 31 := hx.choose_spec.2.2.2
  have hev : (Term.length (.arg 0)).eval args s none [] s = some (.int xs.length.toInt32) := hx.length_eval hb
  have hv := Cond.le_ints hev (show (Term.int 1536).eval args s none [] s = some (.int 1536) from rfl)
  have hd : xs.length.toInt32 ≤ 1536 := by
    simpa [Cond.before, Cond.holds, hv] using hle
  have hN : xs.length ≤ 1536 := (Int32.ofNat_le_ofNat hsm (by decide)).mp (show Int32.ofNat xs.length ≤ Int32.ofNat 1536 from hd)
  exact ⟨b, xs, Cond.one_arg hc (show args[0]? = some (.ref b) from hb), hx, hN, h⟩
theorem lw_comes (l : Launch) (hflags : l.flags = flags0) : Comes l x (Jvm.Cond.code x code maxLocals ret :: tables_1) room_1 (fun tb e args s => Calls_1 tb e args s ∧ rest_1 tb e args s ∧ Pre_1 tb e args s)
    (fun _ _ args s o t => lw_Q args s o t) := by
  intro p e ha hc hk s m args below hf hfit hheap happ hpre
  obtain ⟨b, xs, hP⟩ := lw_pre_spec hpre.2.2 hpre.2.1
  obtain ⟨k, o, h1, h2, h3, hQ⟩ := lw_walk l hflags b xs p e ha hc hk s m args below hf ((Spec.applies_iff_loose hf).mp happ).1 hP trivial
  exact ⟨k, o, h1, h2, h3, hQ⟩
theorem lw_frame {s t : State} {o : Outcome} {args : Array Value} (h : State.butDraws s t lw_cs (fun t1 => Framed s o t1 [] 603072 7211114)) :
    State.butDraws s t [Jvm.Choice.named "NaN.bits"] (fun t1 => Framed s o t1 (fieldLocs frame_1_writes args s ++ arrayLocs frame_1_arrays args s ++ staticLocs frame_1_statics s) 603072 7211114) := h
theorem lw_limb (L : Cond) (hL : ∀ (args : Array Value) (s t : State), L.after args s (.returned (some (.int 1))) t = true) :
    ArmFor flags0 classFile x code maxLocals ret World_1 tables_1 room_1 Calls_1 rest_1 Pre_1
      (fun tb e a s o t => postC L tb e a s o t ∧ State.butDraws s t [Jvm.Choice.named "NaN.bits"] (fun t1 => Framed s o t1 (fieldLocs frame_1_writes a s ++ arrayLocs frame_1_arrays a s ++ staticLocs frame_1_statics s) 603072 7211114)) := by
  intro l hflags _ _ p e ha hc hk s m args below hf hfit hheap happ hpre
  obtain ⟨k, o, h1, h2, h3, rfl, hF⟩ := lw_comes l hflags p e ha hc hk s m args below hf hfit hheap happ hpre
  exact ⟨k, _, h1, h2, h3, hL args s _, lw_frame hF⟩
theorem i_vc : Claimed_1_1 ∧ Claimed_1_2 := ⟨lw_limb limb_1_1 (fun args s t => by simp [limb_1_1, Cond.after, Cond.holds, Cond.value]), lw_limb limb_1_2 (fun args s t => Cond.after_iff.mpr (by
  first | (rw [show limb_1_2 = Cond.eq .result (.int 1) from rfl, Cond.eq_ints (x := 1) (y := 1) rfl rfl]; simp; done) | (simp [limb_1_2, Cond.value, Term.eval]; done)))⟩
