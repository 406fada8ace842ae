/-! the output: an opened world, in which the bytes' address is known -/
def zGw (G : zG) (va : Nat) : zG := (G.1, G.2.1, fun o => if o = 11 then va else if o = 298 then 1 else G.2.2.1 o, G.2.2.2)
def zOut (v : Value) : Prop := v ≠ .ref 11 ∧ v ≠ .ref 298
theorem zGw_o {G : zG} {va o : Nat} (h : o ≠ 11) (h2 : o ≠ 298) : (zGw G va).2.2.1 o = G.2.2.1 o := by simp [zGw, h, h2]
theorem zTr_w {G : zG} {va : Nat} {v : Value} (h : zOut v) : zTr (zGw G va).2.2.1 v = zTr G.2.2.1 v := by
  cases v with
  | ref o => exact congrArg Value.ref (zGw_o (fun e => h.1 (by rw [e])) (fun e => h.2 (by rw [e])))
  | _ => rfl
theorem zP_298 {o j q : Nat} (ho : o < zN) (h : zP o j = some q) : q ≠ 298 := by
  have ho : o < 201 := ho
  unfold zP at h
  split at h
  · unfold zPt at h
    split at h <;> first | (injection h with h; omega) | cases h
  · unfold zPs at h
    split at h <;> first | (injection h with h; omega) | cases h
theorem zAd_w {G : zG} {va q : Nat} (h : q ≠ 298) : zAd (zGw G va).2.2.1 va q = zAd G.2.2.1 va q := by
  unfold zAd
  by_cases h1 : q = 11
  · simp [h1]
  · simp [h1, zGw_o h1 h]
theorem zW_w {G : zG} {va cap : Nat} {I : zI} {J : Int64} {E : UInt64} : zW (zGw G va) va cap I J E = zW G va cap I J E := by
  unfold zW
  apply List.map_congr_left
  intro o ho
  obtain ⟨ho, -⟩ := zO_lt (List.mem_range.mp ho)
  generalize zO o = o at ho ⊢
  have ho2 : o < 201 := ho
  have eo : ∀ k, (zP o k).map (zAd (zGw G va).2.2.1 va) = (zP o k).map (zAd G.2.2.1 va) := by
    intro k
    cases h : zP o k with
    | none => rfl
    | some q => exact congrArg some (zAd_w (zP_298 ho h))
  have e1 : (zGw G va).2.1 = G.2.1 := rfl
  rw [zAd_w (by omega)]
  unfold zEnt zFv
  simp only [eo, e1]
theorem zFacts.w {G : zG} {va : Nat} {U : State} {H : Heap} (h : zFacts G U H) : zFacts (zGw G va) U H := by
  obtain ⟨h1, h2, h3, h4, h5, h6, ⟨a1, a2, a3, a4, ⟨⟨b1, b2⟩, ⟨b3, b4⟩⟩, c1, c2⟩⟩ := h
  refine ⟨h1, h2, h3, h4, h5, h6, ⟨fun k hk => ?_, ?_, a3, ?_, ⟨⟨?_, ?_⟩, ⟨?_, ?_⟩⟩, fun k hk => ?_, ?_⟩⟩
  · rw [zGw_o (by omega) (by omega)]; exact a1 k hk
  · rw [show (fun k => (zGw G va).2.2.1 (300 + k)) = (fun k => G.2.2.1 (300 + k)) from funext (fun k => zGw_o (by omega) (by omega)), show (fun k => (zGw G va).2.2.1 (320 + k)) = (fun k => G.2.2.1 (320 + k)) from funext (fun k => zGw_o (by omega) (by omega))]
    exact a2
  · rw [zGw_o (by omega) (by omega)]; exact a4
  · rw [zGw_o (by omega) (by omega)]; exact b1
  · rw [zGw_o (by omega) (by omega)]; exact b2
  · rw [zGw_o (by omega) (by omega)]; exact b3
  · rw [zGw_o (by omega) (by omega)]; exact b4
  · rw [zGw_o (by omega) (by omega)]; exact c1 k hk
  · rw [show (fun k => (zGw G va).2.2.1 (360 + k)) = (fun k => G.2.2.1 (360 + k)) from funext (fun k => zGw_o (by omega) (by omega)), show (fun k => (zGw G va).2.2.1 (370 + k)) = (fun k => G.2.2.1 (370 + k)) from funext (fun k => zGw_o (by omega) (by omega))]
    exact c2
theorem zOK.w {G : zG} {X : zX} {M : zM} {d mc ms va : Nat} (C : zOK G X M d mc ms) : zOK (zGw G va) X M d mc ms := by
  obtain ⟨h1, h2, h3, h4, h5, h6, h7, h8⟩ := C
  exact ⟨h1, h2, h3, h4, h5, h6, h7.w, h8⟩
theorem zRep.opened {G : zG} {I : zI} {J : Int64} {E : UInt64} {H : Heap} (h : zRep G I J E H) : ∃ va, zRep (zGw G va) I J E H := by
  obtain ⟨va, cap, hP, hD, hg⟩ := h
  exact ⟨va, va, cap, by rw [zW_w]; exact hP, by rw [zW_w]; exact hD, hg.1, fun _ => rfl⟩
theorem zRep.closed {G : zG} {va : Nat} {I : zI} {J : Int64} {E : UInt64} {H : Heap} (hG : G.2.2.1 298 ≠ 1) (h : zRep (zGw G va) I J E H) : zRep G I J E H := by
  obtain ⟨va', cap, hP, hD, hg⟩ := h
  have e : va' = va := hg.2 rfl
  subst e
  exact ⟨va', cap, by rw [← zW_w]; exact hP, by rw [← zW_w]; exact hD, hg.1, fun h => (hG h).elim⟩
def zOuts (st : List Value) : Prop := ∀ v ∈ st, zOut v
def zOutL (ls : List (Option Value)) : Prop := ∀ v, some v ∈ ls → zOut v
theorem zOuts.nil : zOuts [] := fun _ h => by cases h
theorem zOuts.ref {o : Nat} {st : List Value} (h1 : o ≠ 11) (h2 : o ≠ 298) (h : zOuts st) : zOuts (.ref o :: st) := fun v hv => by
  rcases List.mem_cons.mp hv with rfl | hv
  · exact ⟨fun e => h1 (Value.ref.inj e), fun e => h2 (Value.ref.inj e)⟩
  · exact h v hv
theorem zOuts.int {x : Int32} {st : List Value} (h : zOuts st) : zOuts (.int x :: st) := fun v hv => by
  rcases List.mem_cons.mp hv with rfl | hv
  · exact ⟨fun e => (by cases e), fun e => (by cases e)⟩
  · exact h v hv
theorem zOutL.nil : zOutL [] := fun _ h => by cases h
theorem zOutL.none {ls : List (Option Value)} (h : zOutL ls) : zOutL (Option.none :: ls) := fun v hv => by
  rcases List.mem_cons.mp hv with e | hv
  · cases e
  · exact h v hv
theorem zOutL.ref {o : Nat} {ls : List (Option Value)} (h1 : o ≠ 11) (h2 : o ≠ 298) (h : zOutL ls) : zOutL (some (.ref o) :: ls) := fun v hv => by
  rcases List.mem_cons.mp hv with e | hv
  · cases e; exact ⟨fun e => h1 (Value.ref.inj e), fun e => h2 (Value.ref.inj e)⟩
  · exact h v hv
theorem zOutL.int {x : Int32} {ls : List (Option Value)} (h : zOutL ls) : zOutL (some (.int x) :: ls) := fun v hv => by
  rcases List.mem_cons.mp hv with e | hv
  · cases e; exact ⟨fun e => (by cases e), fun e => (by cases e)⟩
  · exact h v hv
theorem zMap_w {G : zG} {va : Nat} {st : List Value} (h : zOuts st) : st.map (zTr (zGw G va).2.2.1) = st.map (zTr G.2.2.1) := List.map_congr_left (fun v hv => zTr_w (h v hv))
theorem zHas_w {G : zG} {va : Nat} {arr : Array Slot} {ls : List (Option Value)} (h : zOutL ls) : zHas (zGw G va).2.2.1 arr ls ↔ zHas G.2.2.1 arr ls := by
  constructor
  · intro hh
    refine ⟨hh.1, hh.2.1, fun i v hv => ?_⟩
    rw [← zTr_w (va := va) (h v (List.mem_of_getElem? hv))]
    exact hh.2.2 i v hv
  · intro hh
    refine ⟨hh.1, hh.2.1, fun i v hv => ?_⟩
    rw [zTr_w (va := va) (h v (List.mem_of_getElem? hv))]
    exact hh.2.2 i v hv
/-- some locals forgotten -/
def zLess (ls ls' : List (Option Value)) : Prop := ls.length = ls'.length ∧ ∀ (i : Nat) (v : Value), ls'[i]? = some (some v) → ls[i]? = some (some v)
theorem zLess.nil : zLess [] [] := ⟨rfl, fun _ _ h => h⟩
theorem zLess.keep {u : Option Value} {ls ls' : List (Option Value)} (h : zLess ls ls') : zLess (u :: ls) (u :: ls') := by
  refine ⟨by simp [h.1], fun i v hv => ?_⟩
  cases i with
  | zero => simpa using hv
  | succ i => simpa using h.2 i v (by simpa using hv)
theorem zLess.drop {u : Option Value} {ls ls' : List (Option Value)} (h : zLess ls ls') : zLess (u :: ls) (none :: ls') := by
  refine ⟨by simp [h.1], fun i v hv => ?_⟩
  cases i with
  | zero => simp at hv
  | succ i => simpa using h.2 i v (by simpa using hv)
section ZSB
variable {G : zG} {X : zX} {M : zM} {d mc ms a b pc : Nat} {ls : List (Option Value)} {st : List Value} {I : zI} {J : Int64} {E : UInt64}
theorem sw_less {ls' : List (Option Value)} (h : zLess ls ls') (k : SW G X a b pc ls' st I J E) : SW G X a b pc ls st I J E := by
  obtain ⟨p, l, e, R, s, m, args, below, meth, c, Q⟩ := X
  intro H locs arr hl hn hR hS
  exact k H locs arr ⟨hl.1.trans h.1, hl.2.1, fun i v hv => hl.2.2 i v (h.2 i v hv)⟩ (h.1.symm.trans hn) hR hS
theorem sw_open (hl0 : zOutL ls) (hs0 : zOuts st) (k : ∀ va, SW (zGw G va) X a b pc ls st I J E) : SW G X a b pc ls st I J E := by
  obtain ⟨p, l, e, R, s, m, args, below, meth, c, Q⟩ := X
  intro H locs arr hl hn hR hS
  obtain ⟨va, hR2⟩ := hR.opened
  have k2 := k va H locs arr ((zHas_w hl0).mpr hl) hn hR2 hS
  rw [zMap_w hs0] at k2
  exact k2
theorem sw_close {va : Nat} (hG : G.2.2.1 298 ≠ 1) (hl0 : zOutL ls) (hs0 : zOuts st) (k : SW G X a b pc ls st I J E) : SW (zGw G va) X a b pc ls st I J E := by
  obtain ⟨p, l, e, R, s, m, args, below, meth, c, Q⟩ := X
  intro H locs arr hl hn hR hS
  rw [zMap_w hs0]
  exact k H locs arr ((zHas_w hl0).mp hl) hn (hR.closed hG) hS
/-! the bytes in an opened world -/
theorem zEnt_byt {va cap : Nat} : zEnt G va cap I J E 11 = .inl (G.2.1 3, cap, .inl (I 11)) := rfl
theorem sw_getV (C : zOK G X M d mc ms) (hG : G.2.2.1 298 = 1) {idx : Nat} (hF : zFld M.1.cls idx 1 0) (hd : decode M.2.1 pc = .ok (.getfield idx, 3)) (k : SW G X a b (pc + 3) ls (.ref 11 :: st) I J E) : SW G X a b pc ls (.ref 10 :: st) I J E := by
  obtain ⟨p, l, e, R, s, m, args, below, meth, c, Q⟩ := X
  intro H locs arr hl hn hR hS
  obtain ⟨hx, hb, hml, hown, hlk, hr, ⟨hT, hK, -⟩, -⟩ := id C
  obtain ⟨⟨hc, hN, hws, -⟩, hj, hlink⟩ := hF
  obtain ⟨va, cap, hP, hD, hg⟩ := id hR
  have hva := hg.2 hG
  have hin : ∀ w ∈ u_ws (zCls 1).1 (zCls 1).2.1 (zCls 1).2.2, w ∈ u_ws (zCls 1).1 (zCls 1).2.1 (zCls 1).2.2 := fun w h => h
  have hts : ∀ w ∈ u_ws (zCls 1).1 (zCls 1).2.1 (zCls 1).2.2, w.before args s = true := fun w h => hT w (hws w h).1 (hws w h).2 args
  have he := zW_get (G := G) (va := va) (cap := cap) (I := I) (J := J) (E := E) (o := 10) (by decide) (by decide)
  rw [zEnt_obj (ci := 1) rfl, zAd_ne (by decide)] at he
  have hv : ((List.range (zNf 1)).map (zFv G.2.2.1 va I 10 1))[0]? = some (.ref (G.2.2.1 11)) := by
    rw [← hva]; rfl
  have kk := k H locs arr hl hn hR hS
  rcases hlink with h | ⟨host, h⟩
  · exact va_get hx hb hts hin hown hK hP 10 he hc 0 (hN ▸ hj) (hT _ h rfl args) (fun _ h => h) hv hd kk
  · exact va_getN hx hb hts hin hown hK hP 10 he hc 0 (hN ▸ hj) (hT _ h rfl args) (fun _ h => h) hv hd kk
theorem sw_alenV (C : zOK G X M d mc ms) (hG : G.2.2.1 298 = 1) (hd : decode M.2.1 pc = .ok (.arraylength, 1)) (k : SW G X a b (pc + 1) ls (.int (Int32.ofNat (zCap I)) :: st) I J E) : SW G X a b pc ls (.ref 11 :: st) I J E := by
  obtain ⟨p, l, e, R, s, m, args, below, meth, c, Q⟩ := X
  intro H locs arr hl hn hR hS
  obtain ⟨hx, hb, hml, hown, hlk, hr, ⟨hT, hK, -⟩, -⟩ := id C
  obtain ⟨va, cap, hP, hD, hg⟩ := id hR
  have he := zW_get (G := G) (va := va) (cap := cap) (I := I) (J := J) (E := E) (o := 11) (by decide) (by decide)
  rw [zEnt_byt, show zAd G.2.2.1 va 11 = G.2.2.1 11 from hg.2 hG] at he
  exact va_alen hx hb hK hP 11 2 he (zTys_get (by decide)) (v := Int32.ofNat (zCap I)) (by rw [← hg.1]) hd (k H locs arr hl hn hR hS)
theorem sw_baldV (C : zOK G X M d mc ms) (hG : G.2.2.1 298 = 1) {i : Int32} (hin : vp_in i (zCap I)) (hd : decode M.2.1 pc = .ok (.baload, 1)) (k : SW G X a b (pc + 1) ls (.int (I 11 i.toNatClampNeg) :: st) I J E) : SW G X a b pc ls (.int i :: .ref 11 :: st) I J E := by
  obtain ⟨p, l, e, R, s, m, args, below, meth, c, Q⟩ := X
  intro H locs arr hl hn hR hS
  obtain ⟨hx, hb, hml, hown, hlk, hr, ⟨hT, hK, -⟩, -⟩ := id C
  obtain ⟨va, cap, hP, hD, hg⟩ := id hR
  have he := zW_get (G := G) (va := va) (cap := cap) (I := I) (J := J) (E := E) (o := 11) (by decide) (by decide)
  rw [zEnt_byt, show zAd G.2.2.1 va 11 = G.2.2.1 11 from hg.2 hG] at he
  exact va_bald hx hb hK hP 11 2 he (zTys_get (by decide)) (by rw [hg.1]; exact hin) hd (k H locs arr hl hn hR hS)
theorem sw_bastV (C : zOK G X M d mc ms) (hG : G.2.2.1 298 = 1) {i x : Int32} (hin : vp_in i (zCap I)) (hd : decode M.2.1 pc = .ok (.bastore, 1)) (k : SW G X a b (pc + 1) ls st (zUp I 11 i.toNatClampNeg (vp_nar .byte x)) J E) : SW G X a b pc ls (.int x :: .int i :: .ref 11 :: st) I J E := by
  obtain ⟨p, l, e, R, s, m, args, below, meth, c, Q⟩ := X
  intro H locs arr hl hn hR hS
  obtain ⟨hx, hb, hml, hown, hlk, hr, ⟨hT, hK, -⟩, -⟩ := id C
  obtain ⟨va, cap, hP, hD, hg⟩ := id hR
  have he := zW_get (G := G) (va := va) (cap := cap) (I := I) (J := J) (E := E) (o := 11) (by decide) (by decide)
  have hset : (zW G va cap I J E).set 11 (zAd G.2.2.1 va 11, .inl (G.2.1 3, cap, .inl (upd (I 11) i.toNatClampNeg (vp_nar .byte x)))) = zW G va cap (zUp I 11 i.toNatClampNeg (vp_nar .byte x)) J E := zW_set (Or.inl (by decide)) (by rw [zEnt_byt, zUp_row]) (fun q _ hq => zEnt_congr (zUp_off hq))
  rw [zEnt_byt, show zAd G.2.2.1 va 11 = G.2.2.1 11 from hg.2 hG] at he
  rw [show zAd G.2.2.1 va 11 = G.2.2.1 11 from hg.2 hG] at hset
  refine va_bast hx hb hK hP hD hS 11 2 he (zTys_get (by decide)) (by rw [hg.1]; exact hin) hd (fun H1 locs1 hP1 hD1 hS1 => ?_)
  rw [hset] at hP1 hD1
  exact k H1 locs1 arr hl hn ⟨va, cap, hP1, hD1, hg.up (Or.inl (by decide))⟩ hS1
/-! the digits' tables -/
theorem sw_getD (C : zOK G X M d mc ms) {idx q : Nat} {nm : String} (hq : (q = 350 ∧ nm = "DigitOnes") ∨ (q = 351 ∧ nm = "DigitTens")) (hw : Cond.fieldLink M.1.cls idx "java/lang/Integer" nm "[B" ∈ lw_tbl) (hd : decode M.2.1 pc = .ok (.getstatic idx, 3)) (k : SW G X a b (pc + 3) ls (.ref q :: st) I J E) : SW G X a b pc ls st I J E := by
  obtain ⟨p, l, e, R, s, m, args, below, meth, c, Q⟩ := X
  intro H locs arr hl hn hR hS
  obtain ⟨hx, hb, hml, hown, hlk, hrt, ⟨hT, hK, -, -, -, -, hfr⟩, -⟩ := id C
  obtain ⟨-, -, -, -, ⟨⟨h5, h6⟩, ⟨h7, h8⟩⟩, -⟩ := hfr
  rcases hq with ⟨rfl, rfl⟩ | ⟨rfl, rfl⟩
  · exact va_gets hx hb h5 hS hown (hT _ hw rfl args) (fun _ h => h) hd (k H locs arr hl hn hR hS)
  · exact va_gets hx hb h7 hS hown (hT _ hw rfl args) (fun _ h => h) hd (k H locs arr hl hn hR hS)
theorem sw_digB (C : zOK G X M d mc ms) {q i v : Nat} (hq : (q = 350 ∧ v = 48 + i % 10) ∨ (q = 351 ∧ v = 48 + i / 10)) (hi : i < 100) (hd : decode M.2.1 pc = .ok (.baload, 1)) (k : SW G X a b (pc + 1) ls (zi v :: st) I J E) : SW G X a b pc ls (zi i :: .ref q :: st) I J E := by
  obtain ⟨p, l, e, R, s, m, args, below, meth, c, Q⟩ := X
  intro H locs arr hl hn hR hS
  obtain ⟨hx, hb, hml, hown, hlk, hrt, ⟨hT, hK, -, -, -, -, hfr⟩, -⟩ := id C
  obtain ⟨-, -, -, -, ⟨⟨h5, h6⟩, ⟨h7, h8⟩⟩, -⟩ := hfr
  rcases hq with ⟨rfl, rfl⟩ | ⟨rfl, rfl⟩
  · refine va_tb hx hb h6 hS (i := nI i) (vp_in_nI hi (by decide)) (v := .int (nI (48 + i % 10))) ?_ hd (k H locs arr hl hn hR hS)
    rw [nI_clamp (by omega)]
  · refine va_tb hx hb h8 hS (i := nI i) (vp_in_nI hi (by decide)) (v := .int (nI (48 + i / 10))) ?_ hd (k H locs arr hl hn hR hS)
    rw [nI_clamp (by omega)]
end ZSB
