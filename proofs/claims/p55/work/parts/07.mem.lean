/-! the ints of the world -/
def zUp (I : zI) (o j : Nat) (x : Int32) : zI := fun a b => if a = o ∧ b = j then x else I a b
theorem zUp_s {I : zI} {o j : Nat} {x : Int32} : zUp I o j x o j = x := by simp [zUp]
theorem zUp_o {I : zI} {o j a b : Nat} {x : Int32} (h : a ≠ o) : zUp I o j x a b = I a b := by simp [zUp, h]
theorem zUp_j {I : zI} {o j a b : Nat} {x : Int32} (h : b ≠ j) : zUp I o j x a b = I a b := by simp [zUp, h]
theorem zUp_at {I : zI} {o j b : Nat} {x : Int32} : zUp I o j x o b = if b = j then x else I o b := by simp [zUp]
theorem zUp_row {I : zI} {o j : Nat} {x : Int32} : zUp I o j x o = upd (I o) j x := by funext b; simp [zUp, upd]
theorem zUp_off {I : zI} {o j a : Nat} {x : Int32} (h : a ≠ o) : zUp I o j x a = I a := by funext b; simp [zUp, h]
theorem zGh.up {G : zG} {va cap o j : Nat} {I : zI} {x : Int32} (h : zGh G va cap I) (hne : o ≠ 10 ∨ j ≠ 99) : zGh G va cap (zUp I o j x) := by
  refine ⟨h.1.trans ?_, h.2⟩
  unfold zCap
  rcases hne with hne | hne
  · rw [zUp_o (Ne.symm hne)]
  · rw [zUp_j (Ne.symm hne)]
theorem zSh_ne10 {o n k : Nat} (h : zSh o = (k, n)) (hk : k ≠ 0) : o ≠ 10 := by
  intro e
  subst e
  exact hk (congrArg Prod.fst h).symm
theorem zNf_le {ci : Nat} : zNf ci ≤ 21 := by unfold zNf; split <;> decide
theorem zEnt_congr {G : zG} {va cap : Nat} {I I' : zI} {J : Int64} {E : UInt64} {o : Nat} (h : I' o = I o) : zEnt G va cap I' J E o = zEnt G va cap I J E o := by
  unfold zEnt zFv
  rw [h]
theorem zW_set {G : zG} {va cap : Nat} {I I' : zI} {J J' : Int64} {E E' : UInt64} {o : Nat} {e : va_E} (ho2 : o < 12 ∨ 25 ≤ o) (he : zEnt G va cap I' J' E' o = e) (hne : ∀ q, q < zN → q ≠ o → zEnt G va cap I' J' E' q = zEnt G va cap I J E q) : (zW G va cap I J E).set (zIx o) (zAd G.2.2.1 va o, e) = zW G va cap I' J' E' := by
  apply List.ext_getElem?
  intro k
  by_cases hz : k < 188
  · by_cases hk : k = zIx o
    · subst hk
      rw [List.getElem?_set_self (by rw [zW_len]; exact hz), zW_at hz, zO_ix ho2, he]
    · rw [List.getElem?_set_ne (fun h => hk h.symm), zW_at hz, zW_at hz, hne _ (zO_lt hz).1 (fun h => hk (by rw [← h, zIx_o]))]
  · rw [List.getElem?_eq_none (by rw [List.length_set, zW_len]; omega), List.getElem?_eq_none (by rw [zW_len]; omega)]
theorem zAd_ne {φ : Nat → Nat} {va o : Nat} (h : o ≠ 11) : zAd φ va o = φ o := by simp [zAd, h]
theorem zSh_ne {o n k : Nat} (h : zSh o = (k, n)) (hk : k ≠ 3) : o ≠ 11 := by
  intro e
  subst e
  exact hk (congrArg Prod.fst h).symm
/-! classes and their fields -/
def zCls (ci : Nat) : vw_C := match ci with
  | 0 => (RJ0, TJ0, 4) | 1 => (RJ4, TJ4, 4) | 4 => (RX0, TX0, 3) | 5 => (RX1, TX1, 5) | 6 => (RX2, TX2, 6) | 7 => (RX3, TX3, 8) | 8 => (RX4, TX4, 11) | 9 => (RX5, TX5, 10) | _ => (RX6, TX6, 1)
def zCk (ci : Nat) : Prop := vwCl[ci]? = some (zCls ci) ∧ zNf ci = (zCls ci).2.2 ∧ (∀ w ∈ u_ws (zCls ci).1 (zCls ci).2.1 (zCls ci).2.2, w ∈ lw_tbl ∧ zGood w = true) ∧ (∀ k, k < (zCls ci).2.2 → parseFieldDescriptor ((zCls ci).2.1 k).2.2.1 = some (zTy ci k)) ∧ (∀ a, a < (zCls ci).2.2 → ∀ b, b < (zCls ci).2.2 → a ≠ b → ((zCls ci).2.1 a).2.1 ≠ ((zCls ci).2.1 b).2.1)
def zFld (own : String) (idx ci k : Nat) : Prop := zCk ci ∧ k < zNf ci ∧ ((Cond.fieldLink own idx ((zCls ci).2.1 k).1 ((zCls ci).2.1 k).2.1 ((zCls ci).2.1 k).2.2.1) ∈ lw_tbl ∨ ∃ host : String, (Cond.fieldLinkNest own idx ((zCls ci).2.1 k).1 ((zCls ci).2.1 k).2.1 ((zCls ci).2.1 k).2.2.1 host) ∈ lw_tbl)
theorem zEnt_obj {G : zG} {va cap : Nat} {I : zI} {J : Int64} {E : UInt64} {o ci : Nat} (h : zSh o = (0, ci)) : zEnt G va cap I J E o = .inr (ci, (List.range (zNf ci)).map (zFv G.2.2.1 va I o ci)) := by
  unfold zEnt; rw [h]; rfl
theorem zEnt_int {G : zG} {va cap : Nat} {I : zI} {J : Int64} {E : UInt64} {o n : Nat} (h : zSh o = (1, n)) : zEnt G va cap I J E o = .inl (G.2.1 1, n, .inl (I o)) := by
  have ho := zSh_ne h (by decide)
  unfold zEnt; rw [h]; simp [ho]
theorem zEnt_char {G : zG} {va cap : Nat} {I : zI} {J : Int64} {E : UInt64} {o n : Nat} (h : zSh o = (2, n)) : zEnt G va cap I J E o = .inl (G.2.1 2, n, .inl (I o)) := by
  have ho := zSh_ne h (by decide)
  unfold zEnt; rw [h]; simp [ho]
theorem zEnt_ref {G : zG} {va cap : Nat} {I : zI} {J : Int64} {E : UInt64} {o k n : Nat} (h : zSh o = (k, n)) (hk : k = 4 ∨ k = 5) : zEnt G va cap I J E o = .inl (G.2.1 k, n, .inr (.inr (.inr (.inr (fun j => (zP o j).map (zAd G.2.2.1 va)))))) := by
  rcases hk with rfl | rfl <;> (unfold zEnt; rw [h]; rfl)
theorem zEnt_lng {G : zG} {va cap : Nat} {I : zI} {J : Int64} {E : UInt64} {o n : Nat} (h : zSh o = (6, n)) : zEnt G va cap I J E o = .inl (G.2.1 6, n, .inr (.inl (fun _ => J))) := by
  unfold zEnt; rw [h]; rfl
theorem zEnt_dbl {G : zG} {va cap : Nat} {I : zI} {J : Int64} {E : UInt64} {o n : Nat} (h : zSh o = (7, n)) : zEnt G va cap I J E o = .inl (G.2.1 7, n, .inr (.inr (.inr (.inl (fun _ => E))))) := by
  unfold zEnt; rw [h]; rfl
section ZR
variable {G : zG} {X : zX} {M : zM} {d mc ms a b pc : Nat} {ls : List (Option Value)} {st : List Value} {I : zI} {J : Int64} {E : UInt64}
theorem sw_getI (C : zOK G X M d mc ms) {o ci j idx : Nat} (hF : zFld M.1.cls idx ci j) (hs : zSh o = (0, ci)) (ho : o < zN) (ht : zIsR (zTy ci j) = false) (hd : decode M.2.1 pc = .ok (.getfield idx, 3)) (k : SW G X a b (pc + 3) ls (.int (I o j) :: st) I J E) : SW G X a b pc ls (.ref o :: st) I J E := by
  obtain ⟨p, l, e, R, s, m, args, below, meth, c, Q⟩ := X
  intro H locs arr hl hn hR hS
  obtain ⟨hx, hb, hml, hown, hlk, hr, ⟨hT, hK, -⟩, -⟩ := id C
  obtain ⟨⟨hc, hN, hws, -⟩, hj, hlink⟩ := hF
  obtain ⟨va, cap, hP, hD⟩ := id hR
  have hj2 : j < (zCls ci).2.2 := hN ▸ hj
  have hin : ∀ w ∈ u_ws (zCls ci).1 (zCls ci).2.1 (zCls ci).2.2, w ∈ u_ws (zCls ci).1 (zCls ci).2.1 (zCls ci).2.2 := fun w h => h
  have hts : ∀ w ∈ u_ws (zCls ci).1 (zCls ci).2.1 (zCls ci).2.2, w.before args s = true := fun w h => hT w (hws w h).1 (hws w h).2 args
  have he := zW_get (G := G) (va := va) (cap := cap) (I := I) (J := J) (E := E) ho (zSh_in hs (by first | decide | omega))
  rw [zEnt_obj hs, zAd_ne (zSh_ne hs (by decide))] at he
  have hv : ((List.range (zNf ci)).map (zFv G.2.2.1 va I o ci))[j]? = some (.int (I o j)) := by
    simp [hj, zFv, ht]
  have kk := k H locs arr hl hn hR hS
  rcases hlink with h | ⟨host, h⟩
  · exact va_get hx hb hts hin hown hK hP (zIx o) he hc j hj2 (hT _ h rfl args) (fun _ h => h) hv hd kk
  · exact va_getN hx hb hts hin hown hK hP (zIx o) he hc j hj2 (hT _ h rfl args) (fun _ h => h) hv hd kk
theorem sw_getR (C : zOK G X M d mc ms) {o o' ci j idx : Nat} (hF : zFld M.1.cls idx ci j) (hs : zSh o = (0, ci)) (ho : o < zN) (ht : zIsR (zTy ci j) = true) (hp : zP o j = some o') (ho' : o' ≠ 11) (hd : decode M.2.1 pc = .ok (.getfield idx, 3)) (k : SW G X a b (pc + 3) ls (.ref o' :: st) I J E) : SW G X a b pc ls (.ref o :: st) I J E := by
  obtain ⟨p, l, e, R, s, m, args, below, meth, c, Q⟩ := X
  intro H locs arr hl hn hR hS
  obtain ⟨hx, hb, hml, hown, hlk, hr, ⟨hT, hK, -⟩, -⟩ := id C
  obtain ⟨⟨hc, hN, hws, -⟩, hj, hlink⟩ := hF
  obtain ⟨va, cap, hP, hD⟩ := id hR
  have hj2 : j < (zCls ci).2.2 := hN ▸ hj
  have hin : ∀ w ∈ u_ws (zCls ci).1 (zCls ci).2.1 (zCls ci).2.2, w ∈ u_ws (zCls ci).1 (zCls ci).2.1 (zCls ci).2.2 := fun w h => h
  have hts : ∀ w ∈ u_ws (zCls ci).1 (zCls ci).2.1 (zCls ci).2.2, w.before args s = true := fun w h => hT w (hws w h).1 (hws w h).2 args
  have he := zW_get (G := G) (va := va) (cap := cap) (I := I) (J := J) (E := E) ho (zSh_in hs (by first | decide | omega))
  rw [zEnt_obj hs, zAd_ne (zSh_ne hs (by decide))] at he
  have hv : ((List.range (zNf ci)).map (zFv G.2.2.1 va I o ci))[j]? = some (.ref (G.2.2.1 o')) := by
    simp [hj, zFv, ht, hp, va_rf, zAd_ne ho']
  have kk := k H locs arr hl hn hR hS
  rcases hlink with h | ⟨host, h⟩
  · exact va_get hx hb hts hin hown hK hP (zIx o) he hc j hj2 (hT _ h rfl args) (fun _ h => h) hv hd kk
  · exact va_getN hx hb hts hin hown hK hP (zIx o) he hc j hj2 (hT _ h rfl args) (fun _ h => h) hv hd kk
theorem zSet_obj {va cap o ci j : Nat} {x : Int32} (hs : zSh o = (0, ci)) (ht : zIsR (zTy ci j) = false) (hj : j < zNf ci) : (zW G va cap I J E).set (zIx o) (zAd G.2.2.1 va o, .inr (ci, ((List.range (zNf ci)).map (zFv G.2.2.1 va I o ci)).set j (.int x))) = zW G va cap (zUp I o j x) J E := by
  refine zW_set (zSh_in hs (by decide)) ?_ (fun q _ hq => zEnt_congr (zUp_off hq))
  rw [zEnt_obj hs]
  congr 2
  apply List.ext_getElem?
  intro k
  by_cases hk : k = j
  · subst hk
    rw [List.getElem?_set_self (by simpa using hj)]
    simp [hj, zFv, ht, zUp_s]
  · rw [List.getElem?_set_ne (fun h => hk h.symm)]
    simp only [List.getElem?_map]
    cases hkr : (List.range (zNf ci))[k]? with
    | none => rfl
    | some y =>
      have hy : y = k := by
        have := List.getElem?_eq_some_iff.mp hkr
        obtain ⟨h1, h2⟩ := this
        simpa using h2.symm
      subst hy
      simp [zFv, zUp_j hk]
theorem sw_putI (C : zOK G X M d mc ms) {o ci j idx : Nat} {x : Int32} {ty : FieldType} (hF : zFld M.1.cls idx ci j) (hs : zSh o = (0, ci)) (ho : o < zN) (ht : zTy ci j = ty) (hr : zIsR ty = false) (hfin : ((zCls ci).2.1 j).2.2.2 = false) (hn0 : narrow ty (.int x) = .int x) (hft : fits ty (.int x) = true) (hd : decode M.2.1 pc = .ok (.putfield idx, 3)) (k : SW G X a b (pc + 3) ls st (zUp I o j x) J E) : SW G X a b pc ls (.int x :: .ref o :: st) I J E := by
  obtain ⟨p, l, e, R, s, m, args, below, meth, c, Q⟩ := X
  intro H locs arr hl hn hR hS
  obtain ⟨hx, hb, hml, hown, hlk, hrt, ⟨hT, hK, -⟩, -⟩ := id C
  obtain ⟨⟨hc, hN, hws, hty, hnm⟩, hj, hlink⟩ := hF
  obtain ⟨va, cap, hP, hD, hg⟩ := id hR
  have hj2 : j < (zCls ci).2.2 := hN ▸ hj
  have hin : ∀ w ∈ u_ws (zCls ci).1 (zCls ci).2.1 (zCls ci).2.2, w ∈ u_ws (zCls ci).1 (zCls ci).2.1 (zCls ci).2.2 := fun w h => h
  have hts : ∀ w ∈ u_ws (zCls ci).1 (zCls ci).2.1 (zCls ci).2.2, w.before args s = true := fun w h => hT w (hws w h).1 (hws w h).2 args
  have he := zW_get (G := G) (va := va) (cap := cap) (I := I) (J := J) (E := E) ho (zSh_in hs (by first | decide | omega))
  have hset := zSet_obj (G := G) (va := va) (cap := cap) (I := I) (J := J) (E := E) (x := x) hs (by rw [ht]; exact hr) hj
  rw [zAd_ne (zSh_ne hs (by decide))] at he hset
  rw [zEnt_obj hs] at he
  have kk : ∀ (H1 : Heap) (locs1 : List Loc), va_P G.1 vwCl ((zW G va cap I J E).set (zIx o) (G.2.2.1 o, .inr (ci, ((List.range (zNf ci)).map (zFv G.2.2.1 va I o ci)).set j (.int x)))) H1 → va_D (zA G) ((zW G va cap I J E).set (zIx o) (G.2.2.1 o, .inr (ci, ((List.range (zNf ci)).map (zFv G.2.2.1 va I o ci)).set j (.int x)))) → va_S (zA G) s.heap H1 locs1 → W p l e R s m args below meth c H1 locs1 a b Q (F0 m (pc + 3) arr (st.map (zTr G.2.2.1))) := by
    intro H1 locs1 hP1 hD1 hS1
    rw [hset] at hP1 hD1
    exact k H1 locs1 arr hl hn ⟨va, cap, hP1, hD1, hg.up (Or.inr (by have := zNf_le (ci := ci); omega))⟩ hS1
  rcases hlink with h | ⟨host, h⟩
  · exact va_put hx hb hts hin (zTy ci) hty hnm hown hK hP hD hS (zIx o) he hc j hj2 (hT _ h rfl args) (fun _ h => h) hfin (ht ▸ hty j hj2) hn0 hft (by simpa using hj) hd kk
  · exact va_putN hx hb hts hin (zTy ci) hty hnm hown hK hP hD hS (zIx o) he hc j hj2 (hT _ h rfl args) (fun _ h => h) hfin (ht ▸ hty j hj2) hn0 hft (by simpa using hj) hd kk
theorem sw_iald (C : zOK G X M d mc ms) {o n : Nat} {i : Int32} (hs : zSh o = (1, n)) (ho : o < zN) (hin : vp_in i n) (hd : decode M.2.1 pc = .ok (.iaload, 1)) (k : SW G X a b (pc + 1) ls (.int (I o i.toNatClampNeg) :: st) I J E) : SW G X a b pc ls (.int i :: .ref o :: st) I J E := by
  obtain ⟨p, l, e, R, s, m, args, below, meth, c, Q⟩ := X
  intro H locs arr hl hn hR hS
  obtain ⟨hx, hb, hml, hown, hlk, hrt, ⟨hT, hK, -⟩, -⟩ := id C
  obtain ⟨va, cap, hP, hD⟩ := id hR
  have he := zW_get (G := G) (va := va) (cap := cap) (I := I) (J := J) (E := E) ho (zSh_in hs (by first | decide | omega))
  rw [zAd_ne (zSh_ne hs (by decide)), zEnt_int hs] at he
  exact va_iald hx hb hK hP (zIx o) 0 he (zTys_get (by decide)) hin hd (k H locs arr hl hn hR hS)
theorem sw_iast (C : zOK G X M d mc ms) {o n : Nat} {i x : Int32} (hs : zSh o = (1, n)) (ho : o < zN) (hin : vp_in i n) (hd : decode M.2.1 pc = .ok (.iastore, 1)) (k : SW G X a b (pc + 1) ls st (zUp I o i.toNatClampNeg x) J E) : SW G X a b pc ls (.int x :: .int i :: .ref o :: st) I J E := by
  obtain ⟨p, l, e, R, s, m, args, below, meth, c, Q⟩ := X
  intro H locs arr hl hn hR hS
  obtain ⟨hx, hb, hml, hown, hlk, hrt, ⟨hT, hK, -⟩, -⟩ := id C
  obtain ⟨va, cap, hP, hD, hg⟩ := id hR
  have he := zW_get (G := G) (va := va) (cap := cap) (I := I) (J := J) (E := E) ho (zSh_in hs (by first | decide | omega))
  have hset : (zW G va cap I J E).set (zIx o) (zAd G.2.2.1 va o, .inl (G.2.1 1, n, .inl (upd (I o) i.toNatClampNeg x))) = zW G va cap (zUp I o i.toNatClampNeg x) J E := zW_set (zSh_in hs (by decide)) (by rw [zEnt_int hs, zUp_row]) (fun q _ hq => zEnt_congr (zUp_off hq))
  rw [zAd_ne (zSh_ne hs (by decide))] at he hset
  rw [zEnt_int hs] at he
  refine va_iast hx hb hK hP hD hS (zIx o) 0 he (zTys_get (by decide)) hin hd (fun H1 locs1 hP1 hD1 hS1 => ?_)
  rw [hset] at hP1 hD1
  exact k H1 locs1 arr hl hn ⟨va, cap, hP1, hD1, hg.up (Or.inl (zSh_ne10 hs (by decide)))⟩ hS1
theorem sw_cald (C : zOK G X M d mc ms) {o n : Nat} {i : Int32} (hs : zSh o = (2, n)) (ho : o < zN) (hin : vp_in i n) (hd : decode M.2.1 pc = .ok (.caload, 1)) (k : SW G X a b (pc + 1) ls (.int (I o i.toNatClampNeg) :: st) I J E) : SW G X a b pc ls (.int i :: .ref o :: st) I J E := by
  obtain ⟨p, l, e, R, s, m, args, below, meth, c, Q⟩ := X
  intro H locs arr hl hn hR hS
  obtain ⟨hx, hb, hml, hown, hlk, hrt, ⟨hT, hK, -⟩, -⟩ := id C
  obtain ⟨va, cap, hP, hD⟩ := id hR
  have he := zW_get (G := G) (va := va) (cap := cap) (I := I) (J := J) (E := E) ho (zSh_in hs (by first | decide | omega))
  rw [zAd_ne (zSh_ne hs (by decide)), zEnt_char hs] at he
  exact va_cald hx hb hK hP (zIx o) 1 he (zTys_get (by decide)) hin hd (k H locs arr hl hn hR hS)
theorem sw_cast (C : zOK G X M d mc ms) {o n : Nat} {i x : Int32} (hs : zSh o = (2, n)) (ho : o < zN) (hin : vp_in i n) (hd : decode M.2.1 pc = .ok (.castore, 1)) (k : SW G X a b (pc + 1) ls st (zUp I o i.toNatClampNeg (vp_nar .char x)) J E) : SW G X a b pc ls (.int x :: .int i :: .ref o :: st) I J E := by
  obtain ⟨p, l, e, R, s, m, args, below, meth, c, Q⟩ := X
  intro H locs arr hl hn hR hS
  obtain ⟨hx, hb, hml, hown, hlk, hrt, ⟨hT, hK, -⟩, -⟩ := id C
  obtain ⟨va, cap, hP, hD, hg⟩ := id hR
  have he := zW_get (G := G) (va := va) (cap := cap) (I := I) (J := J) (E := E) ho (zSh_in hs (by first | decide | omega))
  have hset : (zW G va cap I J E).set (zIx o) (zAd G.2.2.1 va o, .inl (G.2.1 2, n, .inl (upd (I o) i.toNatClampNeg (vp_nar .char x)))) = zW G va cap (zUp I o i.toNatClampNeg (vp_nar .char x)) J E := zW_set (zSh_in hs (by decide)) (by rw [zEnt_char hs, zUp_row]) (fun q _ hq => zEnt_congr (zUp_off hq))
  rw [zAd_ne (zSh_ne hs (by decide))] at he hset
  rw [zEnt_char hs] at he
  refine va_cast hx hb hK hP hD hS (zIx o) 1 he (zTys_get (by decide)) hin hd (fun H1 locs1 hP1 hD1 hS1 => ?_)
  rw [hset] at hP1 hD1
  exact k H1 locs1 arr hl hn ⟨va, cap, hP1, hD1, hg.up (Or.inl (zSh_ne10 hs (by decide)))⟩ hS1
theorem sw_aald (C : zOK G X M d mc ms) {o o' n : Nat} {i : Int32} {kd : Nat} (hs : zSh o = (kd, n)) (hkd : kd = 4 ∨ kd = 5) (ho : o < zN) (hin : vp_in i n) (hp : zP o i.toNatClampNeg = some o') (ho' : o' ≠ 11) (hd : decode M.2.1 pc = .ok (.aaload, 1)) (k : SW G X a b (pc + 1) ls (.ref o' :: st) I J E) : SW G X a b pc ls (.int i :: .ref o :: st) I J E := by
  obtain ⟨p, l, e, R, s, m, args, below, meth, c, Q⟩ := X
  intro H locs arr hl hn hR hS
  obtain ⟨hx, hb, hml, hown, hlk, hrt, ⟨hT, hK, -⟩, -⟩ := id C
  obtain ⟨va, cap, hP, hD⟩ := id hR
  have he := zW_get (G := G) (va := va) (cap := cap) (I := I) (J := J) (E := E) ho (zSh_in hs (by first | decide | omega))
  rw [zAd_ne (zSh_ne hs (by omega)), zEnt_ref hs hkd] at he
  have kk := k H locs arr hl hn hR hS
  have e1 : (F0 m (pc + 1) arr (va_rf ((fun j => (zP o j).map (zAd G.2.2.1 va)) i.toNatClampNeg) :: st.map (zTr G.2.2.1))) = F0 m (pc + 1) arr ((Value.ref o' :: st).map (zTr G.2.2.1)) := by
    simp [hp, va_rf, zTr, zAd_ne ho']
  rcases hkd with rfl | rfl
  · exact va_aldq hx hb hK hP (zIx o) 3 he (zTys_get (by decide)) hin hd (e1 ▸ kk)
  · exact va_aldq hx hb hK hP (zIx o) 4 he (zTys_get (by decide)) hin hd (e1 ▸ kk)
end ZR
