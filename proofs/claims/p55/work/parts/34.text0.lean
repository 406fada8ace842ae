/-! constant strings: the forms -/
def zFch (k i : Nat) : Nat := ((zFbyt.getD k []).getD i 0).toNatClampNeg
def zFl (k : Nat) : Nat := zFlen.getD k 0
theorem zFch_eq : ∀ k : Fin 10, ∀ i : Fin 10, i.val < zFl k.val → (zFbyt.getD k.val []).getD i.val 0 = nI (zFch k.val i.val) ∧ zFch k.val i.val < 128 := by decide +kernel
theorem zFl_le : ∀ k : Fin 10, zFl k.val ≤ 10 := by decide +kernel
theorem wStrV : Cond.fieldLink "java/lang/String" 9 "java/lang/String" "value" "[B" ∈ lw_tbl := List.mem_of_getElem? (i := 1009) (by decide +kernel)
theorem wStrC : Cond.fieldLink "java/lang/String" 15 "java/lang/String" "coder" "B" ∈ lw_tbl := List.mem_of_getElem? (i := 1010) (by decide +kernel)
theorem wStrS : Cond.fieldLink "java/lang/String" 38 "java/lang/String" "COMPACT_STRINGS" "Z" ∈ lw_tbl := List.mem_of_getElem? (i := 893) (by decide +kernel)
theorem wStrF : Cond.fieldLink "java/lang/String" 1053 zPC "SIOOBE_FORMATTER" zPD ∈ lw_tbl := List.mem_of_getElem? (i := 871) (by decide +kernel)
section ZX
variable {G : zG} {X : zX} {M : zM} {d mc ms a b pc : Nat} {ls : List (Option Value)} {st : List Value} {I : zI} {S : zS} {J : Int64} {E : UInt64}
theorem sw_ldcF (C : zOK G X M d mc ms) {k : Nat} (hk : k < 10) (hM : M.1.cls = "RumourHives$Script") (hd : decode M.2.1 pc = .ok (.ldc (59 + 2 * k), 2)) (kk : SW G X a b (pc + 2) ls (.ref (300 + k) :: st) I J E) : SW G X a b pc ls st I J E := by
  obtain ⟨p, l, e, R, s, m, args, below, meth, c, Q⟩ := X
  intro H locs arr hl hn hR hS
  obtain ⟨hx, hb, hml, hown, hlk, hrt, ⟨hT, hK, -, -, -, -, hfr⟩, -⟩ := id C
  rw [hM] at hown
  exact va_ldcS hx hb hown (hfr.1 k hk) hd (kk H locs arr hl hn hR hS)
theorem sw_aret (C : zOK G X M d mc ms) {o : Nat} {I' : zI} {J' : Int64} {E' : UInt64} {ty : FieldType} (hr : M.2.2.2 = some ty) (hty : zIsR ty = true) (hF : zFin G X mc ms (some (.ref o)) I' J' E') (hd : decode M.2.1 pc = .ok (.areturn, 1)) (ha : a ≤ mc) (hb : b ≤ ms) (e2 : I = I') (e3 : J = J') (e4 : E = E') : SW G X a b pc ls [.ref o] I J E := by
  obtain ⟨p, l, e, R, s, m, args, below, meth, c, Q⟩ := X
  subst e2; subst e3; subst e4
  intro H locs arr hl hn hR hS
  have hQ : Q = MQ below (zQc G (some (.ref o)) I J E) args s mc ms (zA G) := hF
  subst hQ
  refine W.widen ha hb ?_
  refine W.aret C.1 C.2.1 (C.2.2.2.2.2.1.trans hr) ?_ (Or.inr ⟨_, rfl⟩) (fun t ht hw => ⟨rfl, by rw [ht]; exact hR, hS.F ht⟩) (fun q hq => hS.2.2 q hq) hd C.2.2.2.2.1
  cases ty <;> first | exact Or.inl ⟨_, rfl⟩ | exact Or.inr ⟨_, rfl⟩ | cases hty
theorem sw_strV (C : zOK G X M d mc ms) {k : Nat} (hk : k < 10) (hM : M.1.cls = "java/lang/String") (hd : decode M.2.1 pc = .ok (.getfield 9, 3)) (kk : SW G X a b (pc + 3) ls (.ref (320 + k) :: st) I J E) : SW G X a b pc ls (.ref (300 + k) :: st) I J E := by
  obtain ⟨p, l, e, R, s, m, args, below, meth, c, Q⟩ := X
  intro H locs arr hl hn hR hS
  obtain ⟨hx, hb, hml, hown, hlk, hrt, ⟨hT, hK, -, -, -, -, hfr⟩, -⟩ := id C
  rw [hM] at hown
  exact vk_getf hx hb (hfr.2.1.1 k hk).2.2.1 hS hown (hT _ wStrV rfl args) (fun _ h => h) hd (kk H locs arr hl hn hR hS)
theorem sw_strC (C : zOK G X M d mc ms) {k : Nat} (hk : k < 10) (hM : M.1.cls = "java/lang/String") (hd : decode M.2.1 pc = .ok (.getfield 15, 3)) (kk : SW G X a b (pc + 3) ls (.int 0 :: st) I J E) : SW G X a b pc ls (.ref (300 + k) :: st) I J E := by
  obtain ⟨p, l, e, R, s, m, args, below, meth, c, Q⟩ := X
  intro H locs arr hl hn hR hS
  obtain ⟨hx, hb, hml, hown, hlk, hrt, ⟨hT, hK, -, -, -, -, hfr⟩, -⟩ := id C
  rw [hM] at hown
  exact vk_getf hx hb (hfr.2.1.1 k hk).2.1 hS hown (hT _ wStrC rfl args) (fun _ h => h) hd (kk H locs arr hl hn hR hS)
theorem sw_getCS (C : zOK G X M d mc ms) {idx : Nat} (hw : Cond.fieldLink M.1.cls idx "java/lang/String" "COMPACT_STRINGS" "Z" ∈ lw_tbl) (hd : decode M.2.1 pc = .ok (.getstatic idx, 3)) (kk : SW G X a b (pc + 3) ls (.int 1 :: st) I J E) : SW G X a b pc ls st I J E := by
  obtain ⟨p, l, e, R, s, m, args, below, meth, c, Q⟩ := X
  intro H locs arr hl hn hR hS
  obtain ⟨hx, hb, hml, hown, hlk, hrt, ⟨hT, hK, -, -, -, -, hfr⟩, -⟩ := id C
  exact va_gets hx hb hfr.2.2.1 hS hown (hT _ hw rfl args) (fun _ h => h) hd (kk H locs arr hl hn hR hS)
theorem sw_getFmt (C : zOK G X M d mc ms) {idx : Nat} (hw : Cond.fieldLink M.1.cls idx zPC "SIOOBE_FORMATTER" zPD ∈ lw_tbl) (hd : decode M.2.1 pc = .ok (.getstatic idx, 3)) (kk : ∀ v : Value, v = .null ∨ v = .ref 340 → SW G X a b (pc + 3) ls (v :: st) I J E) : SW G X a b pc ls st I J E := by
  obtain ⟨p, l, e, R, s, m, args, below, meth, c, Q⟩ := X
  intro H locs arr hl hn hR hS
  obtain ⟨hx, hb, hml, hown, hlk, hrt, ⟨hT, hK, -, -, -, -, hfr⟩, -⟩ := id C
  rcases hfr.2.2.2.1 with h | h
  · exact va_gets hx hb h hS hown (hT _ hw rfl args) (fun _ h => h) hd (kk .null (Or.inl rfl) H locs arr hl hn hR hS)
  · exact va_gets hx hb h hS hown (hT _ hw rfl args) (fun _ h => h) hd (kk (.ref 340) (Or.inr rfl) H locs arr hl hn hR hS)
theorem sw_strL (C : zOK G X M d mc ms) {k : Nat} (hk : k < 10) (hd : decode M.2.1 pc = .ok (.arraylength, 1)) (kk : SW G X a b (pc + 1) ls (zi (zFl k) :: st) I J E) : SW G X a b pc ls (.ref (320 + k) :: st) I J E := by
  obtain ⟨p, l, e, R, s, m, args, below, meth, c, Q⟩ := X
  intro H locs arr hl hn hR hS
  obtain ⟨hx, hb, hml, hown, hlk, hrt, ⟨hT, hK, -, -, -, -, hfr⟩, -⟩ := id C
  exact va_tlen hx hb (hfr.2.1.1 k hk).2.2.2 hS (v := nI (zFl k)) rfl hd (kk H locs arr hl hn hR hS)
theorem sw_strB (C : zOK G X M d mc ms) {k i : Nat} (hk : k < 10) (hi : i < zFl k) (hd : decode M.2.1 pc = .ok (.baload, 1)) (kk : SW G X a b (pc + 1) ls (zi (zFch k i) :: st) I J E) : SW G X a b pc ls (zi i :: .ref (320 + k) :: st) I J E := by
  obtain ⟨p, l, e, R, s, m, args, below, meth, c, Q⟩ := X
  intro H locs arr hl hn hR hS
  obtain ⟨hx, hb, hml, hown, hlk, hrt, ⟨hT, hK, -, -, -, -, hfr⟩, -⟩ := id C
  have hle : zFl k ≤ 10 := zFl_le ⟨k, hk⟩
  have hc := zFch_eq ⟨k, hk⟩ ⟨i, by omega⟩ hi
  refine va_tb hx hb (hfr.2.1.1 k hk).2.2.2 hS (i := nI i) (vp_in_nI hi (show zFl k < 2 ^ 31 by omega)) (v := .int (nI (zFch k i))) ?_ hd (kk H locs arr hl hn hR hS)
  rw [nI_clamp (by omega)]
  exact congrArg Value.int hc.1
/-- a call on a constant string -/
theorem sw_callVX (C : zOK G X M d mc ms) {M' : zM} {d' mc' ms' n k idx : Nat} {as : List Value} {r : Option Value} {I' : zI} {J' : Int64} {E' : UInt64} (hM : zMeV M' n) (hL : zLk M.1.cls idx M'.1) (hk : k < 10) (hC : M'.1.cls = "java/lang/String") (hd : decode M.2.1 pc = .ok (.invokevirtual idx, 3)) (hn0 : as.length = n) (hr : (st.map (fun v => v.category)).sum ≤ 8) (h : zCR X.2.1 G M' d' mc' ms' (.ref (300 + k) :: as) I J E r I' J' E') (hdd : d' + 1 ≤ d) (ha : a + mc' ≤ mc) (hb : b + ms' ≤ ms) (kk : SW G X (a + mc') (b + ms') (pc + 3) ls (r.toList ++ st) I' J' E') : SW G X a b pc ls (as.reverse ++ .ref (300 + k) :: st) I J E := by
  obtain ⟨p, l, e, R, s, m, args, below, meth, c, Q⟩ := X
  intro H locs arr hl hn hR hS
  obtain ⟨hx, hbb, hml, hown, hlk, hrt, hF, hRm, hfl⟩ := id C
  have hRm : R = zRm d mc ms := hRm
  subst hRm
  obtain ⟨hMB, hMi, hMs⟩ := hM
  obtain ⟨hw1, hw2, hne, hpar, hmx⟩ := id hMB
  have hT := hF.1
  have hcat : (((st.map (zTr G.2.2.1))).map fun v => v.category).sum ≤ 8 := by
    rw [List.map_map]
    rw [show ((fun v : Value => v.category) ∘ zTr G.2.2.1) = (fun v => v.category) from funext (fun v => zTr_cat _ v)]
    exact hr
  have hstk : (as.reverse ++ Value.ref (300 + k) :: st).map (zTr G.2.2.1) = (as.map (zTr G.2.2.1)).reverse ++ Value.ref (G.2.2.1 (300 + k)) :: st.map (zTr G.2.2.1) := by simp [zTr]
  have hfr := hF.2.2.2.2.2.2
  have hrecv := vk_recv hfr.2.1 hk hS
  have hpre : PreV s H M'.1.cls (G.2.2.1 (300 + k)) (zPc G (.ref (300 + k) :: as) I J E) (as.map (zTr G.2.2.1)) :=
    ⟨zBlind, by rw [hC]; exact hrecv, fun U hU hW => ⟨rfl, by rw [hU]; exact hR, by rw [hU]; exact hF.to hW hS⟩⟩
  have hroom : (zRm d' mc' ms').frames + 1 ≤ (zRm d mc ms).frames ∧ 8 + (M'.2.2.1 + 11) + (zRm d' mc' ms').locals ≤ (zRm d mc ms).locals := by
    simp only [zRm]; omega
  have hCB : ∀ hlink : (Cond.methodLink M.1.cls idx M'.1).before args s = true, CallB (zRm d mc ms) s args M.1.cls idx M'.1 M'.2.1 M'.2.2.1 M'.2.2.2 [Cond.code M'.1 M'.2.1 M'.2.2.1 M'.2.2.2] (zRm d' mc' ms') mc' ms' n := fun hlink =>
    ⟨rfl, rfl, hroom.1, hroom.2, zCode_ws hT hMB, List.mem_singleton.mpr rfl, hT _ hw1 rfl args, hT _ hw2 rfl args, hne, zNpar hpar, hlink⟩
  rw [hstk]
  rcases hL with hL | ⟨host, hL⟩
  · exact sw_back hl hn hS (va_runV (nL := ls.length) (Ts := []) ⟨hx, hbb, hn.symm, hown, fun w hw => by cases hw⟩ h ⟨hCB (hT _ hL rfl args), hT _ hMi rfl args, hT _ hMs rfl args⟩ hpre rfl (by simp [hn0]) hl.1 rfl (by simpa [JFrame.monitorRoom] using hcat) hd ⟨ha, hb⟩) kk
  · exact sw_back hl hn hS (va_runVN (nL := ls.length) (Ts := []) (host := host) ⟨hx, hbb, hn.symm, hown, fun w hw => by cases hw⟩ h ⟨⟨⟨rfl, rfl, hroom.1, hroom.2, zCode_ws hT hMB, List.mem_singleton.mpr rfl⟩, hT _ hw1 rfl args, hT _ hw2 rfl args, hne, zNpar hpar, hT _ hL rfl args⟩, hT _ hMi rfl args, hT _ hMs rfl args⟩ hpre rfl (by simp [hn0]) hl.1 rfl (by simpa [JFrame.monitorRoom] using hcat) hd ⟨ha, hb⟩) kk
theorem sn_cX0r (C : zOK G X M d mc ms) {M' : zM} {d' mc' ms' k idx : Nat} {v : Value} {S' : zS} {J' : Int64} {E' : UInt64} (hM : zMeV M' 0) (hL : zLk M.1.cls idx M'.1) (hk : k < 10) (hC : M'.1.cls = "java/lang/String") (hd : decode M.2.1 pc = .ok (.invokevirtual idx, 3)) (hr : (st.map (fun v => v.category)).sum ≤ 8) (h : nCR X.2.1 G M' d' mc' ms' [.ref (300 + k)] S J E (some v) S' J' E') (hdd : d' + 1 ≤ d) (ha : a + mc' ≤ mc) (hb : b + ms' ≤ ms) (kk : SN G X (a + mc') (b + ms') (pc + 3) ls (v :: st) S' J' E') : SN G X a b pc ls (.ref (300 + k) :: st) S J E := sw_callVX (as := []) C hM hL hk hC hd rfl hr h hdd ha hb kk
theorem sn_cX1r (C : zOK G X M d mc ms) {M' : zM} {d' mc' ms' k idx : Nat} {x v : Value} {S' : zS} {J' : Int64} {E' : UInt64} (hM : zMeV M' 1) (hL : zLk M.1.cls idx M'.1) (hk : k < 10) (hC : M'.1.cls = "java/lang/String") (hd : decode M.2.1 pc = .ok (.invokevirtual idx, 3)) (hr : (st.map (fun v => v.category)).sum ≤ 8) (h : nCR X.2.1 G M' d' mc' ms' [.ref (300 + k), x] S J E (some v) S' J' E') (hdd : d' + 1 ≤ d) (ha : a + mc' ≤ mc) (hb : b + ms' ≤ ms) (kk : SN G X (a + mc') (b + ms') (pc + 3) ls (v :: st) S' J' E') : SN G X a b pc ls (x :: .ref (300 + k) :: st) S J E := sw_callVX (as := [x]) C hM hL hk hC hd rfl hr h hdd ha hb kk
end ZX
