/-! the output: its own methods -/
theorem pJ5_ensureCapacityInternal_d00df : zMeP mJ5_ensureCapacityInternal_d00df 1 := ⟨vJ5_ensureCapacityInternal_d00df.1, vJ5_ensureCapacityInternal_d00df.2, (List.mem_of_getElem? (i := 826) (by decide +kernel)), rfl⟩
theorem pJ5_newCapacity_0f7a4 : zMeP mJ5_newCapacity_0f7a4 1 := ⟨vJ5_newCapacity_0f7a4.1, vJ5_newCapacity_0f7a4.2, (List.mem_of_getElem? (i := 830) (by decide +kernel)), rfl⟩
theorem uJ5_isLatin1_aae02 : zMeU mJ5_isLatin1_aae02 0 := ⟨vJ5_isLatin1_aae02.1, vJ5_isLatin1_aae02.2, (List.mem_of_getElem? (i := 856) (by decide +kernel)), rfl, by decide⟩
theorem uJ5_length_8abf5 : zMeU mJ5_length_8abf5 0 := ⟨vJ5_length_8abf5.1, vJ5_length_8abf5.2, (List.mem_of_getElem? (i := 972) (by decide +kernel)), rfl, by decide⟩
theorem uJ5_append_3fe6f : zMeU mJ5_append_3fe6f 1 := ⟨vJ5_append_3fe6f.1, vJ5_append_3fe6f.2, (List.mem_of_getElem? (i := 1542) (by decide +kernel)), rfl, by decide⟩
theorem uJ5_append_c97b9 : zMeU mJ5_append_c97b9 1 := ⟨vJ5_append_c97b9.1, vJ5_append_c97b9.2, (List.mem_of_getElem? (i := 1541) (by decide +kernel)), rfl, by decide⟩
theorem uJ5_setLength_d00df : zMeU mJ5_setLength_d00df 1 := ⟨vJ5_setLength_d00df.1, vJ5_setLength_d00df.2, (List.mem_of_getElem? (i := 1533) (by decide +kernel)), rfl, by decide⟩
theorem uJ5_charAt_5068e : zMeU mJ5_charAt_5068e 1 := ⟨vJ5_charAt_5068e.1, vJ5_charAt_5068e.2, (List.mem_of_getElem? (i := 1544) (by decide +kernel)), rfl, by decide⟩
theorem sn_pr1v {G : zG} {X : zX} {M : zM} {d mc ms a b pc : Nat} {ls : List (Option Value)} {st : List Value} {S : zS} {J : Int64} {E : UInt64} (C : zOK G X M d mc ms) {M' : zM} {d' mc' ms' idx : Nat} {S' : zS} {J' : Int64} {E' : UInt64} {x1 : Value} (hM : zMeP M' 1) (hL : Cond.methodLink M.1.cls idx M'.1 ∈ lw_tbl) (hd : decode M.2.1 pc = .ok (.invokevirtual idx, 3)) (hr : (st.map (fun v => v.category)).sum ≤ 8) (h : nCR X.2.1 G M' d' mc' ms' [.ref 10, x1] S J E none S' J' E') (hdd : d' + 1 ≤ d) (ha : a + mc' ≤ mc) (hb : b + ms' ≤ ms) (kk : SN G X (a + mc') (b + ms') (pc + 3) ls (st) S' J' E') : SN G X a b pc ls (x1 :: .ref 10 :: st) S J E :=
  sw_callP (as := [x1]) (r := none) C hM hL hd rfl hr h hdd ha hb kk
theorem sn_pr1r {G : zG} {X : zX} {M : zM} {d mc ms a b pc : Nat} {ls : List (Option Value)} {st : List Value} {S : zS} {J : Int64} {E : UInt64} (C : zOK G X M d mc ms) {M' : zM} {d' mc' ms' idx : Nat} {S' : zS} {J' : Int64} {E' : UInt64} {x1 : Value} {v : Value} (hM : zMeP M' 1) (hL : Cond.methodLink M.1.cls idx M'.1 ∈ lw_tbl) (hd : decode M.2.1 pc = .ok (.invokevirtual idx, 3)) (hr : (st.map (fun v => v.category)).sum ≤ 8) (h : nCR X.2.1 G M' d' mc' ms' [.ref 10, x1] S J E (some v) S' J' E') (hdd : d' + 1 ≤ d) (ha : a + mc' ≤ mc) (hb : b + ms' ≤ ms) (kk : SN G X (a + mc') (b + ms') (pc + 3) ls (v :: st) S' J' E') : SN G X a b pc ls (x1 :: .ref 10 :: st) S J E :=
  sw_callP (as := [x1]) (r := (some v)) C hM hL hd rfl hr h hdd ha hb kk
theorem sn_uu0r {G : zG} {X : zX} {M : zM} {d mc ms a b pc : Nat} {ls : List (Option Value)} {st : List Value} {S : zS} {J : Int64} {E : UInt64} (C : zOK G X M d mc ms) {M' : zM} {d' mc' ms' idx : Nat} {S' : zS} {J' : Int64} {E' : UInt64} {v : Value} (hM : zMeU M' 0) (hSel : Cond.selects "java/lang/StringBuilder" M'.1 M'.1 ∈ lw_tbl) (hL : Cond.methodLink M.1.cls idx M'.1 ∈ lw_tbl) (hd : decode M.2.1 pc = .ok (.invokevirtual idx, 3)) (hr : (st.map (fun v => v.category)).sum ≤ 8) (h : nCR X.2.1 G M' d' mc' ms' [.ref 10] S J E (some v) S' J' E') (hdd : d' + 1 ≤ d) (ha : a + mc' ≤ mc) (hb : b + ms' ≤ ms) (kk : SN G X (a + mc') (b + ms') (pc + 3) ls (v :: st) S' J' E') : SN G X a b pc ls (.ref 10 :: st) S J E :=
  sw_callU (as := []) (r := (some v)) C hM hSel hL hd rfl hr h hdd ha hb kk
theorem sn_su0r {G : zG} {X : zX} {M : zM} {d mc ms a b pc : Nat} {ls : List (Option Value)} {st : List Value} {S : zS} {J : Int64} {E : UInt64} (C : zOK G X M d mc ms) {M' : zM} {d' mc' ms' idx : Nat} {S' : zS} {J' : Int64} {E' : UInt64} {v : Value} (hown0 : M.1.cls = "java/lang/StringBuilder") (hM : zMeU M' 0) (hL : Cond.methodLink M.1.cls idx M'.1 ∈ lw_tbl) (hd : decode M.2.1 pc = .ok (.invokespecial idx, 3)) (hr : (st.map (fun v => v.category)).sum ≤ 8) (h : nCR X.2.1 G M' d' mc' ms' [.ref 10] S J E (some v) S' J' E') (hdd : d' + 1 ≤ d) (ha : a + mc' ≤ mc) (hb : b + ms' ≤ ms) (kk : SN G X (a + mc') (b + ms') (pc + 3) ls (v :: st) S' J' E') : SN G X a b pc ls (.ref 10 :: st) S J E :=
  sw_callSup (as := []) (r := (some v)) C hown0 hM hL hd rfl hr h hdd ha hb kk
theorem sn_su1r {G : zG} {X : zX} {M : zM} {d mc ms a b pc : Nat} {ls : List (Option Value)} {st : List Value} {S : zS} {J : Int64} {E : UInt64} (C : zOK G X M d mc ms) {M' : zM} {d' mc' ms' idx : Nat} {S' : zS} {J' : Int64} {E' : UInt64} {x1 : Value} {v : Value} (hown0 : M.1.cls = "java/lang/StringBuilder") (hM : zMeU M' 1) (hL : Cond.methodLink M.1.cls idx M'.1 ∈ lw_tbl) (hd : decode M.2.1 pc = .ok (.invokespecial idx, 3)) (hr : (st.map (fun v => v.category)).sum ≤ 8) (h : nCR X.2.1 G M' d' mc' ms' [.ref 10, x1] S J E (some v) S' J' E') (hdd : d' + 1 ≤ d) (ha : a + mc' ≤ mc) (hb : b + ms' ≤ ms) (kk : SN G X (a + mc') (b + ms') (pc + 3) ls (v :: st) S' J' E') : SN G X a b pc ls (x1 :: .ref 10 :: st) S J E :=
  sw_callSup (as := [x1]) (r := (some v)) C hown0 hM hL hd rfl hr h hdd ha hb kk
theorem sn_su1v {G : zG} {X : zX} {M : zM} {d mc ms a b pc : Nat} {ls : List (Option Value)} {st : List Value} {S : zS} {J : Int64} {E : UInt64} (C : zOK G X M d mc ms) {M' : zM} {d' mc' ms' idx : Nat} {S' : zS} {J' : Int64} {E' : UInt64} {x1 : Value} (hown0 : M.1.cls = "java/lang/StringBuilder") (hM : zMeU M' 1) (hL : Cond.methodLink M.1.cls idx M'.1 ∈ lw_tbl) (hd : decode M.2.1 pc = .ok (.invokespecial idx, 3)) (hr : (st.map (fun v => v.category)).sum ≤ 8) (h : nCR X.2.1 G M' d' mc' ms' [.ref 10, x1] S J E none S' J' E') (hdd : d' + 1 ≤ d) (ha : a + mc' ≤ mc) (hb : b + ms' ≤ ms) (kk : SN G X (a + mc') (b + ms') (pc + 3) ls (st) S' J' E') : SN G X a b pc ls (x1 :: .ref 10 :: st) S J E :=
  sw_callSup (as := [x1]) (r := none) C hown0 hM hL hd rfl hr h hdd ha hb kk
theorem zn_byt {S : zS} {G : zG} (C1 : G.2.2.1 298 = 1) : True := trivial
section ZSN
variable {G : zG} {X : zX} {M : zM} {d mc ms a b pc : Nat} {ls : List (Option Value)} {st : List Value} {S : zS} {J : Int64} {E : UInt64}
theorem zCap_n {S : zS} {n : Nat} (h : S 10 99 = n) (hn : n < 2 ^ 30) : zCap (zIn S) = n := by
  unfold zCap zIn; rw [h]; exact nI_clamp (by omega)
theorem sn_open (hl0 : zOutL ls) (hs0 : zOuts st) (k : ∀ va, SN (zGw G va) X a b pc ls st S J E) : SN G X a b pc ls st S J E := sw_open hl0 hs0 k
theorem sn_close {va : Nat} (hG : G.2.2.1 298 ≠ 1) (hl0 : zOutL ls) (hs0 : zOuts st) (k : SN G X a b pc ls st S J E) : SN (zGw G va) X a b pc ls st S J E := sw_close hG hl0 hs0 k
theorem sn_alenV (C : zOK G X M d mc ms) (hG : G.2.2.1 298 = 1) {n : Nat} (h : S 10 99 = n) (hn : n < 2 ^ 30) (hd : decode M.2.1 pc = .ok (.arraylength, 1)) (k : SN G X a b (pc + 1) ls (zi n :: st) S J E) : SN G X a b pc ls (.ref 11 :: st) S J E :=
  sw_alenV C hG hd (by rw [zCap_n h hn]; exact k)
theorem sn_baldV (C : zOK G X M d mc ms) (hG : G.2.2.1 298 = 1) {n i : Nat} (h : S 10 99 = n) (hn : n < 2 ^ 30) (hi : i < n) (hd : decode M.2.1 pc = .ok (.baload, 1)) (k : SN G X a b (pc + 1) ls (zi (S 11 i) :: st) S J E) : SN G X a b pc ls (zi i :: .ref 11 :: st) S J E :=
  sw_baldV C hG (by rw [zCap_n h hn]; exact zInp hi (by omega)) hd (by rw [zClp hi (by omega)]; exact k)
theorem zByt0 : ∀ x : Fin 128, (nI x.val).toInt8.toInt32 = nI x.val ∧ vp_nar .byte (nI x.val) = nI x.val ∧ fits .byte (.int (nI x.val)) = true := by decide +kernel
theorem zByt {x : Nat} (h : x < 128) : (nI x).toInt8.toInt32 = nI x ∧ vp_nar .byte (nI x) = nI x ∧ fits .byte (.int (nI x)) = true := zByt0 ⟨x, h⟩
theorem sn_bastV (C : zOK G X M d mc ms) (hG : G.2.2.1 298 = 1) {n i x : Nat} (h : S 10 99 = n) (hn : n < 2 ^ 30) (hi : i < n) (hx : x < 128) (hd : decode M.2.1 pc = .ok (.bastore, 1)) (k : SN G X a b (pc + 1) ls st (zU S 11 i x) J E) : SN G X a b pc ls (zi x :: zi i :: .ref 11 :: st) S J E :=
  sw_bastV C hG (by rw [zCap_n h hn]; exact zInp hi (by omega)) hd (by rw [zClp hi (by omega), (zByt hx).2.1, zIn_up]; exact k)
theorem sn_i2b (C : zOK G X M d mc ms) {x : Nat} (hx : x < 128) (hd : decode M.2.1 pc = .ok (.i2b, 1)) (k : SN G X a b (pc + 1) ls (zi x :: st) S J E) : SN G X a b pc ls (zi x :: st) S J E := by
  obtain ⟨p, l, e, R, s, m, args, below, meth, c, Q⟩ := X
  intro H locs arr hl hn hR hS
  exact lv_i2b C.1 C.2.1 hd (zByt hx).1 (k H locs arr hl hn hR hS)
end ZSN
/-! a longer row of bytes -/
section ZGB
variable {G : zG} {X : zX} {M : zM} {d mc ms a b pc : Nat} {ls : List (Option Value)} {st : List Value} {ws : va_W}
theorem rw_alenb (C : zOK G X M d mc ms) {q n k : Nat} {f : Nat → Int32} (he : ws[k]? = some (q, .inl (G.2.1 3, n, .inl f))) (hd : decode M.2.1 pc = .ok (.arraylength, 1)) (kk : RW G X a b (pc + 1) ls (zi n :: st) ws) : RW G X a b pc ls (.ref q :: st) ws := by
  obtain ⟨p, l, e, R, s, m, args, below, meth, c, Q⟩ := X
  intro H locs arr hl hn hP hD hS
  obtain ⟨hx, hb, hml, hown, hlk, hrt, ⟨hT, hK, -⟩, -⟩ := id C
  exact va_alen hx hb hK hP k 2 he (zTys_get (by decide)) (v := nI n) rfl hd (kk H locs arr hl hn hP hD hS)
theorem rw_min (C : zOK G X M d mc ms) {x y idx : Nat} (hL : Cond.methodLink M.1.cls idx Lib.Math.min.name ∈ lw_tbl) (hx0 : x < 2 ^ 31) (hy0 : y < 2 ^ 31) (ha : a ≤ mc) (hb0 : b ≤ ms) (hr : (st.map (fun v => v.category)).sum ≤ 8) (hd : decode M.2.1 pc = .ok (.invokestatic idx, 3)) (k : RW G X a b (pc + 3) ls (zi (min x y) :: st) ws) : RW G X a b pc ls (zi y :: zi x :: st) ws := by
  obtain ⟨p, l, e, R, s, m, args, below, meth, c, Q⟩ := X
  intro H locs arr hl hn hP hD hS
  obtain ⟨hx, hb, hml, hown, hlk, hrt, ⟨hT, hK, -⟩, hRm, -⟩ := id C
  have hRm : R = zRm d mc ms := hRm
  subst hRm
  have hcat : (((st.map (zTr zid))).map fun v => v.category).sum ≤ 8 := by
    rw [zMap_id]; exact hr
  refine va_mmin hx hb (by rw [hl.1]; exact hn.symm) hown (hT _ hL rfl args) (hT _ kMinS rfl args) (hT _ kMathI rfl args) (hT _ kMinC rfl args) (by simp only [zRm]; omega) (by simp only [zRm]; omega) ha hb0 hd ?_
  have e1 : (if nI y < nI x then nI y else nI x) = nI (min x y) := by
    by_cases h : y < x
    · rw [if_pos ((nI_ltI hy0 hx0).mpr h)]; congr 1; omega
    · rw [if_neg (fun q => h ((nI_ltI hy0 hx0).mp q))]; congr 1; omega
  rw [e1]
  exact k H locs arr hl hn hP hD hS
theorem kCopyJ7 : Cond.methodLink RJ7 150 arraycopyName ∈ lw_tbl := (List.mem_of_getElem? (i := 853) (by decide +kernel))
theorem kMinJ7 : Cond.methodLink RJ7 304 Lib.Math.min.name ∈ lw_tbl := kJ7_304
theorem rw_copyb (C : zOK G X M d mc ms) {q0 q1 n0 n1 n k0 k1 idx : Nat} {f g : Nat → Int32} (hL : Cond.methodLink M.1.cls idx arraycopyName ∈ lw_tbl) (he0 : ws[k0]? = some (q0, .inl (G.2.1 3, n0, .inl f))) (he1 : ws[k1]? = some (q1, .inl (G.2.1 3, n1, .inl g))) (h0 : n ≤ n0) (h1 : n ≤ n1) (hn1 : n ≤ 2 ^ 30) (hf : ∀ i, i < n → fits .byte (.int (f i)) = true) (hr : (st.map (fun v => v.category)).sum ≤ 8) (hd : decode M.2.1 pc = .ok (.invokestatic idx, 3)) (k : RW G X a b (pc + 3) ls st (ws.set k1 (q1, .inl (G.2.1 3, n1, .inl (va_cpy f g 0 0 n))))) : RW G X a b pc ls (zi n :: zi 0 :: .ref q1 :: zi 0 :: .ref q0 :: st) ws := by
  obtain ⟨p, l, e, R, s, m, args, below, meth, c, Q⟩ := X
  intro H locs arr hl hn hP hD hS
  obtain ⟨hx, hb, hml, hown, hlk, hrt, ⟨hT, hK, -⟩, hRm, -⟩ := id C
  have hRm : R = zRm d mc ms := hRm
  subst hRm
  have hcl : (nI n).toNatClampNeg = n := nI_clamp (by omega)
  have hc0 : (nI 0).toNatClampNeg = 0 := rfl
  have hcat : (((st.map (zTr zid))).map fun v => v.category).sum ≤ 8 := by
    rw [zMap_id]; exact hr
  refine va_copyi (sp := nI 0) (dp := nI 0) (n := nI n) hx hb (by rw [hl.1]; exact hn.symm) hown (hT _ hL rfl args) (hT _ kCopyN rfl args) (hT _ kCopyS rfl args) (hT _ kCopyI rfl args) hK hP hD hS k0 k1 2 2 he0 he1 (zTys_get (by decide)) (zTys_get (by decide)) rfl (by decide) (by decide) (nI_pos (by omega)) (by rw [hcl, hc0]; omega) (by rw [hcl, hc0]; omega) (fun i hi => by rw [hcl] at hi; rw [hc0, Nat.zero_add]; exact hf i hi) (by simp only [zRm]; omega) ?_ hd (fun H1 locs1 hP1 hD1 hS1 => ?_)
  · have e1 : nativeFrameWords "java/lang/System" "arraycopy" 5 ≤ 30 := by decide +kernel
    simp only [zRm]
    omega
  · rw [hcl, hc0] at hP1 hD1
    exact k H1 locs1 arr hl hn hP1 hD1 hS1
end ZGB
/-- the row of bytes copied into a longer one -/
def zLong (f : Nat → Int32) (n : Nat) : Nat → Int32 := fun i => if i < n then f i else 0
set_option maxRecDepth 100000 in
set_option maxHeartbeats 4000000 in
theorem c_J7_copyOf {l : Launch} (hl : l.stackTraces = false) {G : zG} {ws : va_W} {k q n n' : Nat} {f : Nat → Int32} (he : ws[k]? = some (q, .inl (G.2.1 3, n, .inl f))) (hlt : n < n') (hn : n' < 2 ^ 20) (hf : ∀ i, i < n → fits .byte (.int (f i)) = true) : rCR l G mJ7_copyOf_9075b 1 1 n' [.ref q, zi n'] ws (fun r ws' => ∃ q2, r = some (.ref q2) ∧ ws' = ws ++ [(q2, .inl (G.2.1 3, n', .inl (zLong f n)))]) := by
  refine rCR.of hl (by decide) (by simp [Value.category]) (Nat.le_of_ble_eq_true rfl) (ls := [some (.ref q), some (zi n'), none]) rfl (fun X C hF => ?_)
  have hD := fun (n : Nat) => n
  refine rw_iload_1 C dJ7_copyOf_9075b_0 ?_
  refine rw_aload_0 C dJ7_copyOf_9075b_1 ?_
  refine rw_alenb C he dJ7_copyOf_9075b_2 ?_
  refine rw_icmp_ne C 14 dJ7_copyOf_9075b_3 (by decide) (fun c3 => ?_) (fun c3 => ?_)
  · refine rw_iload_1 C dJ7_copyOf_9075b_14 ?_
    refine rw_newb C (by omega) (by decide) (by omega) dJ7_copyOf_9075b_15 (fun q2 => ?_)
    refine rw_astore_2 C rfl dJ7_copyOf_9075b_17 ?_
    refine rw_aload_0 C dJ7_copyOf_9075b_18 ?_
    refine rw_iconst C (v := nI 0) rfl dJ7_copyOf_9075b_19 ?_
    refine rw_aload_2 C dJ7_copyOf_9075b_20 ?_
    refine rw_iconst C (v := nI 0) rfl dJ7_copyOf_9075b_21 ?_
    refine rw_aload_0 C dJ7_copyOf_9075b_22 ?_
    have hk : k < ws.length := by
      rcases Nat.lt_or_ge k ws.length with h | h
      · exact h
      · rw [List.getElem?_eq_none h] at he; cases he
    have he2 : (ws ++ [(q2, .inl (G.2.1 3, n', .inl (fun _ => 0)))])[k]? = some (q, .inl (G.2.1 3, n, .inl f)) := by rw [List.getElem?_append_left hk]; exact he
    have he3 : (ws ++ [(q2, (.inl (G.2.1 3, n', .inl (fun _ => 0)) : va_E))])[ws.length]? = some (q2, .inl (G.2.1 3, n', .inl (fun _ => 0))) := by simp
    refine rw_alenb C he2 dJ7_copyOf_9075b_23 ?_
    refine rw_iload_1 C dJ7_copyOf_9075b_24 ?_
    refine rw_min C kMinJ7 (by omega) (by omega) (by omega) (by omega) (by simp [Value.category]) dJ7_copyOf_9075b_25 ?_
    rw [Nat.min_eq_left (Nat.le_of_lt hlt)]
    refine rw_copyb C kCopyJ7 he2 he3 (Nat.le_refl _) (Nat.le_of_lt hlt) (by omega) hf (by decide) dJ7_copyOf_9075b_28 ?_
    refine rw_aload_2 C dJ7_copyOf_9075b_31 ?_
    refine rw_aret C rfl rfl hF dJ7_copyOf_9075b_32 (by omega) (by omega) ⟨q2, rfl, ?_⟩
    rw [List.set_append_right _ _ (Nat.le_refl _), Nat.sub_self]
    have e1 : va_cpy f (fun _ => (0 : Int32)) 0 0 n = zLong f n := by
      funext i; unfold va_cpy zLong
      by_cases h : i < n
      · rw [if_pos ⟨Nat.zero_le _, by omega⟩, if_pos h]; congr 1; omega
      · rw [if_neg (by omega), if_neg h]
    rw [e1]; rfl
  · exfalso
    have h3 : nI n' = nI n := c3
    have := (nI_eqU (by omega) (by omega)).mp h3
    omega
