/-! the constructors -/
abbrev eI (G : zG) (n : Nat) : va_E := .inl (G.2.1 1, n, .inl (fun _ => 0))
abbrev eF (G : zG) (n : Nat) (f : Nat → Int32) : va_E := .inl (G.2.1 1, n, .inl f)
abbrev eC (G : zG) (n : Nat) : va_E := .inl (G.2.1 2, n, .inl (fun _ => 0))
abbrev eBy (G : zG) (n : Nat) : va_E := .inl (G.2.1 3, n, .inl (fun _ => 0))
abbrev eRf (G : zG) (t n : Nat) (f : Nat → Option Nat) : va_E := .inl (G.2.1 (t + 1), n, .inr (.inr (.inr (.inr f))))
abbrev eO (c : Nat) (fs : List Value) : va_E := .inr (c, fs)
def scnA (f : Nat → Nat) : Nat → Option Nat := va_up (va_up (va_up (va_up (fun _ => none) 0 (some (f 8))) 1 (some (f 10))) 2 (some (f 12))) 3 (some (f 14))
/-- a scene's sixteen -/
def scnL (G : zG) (f : Nat → Nat) : va_W := [(f 0, eO 7 [.ref (f 1), .ref (f 5), .ref (f 6), .ref (f 7), .int 0, .int 0, .int 0, .int 0]), (f 1, eO 5 [.int 0, .int 0, .ref (f 2), .ref (f 3), .ref (f 4)]), (f 2, eI G 12), (f 3, eI G 12), (f 4, eI G 12), (f 5, eI G 12), (f 6, eI G 12), (f 7, eRf G 3 4 (scnA f)), (f 8, eO 6 [.int 0, .int 0, .int 0, .int 0, .int 0, .ref (f 9)]), (f 9, eI G 12), (f 10, eO 6 [.int 0, .int 0, .int 0, .int 0, .int 0, .ref (f 11)]), (f 11, eI G 12), (f 12, eO 6 [.int 0, .int 0, .int 0, .int 0, .int 0, .ref (f 13)]), (f 13, eI G 12), (f 14, eO 6 [.int 0, .int 0, .int 0, .int 0, .int 0, .ref (f 15)]), (f 15, eI G 12)]
theorem scnL_mem {G : zG} {f : Nat → Nat} {q : Nat} (h : f 0 = q) : (q, (.inr (7, [.ref (f 1), .ref (f 5), .ref (f 6), .ref (f 7), .int 0, .int 0, .int 0, .int 0]) : va_E)) ∈ scnL G f := by
  subst h
  exact List.mem_cons_self
def wF (m : Nat) : Nat → Int32 := fun k => if k < m then nI (wW k) else 0
def aF (m : Nat) : Nat → Int32 := fun k => if k < m then nI (wA k) else 0
theorem wF_0 : wF 0 = (fun _ => 0) := by funext k; simp [wF]
theorem aF_0 : aF 0 = (fun _ => 0) := by funext k; simp [aF]
theorem wF_s {m : Nat} : upd (wF m) m (nI (wW m)) = wF (m + 1) := by
  funext k
  unfold upd wF
  by_cases h : k = m
  · subst h; simp
  · rw [if_neg h]
    by_cases h2 : k < m
    · rw [if_pos h2, if_pos (by omega)]
    · rw [if_neg h2, if_neg (by omega)]
theorem aF_s {m : Nat} : upd (aF m) m (nI (wA m)) = aF (m + 1) := by
  funext k
  unfold upd aF
  by_cases h : k = m
  · subst h; simp
  · rw [if_neg h]
    by_cases h2 : k < m
    · rw [if_pos h2, if_pos (by omega)]
    · rw [if_neg h2, if_neg (by omega)]
theorem bOK.ao {X : zX} (h : bOK X) : cAO X.2.2.2.2.1 := by
  obtain ⟨p, l, e, R, s, m, args, below, meth, c, Q⟩ := X
  exact h.2
section RC
variable {G : zG} {X : zX} {M : zM} {d mc ms a b pc : Nat} {ls : List (Option Value)} {st : List Value} {ws : va_W}
theorem rw_cast {ws' : va_W} (e : ws = ws') (k : RW G X a b pc ls st ws') : RW G X a b pc ls st ws := by rw [e]; exact k
theorem rw_iastW (C : zOK G X M d mc ms) {u v : va_W} {q n i x : Nat} (hi : i < n) (hn30 : n < 2 ^ 20) (hx : wW i = x) (hd : decode M.2.1 pc = .ok (.iastore, 1)) (k : RW G X a b (pc + 1) ls st (u ++ (q, .inl (G.2.1 1, n, .inl (wF (i + 1)))) :: v)) : RW G X a b pc ls (zi x :: zi i :: .ref q :: st) (u ++ (q, .inl (G.2.1 1, n, .inl (wF i))) :: v) := by
  subst hx
  refine rw_iast C hi hn30 hd ?_
  rw [wF_s]; exact k
theorem rw_iastA (C : zOK G X M d mc ms) {u v : va_W} {q n i x : Nat} (hi : i < n) (hn30 : n < 2 ^ 20) (hx : wA i = x) (hd : decode M.2.1 pc = .ok (.iastore, 1)) (k : RW G X a b (pc + 1) ls st (u ++ (q, .inl (G.2.1 1, n, .inl (aF (i + 1)))) :: v)) : RW G X a b pc ls (zi x :: zi i :: .ref q :: st) (u ++ (q, .inl (G.2.1 1, n, .inl (aF i))) :: v) := by
  subst hx
  refine rw_iast C hi hn30 hd ?_
  rw [aF_s]; exact k
theorem rw_aastM (C : zOK G X M d mc ms) {u v : va_W} {q n i r t ci : Nat} {vs : List Value} {f : Nat → Option Nat} (hi : i < n) (hn30 : n < 2 ^ 20) (ht : (t = 3 ∧ ci = 6) ∨ (t = 4 ∧ ci = 7)) (hck : zCk ci) (hm : (r, (.inr (ci, vs) : va_E)) ∈ v) (hd : decode M.2.1 pc = .ok (.aastore, 1)) (k : RW G X a b (pc + 1) ls st (u ++ (q, .inl (G.2.1 (t + 1), n, .inr (.inr (.inr (.inr (va_up f i (some r))))))) :: v)) : RW G X a b pc ls (.ref r :: zi i :: .ref q :: st) (u ++ (q, .inl (G.2.1 (t + 1), n, .inr (.inr (.inr (.inr f))))) :: v) := by
  obtain ⟨qk, hk⟩ := List.mem_iff_getElem?.mp (show (r, (.inr (ci, vs) : va_E)) ∈ u ++ (q, (.inl (G.2.1 (t + 1), n, .inr (.inr (.inr (.inr f)))) : va_E)) :: v from List.mem_append_right _ (List.mem_cons_of_mem _ hm))
  exact rw_aast C hi hn30 ht hck hk hd k
end RC
theorem dfs_X0 : ∀ j, j < 3 → defaultValue (zTy 4 j) = vp_V [.null, .int 0, .int 0] j := by
  intro j hj
  rcases (show j = 0 ∨ j = 1 ∨ j = 2 by omega) with rfl | rfl | rfl <;> rfl
theorem iI_X0 : Cond.instantiable (zCls 4).1 (zCls 4).2.2 ∈ lw_tbl := (List.mem_of_getElem? (i := 167) (by decide +kernel))
theorem iN_X0 : Cond.initialized (zCls 4).1 ∈ lw_tbl := (List.mem_of_getElem? (i := 29) (by decide +kernel))
theorem dfs_X1 : ∀ j, j < 5 → defaultValue (zTy 5 j) = vp_V [.int 0, .int 0, .null, .null, .null] j := by
  intro j hj
  rcases (show j = 0 ∨ j = 1 ∨ j = 2 ∨ j = 3 ∨ j = 4 by omega) with rfl | rfl | rfl | rfl | rfl <;> rfl
theorem iI_X1 : Cond.instantiable (zCls 5).1 (zCls 5).2.2 ∈ lw_tbl := (List.mem_of_getElem? (i := 69) (by decide +kernel))
theorem iN_X1 : Cond.initialized (zCls 5).1 ∈ lw_tbl := (List.mem_of_getElem? (i := 27) (by decide +kernel))
theorem dfs_X2 : ∀ j, j < 6 → defaultValue (zTy 6 j) = vp_V [.int 0, .int 0, .int 0, .int 0, .int 0, .null] j := by
  intro j hj
  rcases (show j = 0 ∨ j = 1 ∨ j = 2 ∨ j = 3 ∨ j = 4 ∨ j = 5 by omega) with rfl | rfl | rfl | rfl | rfl | rfl <;> rfl
theorem iI_X2 : Cond.instantiable (zCls 6).1 (zCls 6).2.2 ∈ lw_tbl := (List.mem_of_getElem? (i := 98) (by decide +kernel))
theorem iN_X2 : Cond.initialized (zCls 6).1 ∈ lw_tbl := (List.mem_of_getElem? (i := 28) (by decide +kernel))
theorem dfs_X3 : ∀ j, j < 8 → defaultValue (zTy 7 j) = vp_V [.null, .null, .null, .null, .int 0, .int 0, .int 0, .int 0] j := by
  intro j hj
  rcases (show j = 0 ∨ j = 1 ∨ j = 2 ∨ j = 3 ∨ j = 4 ∨ j = 5 ∨ j = 6 ∨ j = 7 by omega) with rfl | rfl | rfl | rfl | rfl | rfl | rfl | rfl <;> rfl
theorem iI_X3 : Cond.instantiable (zCls 7).1 (zCls 7).2.2 ∈ lw_tbl := (List.mem_of_getElem? (i := 63) (by decide +kernel))
theorem iN_X3 : Cond.initialized (zCls 7).1 ∈ lw_tbl := (List.mem_of_getElem? (i := 26) (by decide +kernel))
theorem dfs_X4 : ∀ j, j < 11 → defaultValue (zTy 8 j) = vp_V [.null, .int 0, .null, .null, .null, .int 0, .int 0, .int 0, .int 0, .int 0, .int 0] j := by
  intro j hj
  rcases (show j = 0 ∨ j = 1 ∨ j = 2 ∨ j = 3 ∨ j = 4 ∨ j = 5 ∨ j = 6 ∨ j = 7 ∨ j = 8 ∨ j = 9 ∨ j = 10 by omega) with rfl | rfl | rfl | rfl | rfl | rfl | rfl | rfl | rfl | rfl | rfl <;> rfl
theorem iI_X4 : Cond.instantiable (zCls 8).1 (zCls 8).2.2 ∈ lw_tbl := (List.mem_of_getElem? (i := 189) (by decide +kernel))
theorem iN_X4 : Cond.initialized (zCls 8).1 ∈ lw_tbl := (List.mem_of_getElem? (i := 30) (by decide +kernel))
theorem dfs_X5 : ∀ j, j < 10 → defaultValue (zTy 9 j) = vp_V [.null, .null, .null, .null, .null, .null, .null, .int 0, .int 0, .int 0] j := by
  intro j hj
  rcases (show j = 0 ∨ j = 1 ∨ j = 2 ∨ j = 3 ∨ j = 4 ∨ j = 5 ∨ j = 6 ∨ j = 7 ∨ j = 8 ∨ j = 9 by omega) with rfl | rfl | rfl | rfl | rfl | rfl | rfl | rfl | rfl | rfl <;> rfl
theorem iI_X5 : Cond.instantiable (zCls 9).1 (zCls 9).2.2 ∈ lw_tbl := (List.mem_of_getElem? (i := 55) (by decide +kernel))
theorem iN_X5 : Cond.initialized (zCls 9).1 ∈ lw_tbl := (List.mem_of_getElem? (i := 25) (by decide +kernel))
theorem dfs_J4 : ∀ j, j < 4 → defaultValue (zTy 1 j) = vp_V [.null, .int 0, .int 0, .int 0] j := by
  intro j hj
  rcases (show j = 0 ∨ j = 1 ∨ j = 2 ∨ j = 3 by omega) with rfl | rfl | rfl | rfl <;> rfl
theorem iI_J4 : Cond.instantiable (zCls 1).1 (zCls 1).2.2 ∈ lw_tbl := (List.mem_of_getElem? (i := 235) (by decide +kernel))
theorem iN_J4 : Cond.initialized (zCls 1).1 ∈ lw_tbl := (List.mem_of_getElem? (i := 32) (by decide +kernel))
theorem oI_X2 : Cond.methodLink RX2 3 Lib.objectInit ∈ lw_tbl := (List.mem_of_getElem? (i := 102) (by decide +kernel))
theorem fL_X2_28 : Cond.fieldLink RX2 28 ((zCls 6).2.1 5).1 ((zCls 6).2.1 5).2.1 ((zCls 6).2.1 5).2.2.1 ∈ lw_tbl := (List.mem_of_getElem? (i := 117) (by decide +kernel))
set_option maxRecDepth 100000 in
set_option maxHeartbeats 8000000 in
theorem b_X2_init {l : Launch} (hl : l.stackTraces = false) {G : zG} {u : va_W} {q : Nat} : bCR l G mX2_init 0 1 12 [.ref q] (u ++ [(q, eO 6 [.int 0, .int 0, .int 0, .int 0, .int 0, .null])]) (fun ws' => ∃ r, ws' = u ++ [(q, eO 6 [.int 0, .int 0, .int 0, .int 0, .int 0, .ref r]), (r, eI G 12)]) := by
  refine bCR.of hl (by decide) rfl rfl (Nat.le_of_ble_eq_true rfl) (ls := [some (.ref q)]) rfl (fun X C B hF hX => ?_)
  subst hX
  refine rw_aload_0 C dX2_init_0 ?_
  refine rw_objInit C oI_X2 (Nat.le_of_ble_eq_true rfl) dX2_init_1 ?_
  refine rw_aload_0 C dX2_init_4 ?_
  refine rw_iconst C (v := nI 0) (by decide) dX2_init_5 ?_
  refine rw_putI C fX2_9 rfl rfl rfl rfl (Nat.le_of_ble_eq_true rfl) dX2_init_6 ?_
  refine rw_cast (ws' := u ++ ([(q, eO 6 [.int 0, .int 0, .int 0, .int 0, .int 0, .null])])) rfl ?_
  refine rw_aload_0 C dX2_init_9 ?_
  refine rw_iconst C (v := nI 0) (by decide) dX2_init_10 ?_
  refine rw_putI C fX2_15 rfl rfl rfl rfl (Nat.le_of_ble_eq_true rfl) dX2_init_11 ?_
  refine rw_cast (ws' := u ++ ([(q, eO 6 [.int 0, .int 0, .int 0, .int 0, .int 0, .null])])) rfl ?_
  refine rw_aload_0 C dX2_init_14 ?_
  refine rw_iconst C (v := nI 0) (by decide) dX2_init_15 ?_
  refine rw_putI C fX2_18 rfl rfl rfl rfl (Nat.le_of_ble_eq_true rfl) dX2_init_16 ?_
  refine rw_cast (ws' := u ++ ([(q, eO 6 [.int 0, .int 0, .int 0, .int 0, .int 0, .null])])) rfl ?_
  refine rw_aload_0 C dX2_init_19 ?_
  refine rw_iconst C (v := nI 0) (by decide) dX2_init_20 ?_
  refine rw_putI C fX2_22 rfl rfl rfl rfl (Nat.le_of_ble_eq_true rfl) dX2_init_21 ?_
  refine rw_cast (ws' := u ++ ([(q, eO 6 [.int 0, .int 0, .int 0, .int 0, .int 0, .null])])) rfl ?_
  refine rw_aload_0 C dX2_init_24 ?_
  refine rw_iconst C (v := nI 0) (by decide) dX2_init_25 ?_
  refine rw_putI C fX2_25 rfl rfl rfl rfl (Nat.le_of_ble_eq_true rfl) dX2_init_26 ?_
  refine rw_cast (ws' := u ++ ([(q, eO 6 [.int 0, .int 0, .int 0, .int 0, .int 0, .null])])) rfl ?_
  refine rw_aload_0 C dX2_init_29 ?_
  refine rw_bipush C (v := nI 12) (by decide) dX2_init_30 ?_
  refine rw_newi C (n := 12) (by decide) (by decide) (by decide) dX2_init_32 (fun r1 => ?_)
  refine rw_cast (ws' := u ++ ((q, eO 6 [.int 0, .int 0, .int 0, .int 0, .int 0, .null]) :: [(r1, eI G 12)])) (by simp only [List.append_assoc, List.cons_append, List.nil_append]) ?_
  refine rw_putR C B zck6 (Nat.le_of_ble_eq_true rfl) fL_X2_28 rfl rfl rfl rfl rfl (Nat.le_of_ble_eq_true rfl) dX2_init_34 ?_
  refine rw_cast (ws' := u ++ ((q, eO 6 [.int 0, .int 0, .int 0, .int 0, .int 0, .ref r1]) :: [(r1, eI G 12)])) rfl ?_
  exact rw_bret C rfl hF dX2_init_37 (by decide) (by decide) ⟨_, rfl⟩
theorem oI_X1 : Cond.methodLink RX1 3 Lib.objectInit ∈ lw_tbl := (List.mem_of_getElem? (i := 73) (by decide +kernel))
theorem fL_X1_18 : Cond.fieldLink RX1 18 ((zCls 5).2.1 2).1 ((zCls 5).2.1 2).2.1 ((zCls 5).2.1 2).2.2.1 ∈ lw_tbl := (List.mem_of_getElem? (i := 79) (by decide +kernel))
theorem fL_X1_22 : Cond.fieldLink RX1 22 ((zCls 5).2.1 3).1 ((zCls 5).2.1 3).2.1 ((zCls 5).2.1 3).2.2.1 ∈ lw_tbl := (List.mem_of_getElem? (i := 82) (by decide +kernel))
theorem fL_X1_25 : Cond.fieldLink RX1 25 ((zCls 5).2.1 4).1 ((zCls 5).2.1 4).2.1 ((zCls 5).2.1 4).2.2.1 ∈ lw_tbl := (List.mem_of_getElem? (i := 83) (by decide +kernel))
set_option maxRecDepth 100000 in
set_option maxHeartbeats 8000000 in
theorem b_X1_init {l : Launch} (hl : l.stackTraces = false) {G : zG} {u : va_W} {q : Nat} : bCR l G mX1_init 0 3 36 [.ref q] (u ++ [(q, eO 5 [.int 0, .int 0, .null, .null, .null])]) (fun ws' => ∃ a b c, ws' = u ++ [(q, eO 5 [.int 0, .int 0, .ref a, .ref b, .ref c]), (a, eI G 12), (b, eI G 12), (c, eI G 12)]) := by
  refine bCR.of hl (by decide) rfl rfl (Nat.le_of_ble_eq_true rfl) (ls := [some (.ref q)]) rfl (fun X C B hF hX => ?_)
  subst hX
  refine rw_aload_0 C dX1_init_0 ?_
  refine rw_objInit C oI_X1 (Nat.le_of_ble_eq_true rfl) dX1_init_1 ?_
  refine rw_aload_0 C dX1_init_4 ?_
  refine rw_iconst C (v := nI 0) (by decide) dX1_init_5 ?_
  refine rw_putI C fX1_9 rfl rfl rfl rfl (Nat.le_of_ble_eq_true rfl) dX1_init_6 ?_
  refine rw_cast (ws' := u ++ ([(q, eO 5 [.int 0, .int 0, .null, .null, .null])])) rfl ?_
  refine rw_aload_0 C dX1_init_9 ?_
  refine rw_iconst C (v := nI 0) (by decide) dX1_init_10 ?_
  refine rw_putI C fX1_15 rfl rfl rfl rfl (Nat.le_of_ble_eq_true rfl) dX1_init_11 ?_
  refine rw_cast (ws' := u ++ ([(q, eO 5 [.int 0, .int 0, .null, .null, .null])])) rfl ?_
  refine rw_aload_0 C dX1_init_14 ?_
  refine rw_bipush C (v := nI 12) (by decide) dX1_init_15 ?_
  refine rw_newi C (n := 12) (by decide) (by decide) (by decide) dX1_init_17 (fun r1 => ?_)
  refine rw_cast (ws' := u ++ ((q, eO 5 [.int 0, .int 0, .null, .null, .null]) :: [(r1, eI G 12)])) (by simp only [List.append_assoc, List.cons_append, List.nil_append]) ?_
  refine rw_putR C B zck5 (Nat.le_of_ble_eq_true rfl) fL_X1_18 rfl rfl rfl rfl rfl (Nat.le_of_ble_eq_true rfl) dX1_init_19 ?_
  refine rw_cast (ws' := u ++ ((q, eO 5 [.int 0, .int 0, .ref r1, .null, .null]) :: [(r1, eI G 12)])) rfl ?_
  refine rw_aload_0 C dX1_init_22 ?_
  refine rw_bipush C (v := nI 12) (by decide) dX1_init_23 ?_
  refine rw_newi C (n := 12) (by decide) (by decide) (by decide) dX1_init_25 (fun r2 => ?_)
  refine rw_cast (ws' := u ++ ((q, eO 5 [.int 0, .int 0, .ref r1, .null, .null]) :: (r1, eI G 12) :: [(r2, eI G 12)])) (by simp only [List.append_assoc, List.cons_append, List.nil_append]) ?_
  refine rw_putR C B zck5 (Nat.le_of_ble_eq_true rfl) fL_X1_22 rfl rfl rfl rfl rfl (Nat.le_of_ble_eq_true rfl) dX1_init_27 ?_
  refine rw_cast (ws' := u ++ ((q, eO 5 [.int 0, .int 0, .ref r1, .ref r2, .null]) :: (r1, eI G 12) :: [(r2, eI G 12)])) rfl ?_
  refine rw_aload_0 C dX1_init_30 ?_
  refine rw_bipush C (v := nI 12) (by decide) dX1_init_31 ?_
  refine rw_newi C (n := 12) (by decide) (by decide) (by decide) dX1_init_33 (fun r3 => ?_)
  refine rw_cast (ws' := u ++ ((q, eO 5 [.int 0, .int 0, .ref r1, .ref r2, .null]) :: (r1, eI G 12) :: (r2, eI G 12) :: [(r3, eI G 12)])) (by simp only [List.append_assoc, List.cons_append, List.nil_append]) ?_
  refine rw_putR C B zck5 (Nat.le_of_ble_eq_true rfl) fL_X1_25 rfl rfl rfl rfl rfl (Nat.le_of_ble_eq_true rfl) dX1_init_35 ?_
  refine rw_cast (ws' := u ++ ((q, eO 5 [.int 0, .int 0, .ref r1, .ref r2, .ref r3]) :: (r1, eI G 12) :: (r2, eI G 12) :: [(r3, eI G 12)])) rfl ?_
  exact rw_bret C rfl hF dX1_init_38 (by decide) (by decide) ⟨_, _, _, rfl⟩
theorem oI_X3 : Cond.methodLink RX3 3 Lib.objectInit ∈ lw_tbl := (List.mem_of_getElem? (i := 67) (by decide +kernel))
theorem nA_X3_9 : Cond.classLink RX3 9 (zCls 5).1 ∈ lw_tbl := (List.mem_of_getElem? (i := 68) (by decide +kernel))
theorem fL_X3_12 : Cond.fieldLink RX3 12 ((zCls 7).2.1 0).1 ((zCls 7).2.1 0).2.1 ((zCls 7).2.1 0).2.2.1 ∈ lw_tbl := (List.mem_of_getElem? (i := 133) (by decide +kernel))
theorem fL_X3_18 : Cond.fieldLink RX3 18 ((zCls 7).2.1 1).1 ((zCls 7).2.1 1).2.1 ((zCls 7).2.1 1).2.2.1 ∈ lw_tbl := (List.mem_of_getElem? (i := 135) (by decide +kernel))
theorem fL_X3_22 : Cond.fieldLink RX3 22 ((zCls 7).2.1 2).1 ((zCls 7).2.1 2).2.1 ((zCls 7).2.1 2).2.2.1 ∈ lw_tbl := (List.mem_of_getElem? (i := 137) (by decide +kernel))
theorem nA_X3_25 : Cond.classLink RX3 25 "RumourHives$Rumour" ∈ lw_tbl := (List.mem_of_getElem? (i := 96) (by decide +kernel))
theorem fL_X3_27 : Cond.fieldLink RX3 27 ((zCls 7).2.1 3).1 ((zCls 7).2.1 3).2.1 ((zCls 7).2.1 3).2.2.1 ∈ lw_tbl := (List.mem_of_getElem? (i := 139) (by decide +kernel))
set_option maxRecDepth 100000 in
set_option maxHeartbeats 8000000 in
theorem b_X3_init {l : Launch} (hl : l.stackTraces = false) {G : zG} {u : va_W} {q : Nat} : bCR l G mX3_init 1 15 141 [.ref q] (u ++ [(q, eO 7 [.null, .null, .null, .null, .int 0, .int 0, .int 0, .int 0])]) (fun ws' => ∃ f : Nat → Nat, f 0 = q ∧ ws' = u ++ scnL G f) := by
  refine bCR.of hl (by decide) rfl rfl (Nat.le_of_ble_eq_true rfl) (ls := [some (.ref q), none]) rfl (fun X C B hF hX => ?_)
  subst hX
  refine rw_aload_0 C dX3_init_0 ?_
  refine rw_objInit C oI_X3 (Nat.le_of_ble_eq_true rfl) dX3_init_1 ?_
  refine rw_aload_0 C dX3_init_4 ?_
  refine rw_new C [.int 0, .int 0, .null, .null, .null] zck5 nA_X3_9 iI_X1 iN_X1 (N := 5) rfl dfs_X1 (by decide) (by decide) dX3_init_5 (fun r1 => ?_)
  refine rw_dup C rfl dX3_init_8 ?_
  refine rw_callI (as := []) C (fun s e => by rw [e]; exact B.ao) vX1_init rfl rfl lX3_11 dX3_init_9 rfl (Nat.le_of_ble_eq_true rfl) (b_X1_init hl (u := u ++ ([(q, eO 7 [.null, .null, .null, .null, .int 0, .int 0, .int 0, .int 0])])) (q := r1)) (by decide) (by decide) (by decide) ?_
  rintro ws' ⟨n2, n3, n4, rfl⟩
  refine rw_cast (ws' := u ++ ((q, eO 7 [.null, .null, .null, .null, .int 0, .int 0, .int 0, .int 0]) :: (r1, eO 5 [.int 0, .int 0, .ref n2, .ref n3, .ref n4]) :: (n2, eI G 12) :: (n3, eI G 12) :: [(n4, eI G 12)])) (by simp only [List.append_assoc, List.cons_append, List.nil_append]) ?_
  refine rw_putR C B zck7 (Nat.le_of_ble_eq_true rfl) fL_X3_12 rfl rfl rfl rfl rfl (Nat.le_of_ble_eq_true rfl) dX3_init_12 ?_
  refine rw_cast (ws' := u ++ ((q, eO 7 [.ref r1, .null, .null, .null, .int 0, .int 0, .int 0, .int 0]) :: (r1, eO 5 [.int 0, .int 0, .ref n2, .ref n3, .ref n4]) :: (n2, eI G 12) :: (n3, eI G 12) :: [(n4, eI G 12)])) rfl ?_
  refine rw_aload_0 C dX3_init_15 ?_
  refine rw_bipush C (v := nI 12) (by decide) dX3_init_16 ?_
  refine rw_newi C (n := 12) (by decide) (by decide) (by decide) dX3_init_18 (fun r5 => ?_)
  refine rw_cast (ws' := u ++ ((q, eO 7 [.ref r1, .null, .null, .null, .int 0, .int 0, .int 0, .int 0]) :: (r1, eO 5 [.int 0, .int 0, .ref n2, .ref n3, .ref n4]) :: (n2, eI G 12) :: (n3, eI G 12) :: (n4, eI G 12) :: [(r5, eI G 12)])) (by simp only [List.append_assoc, List.cons_append, List.nil_append]) ?_
  refine rw_putR C B zck7 (Nat.le_of_ble_eq_true rfl) fL_X3_18 rfl rfl rfl rfl rfl (Nat.le_of_ble_eq_true rfl) dX3_init_20 ?_
  refine rw_cast (ws' := u ++ ((q, eO 7 [.ref r1, .ref r5, .null, .null, .int 0, .int 0, .int 0, .int 0]) :: (r1, eO 5 [.int 0, .int 0, .ref n2, .ref n3, .ref n4]) :: (n2, eI G 12) :: (n3, eI G 12) :: (n4, eI G 12) :: [(r5, eI G 12)])) rfl ?_
  refine rw_aload_0 C dX3_init_23 ?_
  refine rw_bipush C (v := nI 12) (by decide) dX3_init_24 ?_
  refine rw_newi C (n := 12) (by decide) (by decide) (by decide) dX3_init_26 (fun r6 => ?_)
  refine rw_cast (ws' := u ++ ((q, eO 7 [.ref r1, .ref r5, .null, .null, .int 0, .int 0, .int 0, .int 0]) :: (r1, eO 5 [.int 0, .int 0, .ref n2, .ref n3, .ref n4]) :: (n2, eI G 12) :: (n3, eI G 12) :: (n4, eI G 12) :: (r5, eI G 12) :: [(r6, eI G 12)])) (by simp only [List.append_assoc, List.cons_append, List.nil_append]) ?_
  refine rw_putR C B zck7 (Nat.le_of_ble_eq_true rfl) fL_X3_22 rfl rfl rfl rfl rfl (Nat.le_of_ble_eq_true rfl) dX3_init_28 ?_
  refine rw_cast (ws' := u ++ ((q, eO 7 [.ref r1, .ref r5, .ref r6, .null, .int 0, .int 0, .int 0, .int 0]) :: (r1, eO 5 [.int 0, .int 0, .ref n2, .ref n3, .ref n4]) :: (n2, eI G 12) :: (n3, eI G 12) :: (n4, eI G 12) :: (r5, eI G 12) :: [(r6, eI G 12)])) rfl ?_
  refine rw_aload_0 C dX3_init_31 ?_
  refine rw_iconst C (v := nI 4) (by decide) dX3_init_32 ?_
  refine rw_newq C (n := 4) (t := 3) (K := "RumourHives$Rumour") (fun s e => by rw [e]; exact B.ao.1) nA_X3_25 (by decide) (by decide) (by decide) (by decide) dX3_init_33 (fun r7 => ?_)
  refine rw_cast (ws' := u ++ ((q, eO 7 [.ref r1, .ref r5, .ref r6, .null, .int 0, .int 0, .int 0, .int 0]) :: (r1, eO 5 [.int 0, .int 0, .ref n2, .ref n3, .ref n4]) :: (n2, eI G 12) :: (n3, eI G 12) :: (n4, eI G 12) :: (r5, eI G 12) :: (r6, eI G 12) :: [(r7, eRf G 3 4 (fun _ => none))])) (by simp only [List.append_assoc, List.cons_append, List.nil_append]) ?_
  refine rw_putR C B zck7 (Nat.le_of_ble_eq_true rfl) fL_X3_27 rfl rfl rfl rfl rfl (Nat.le_of_ble_eq_true rfl) dX3_init_36 ?_
  refine rw_cast (ws' := u ++ ((q, eO 7 [.ref r1, .ref r5, .ref r6, .ref r7, .int 0, .int 0, .int 0, .int 0]) :: (r1, eO 5 [.int 0, .int 0, .ref n2, .ref n3, .ref n4]) :: (n2, eI G 12) :: (n3, eI G 12) :: (n4, eI G 12) :: (r5, eI G 12) :: (r6, eI G 12) :: [(r7, eRf G 3 4 (fun _ => none))])) rfl ?_
  refine rw_aload_0 C dX3_init_39 ?_
  refine rw_iconst C (v := nI 0) (by decide) dX3_init_40 ?_
  refine rw_putI C fX3_31 rfl rfl rfl rfl (Nat.le_of_ble_eq_true rfl) dX3_init_41 ?_
  refine rw_cast (ws' := u ++ ((q, eO 7 [.ref r1, .ref r5, .ref r6, .ref r7, .int 0, .int 0, .int 0, .int 0]) :: (r1, eO 5 [.int 0, .int 0, .ref n2, .ref n3, .ref n4]) :: (n2, eI G 12) :: (n3, eI G 12) :: (n4, eI G 12) :: (r5, eI G 12) :: (r6, eI G 12) :: [(r7, eRf G 3 4 (fun _ => none))])) rfl ?_
  refine rw_aload_0 C dX3_init_44 ?_
  refine rw_iconst C (v := nI 0) (by decide) dX3_init_45 ?_
  refine rw_putI C fX3_35 rfl rfl rfl rfl (Nat.le_of_ble_eq_true rfl) dX3_init_46 ?_
  refine rw_cast (ws' := u ++ ((q, eO 7 [.ref r1, .ref r5, .ref r6, .ref r7, .int 0, .int 0, .int 0, .int 0]) :: (r1, eO 5 [.int 0, .int 0, .ref n2, .ref n3, .ref n4]) :: (n2, eI G 12) :: (n3, eI G 12) :: (n4, eI G 12) :: (r5, eI G 12) :: (r6, eI G 12) :: [(r7, eRf G 3 4 (fun _ => none))])) rfl ?_
  refine rw_aload_0 C dX3_init_49 ?_
  refine rw_iconst C (v := nI 0) (by decide) dX3_init_50 ?_
  refine rw_putI C fX3_38 rfl rfl rfl rfl (Nat.le_of_ble_eq_true rfl) dX3_init_51 ?_
  refine rw_cast (ws' := u ++ ((q, eO 7 [.ref r1, .ref r5, .ref r6, .ref r7, .int 0, .int 0, .int 0, .int 0]) :: (r1, eO 5 [.int 0, .int 0, .ref n2, .ref n3, .ref n4]) :: (n2, eI G 12) :: (n3, eI G 12) :: (n4, eI G 12) :: (r5, eI G 12) :: (r6, eI G 12) :: [(r7, eRf G 3 4 (fun _ => none))])) rfl ?_
  refine rw_aload_0 C dX3_init_54 ?_
  refine rw_iconst C (v := nI 0) (by decide) dX3_init_55 ?_
  refine rw_putI C fX3_41 rfl rfl rfl rfl (Nat.le_of_ble_eq_true rfl) dX3_init_56 ?_
  refine rw_cast (ws' := u ++ ((q, eO 7 [.ref r1, .ref r5, .ref r6, .ref r7, .int 0, .int 0, .int 0, .int 0]) :: (r1, eO 5 [.int 0, .int 0, .ref n2, .ref n3, .ref n4]) :: (n2, eI G 12) :: (n3, eI G 12) :: (n4, eI G 12) :: (r5, eI G 12) :: (r6, eI G 12) :: [(r7, eRf G 3 4 (fun _ => none))])) rfl ?_
  refine rw_iconst C (v := nI 0) (by decide) dX3_init_59 ?_
  refine rw_istore_1 C rfl dX3_init_60 ?_
  refine rw_iload_1 C dX3_init_61 ?_
  refine rw_iconst C (v := nI 4) (by decide) dX3_init_62 ?_
  refine rw_icmp_ge C 85 dX3_init_63 (by decide) (fun h => absurd h (by decide)) (fun _ => ?_)
  refine rw_aload_0 C dX3_init_66 ?_
  refine rw_getR C fX3_27 rfl dX3_init_67 ?_
  refine rw_iload_1 C dX3_init_70 ?_
  refine rw_new C [.int 0, .int 0, .int 0, .int 0, .int 0, .null] zck6 nA_X3_25 iI_X2 iN_X2 (N := 6) rfl dfs_X2 (by decide) (by decide) dX3_init_71 (fun r8 => ?_)
  refine rw_dup C rfl dX3_init_74 ?_
  refine rw_callI (as := []) C (fun s e => by rw [e]; exact B.ao) vX2_init rfl rfl lX3_44 dX3_init_75 rfl (Nat.le_of_ble_eq_true rfl) (b_X2_init hl (u := u ++ ((q, eO 7 [.ref r1, .ref r5, .ref r6, .ref r7, .int 0, .int 0, .int 0, .int 0]) :: (r1, eO 5 [.int 0, .int 0, .ref n2, .ref n3, .ref n4]) :: (n2, eI G 12) :: (n3, eI G 12) :: (n4, eI G 12) :: (r5, eI G 12) :: (r6, eI G 12) :: [(r7, eRf G 3 4 (fun _ => none))])) (q := r8)) (by decide) (by decide) (by decide) ?_
  rintro ws' ⟨h9, rfl⟩
  refine rw_cast (ws' := u ++ ((q, eO 7 [.ref r1, .ref r5, .ref r6, .ref r7, .int 0, .int 0, .int 0, .int 0]) :: (r1, eO 5 [.int 0, .int 0, .ref n2, .ref n3, .ref n4]) :: (n2, eI G 12) :: (n3, eI G 12) :: (n4, eI G 12) :: (r5, eI G 12) :: (r6, eI G 12) :: (r7, eRf G 3 4 (fun _ => none)) :: (r8, eO 6 [.int 0, .int 0, .int 0, .int 0, .int 0, .ref h9]) :: [(h9, eI G 12)])) (by simp only [List.append_assoc, List.cons_append, List.nil_append]) ?_
  refine rw_cast (ws' := (u ++ ((q, eO 7 [.ref r1, .ref r5, .ref r6, .ref r7, .int 0, .int 0, .int 0, .int 0]) :: (r1, eO 5 [.int 0, .int 0, .ref n2, .ref n3, .ref n4]) :: (n2, eI G 12) :: (n3, eI G 12) :: (n4, eI G 12) :: (r5, eI G 12) :: [(r6, eI G 12)])) ++ (r7, .inl (G.2.1 (3 + 1), 4, .inr (.inr (.inr (.inr ((fun _ => none))))))) :: ((r8, eO 6 [.int 0, .int 0, .int 0, .int 0, .int 0, .ref h9]) :: [(h9, eI G 12)])) (by simp only [List.append_assoc, List.cons_append, List.nil_append]) ?_
  refine rw_aastM C (i := 0) (t := 3) (ci := 6) (vs := [.int 0, .int 0, .int 0, .int 0, .int 0, .ref h9]) (by decide) (by decide) (by decide) zck6 (by simp) dX3_init_78 ?_
  refine rw_cast (ws' := u ++ ((q, eO 7 [.ref r1, .ref r5, .ref r6, .ref r7, .int 0, .int 0, .int 0, .int 0]) :: (r1, eO 5 [.int 0, .int 0, .ref n2, .ref n3, .ref n4]) :: (n2, eI G 12) :: (n3, eI G 12) :: (n4, eI G 12) :: (r5, eI G 12) :: (r6, eI G 12) :: (r7, eRf G 3 4 (va_up ((fun _ => none)) 0 (some r8))) :: (r8, eO 6 [.int 0, .int 0, .int 0, .int 0, .int 0, .ref h9]) :: [(h9, eI G 12)])) (by simp only [List.append_assoc, List.cons_append, List.nil_append]) ?_
  refine rw_iinc_1 C (v := nI 1) rfl (by decide) dX3_init_79 ?_
  refine rw_goto C 61 dX3_init_82 (by decide) ?_
  refine rw_iload_1 C dX3_init_61 ?_
  refine rw_iconst C (v := nI 4) (by decide) dX3_init_62 ?_
  refine rw_icmp_ge C 85 dX3_init_63 (by decide) (fun h => absurd h (by decide)) (fun _ => ?_)
  refine rw_aload_0 C dX3_init_66 ?_
  refine rw_getR C fX3_27 rfl dX3_init_67 ?_
  refine rw_iload_1 C dX3_init_70 ?_
  refine rw_new C [.int 0, .int 0, .int 0, .int 0, .int 0, .null] zck6 nA_X3_25 iI_X2 iN_X2 (N := 6) rfl dfs_X2 (by decide) (by decide) dX3_init_71 (fun r10 => ?_)
  refine rw_dup C rfl dX3_init_74 ?_
  refine rw_callI (as := []) C (fun s e => by rw [e]; exact B.ao) vX2_init rfl rfl lX3_44 dX3_init_75 rfl (Nat.le_of_ble_eq_true rfl) (b_X2_init hl (u := u ++ ((q, eO 7 [.ref r1, .ref r5, .ref r6, .ref r7, .int 0, .int 0, .int 0, .int 0]) :: (r1, eO 5 [.int 0, .int 0, .ref n2, .ref n3, .ref n4]) :: (n2, eI G 12) :: (n3, eI G 12) :: (n4, eI G 12) :: (r5, eI G 12) :: (r6, eI G 12) :: (r7, eRf G 3 4 (va_up ((fun _ => none)) 0 (some r8))) :: (r8, eO 6 [.int 0, .int 0, .int 0, .int 0, .int 0, .ref h9]) :: [(h9, eI G 12)])) (q := r10)) (by decide) (by decide) (by decide) ?_
  rintro ws' ⟨h11, rfl⟩
  refine rw_cast (ws' := u ++ ((q, eO 7 [.ref r1, .ref r5, .ref r6, .ref r7, .int 0, .int 0, .int 0, .int 0]) :: (r1, eO 5 [.int 0, .int 0, .ref n2, .ref n3, .ref n4]) :: (n2, eI G 12) :: (n3, eI G 12) :: (n4, eI G 12) :: (r5, eI G 12) :: (r6, eI G 12) :: (r7, eRf G 3 4 (va_up ((fun _ => none)) 0 (some r8))) :: (r8, eO 6 [.int 0, .int 0, .int 0, .int 0, .int 0, .ref h9]) :: (h9, eI G 12) :: (r10, eO 6 [.int 0, .int 0, .int 0, .int 0, .int 0, .ref h11]) :: [(h11, eI G 12)])) (by simp only [List.append_assoc, List.cons_append, List.nil_append]) ?_
  refine rw_cast (ws' := (u ++ ((q, eO 7 [.ref r1, .ref r5, .ref r6, .ref r7, .int 0, .int 0, .int 0, .int 0]) :: (r1, eO 5 [.int 0, .int 0, .ref n2, .ref n3, .ref n4]) :: (n2, eI G 12) :: (n3, eI G 12) :: (n4, eI G 12) :: (r5, eI G 12) :: [(r6, eI G 12)])) ++ (r7, .inl (G.2.1 (3 + 1), 4, .inr (.inr (.inr (.inr (va_up ((fun _ => none)) 0 (some r8))))))) :: ((r8, eO 6 [.int 0, .int 0, .int 0, .int 0, .int 0, .ref h9]) :: (h9, eI G 12) :: (r10, eO 6 [.int 0, .int 0, .int 0, .int 0, .int 0, .ref h11]) :: [(h11, eI G 12)])) (by simp only [List.append_assoc, List.cons_append, List.nil_append]) ?_
  refine rw_aastM C (i := 1) (t := 3) (ci := 6) (vs := [.int 0, .int 0, .int 0, .int 0, .int 0, .ref h11]) (by decide) (by decide) (by decide) zck6 (by simp) dX3_init_78 ?_
  refine rw_cast (ws' := u ++ ((q, eO 7 [.ref r1, .ref r5, .ref r6, .ref r7, .int 0, .int 0, .int 0, .int 0]) :: (r1, eO 5 [.int 0, .int 0, .ref n2, .ref n3, .ref n4]) :: (n2, eI G 12) :: (n3, eI G 12) :: (n4, eI G 12) :: (r5, eI G 12) :: (r6, eI G 12) :: (r7, eRf G 3 4 (va_up (va_up ((fun _ => none)) 0 (some r8)) 1 (some r10))) :: (r8, eO 6 [.int 0, .int 0, .int 0, .int 0, .int 0, .ref h9]) :: (h9, eI G 12) :: (r10, eO 6 [.int 0, .int 0, .int 0, .int 0, .int 0, .ref h11]) :: [(h11, eI G 12)])) (by simp only [List.append_assoc, List.cons_append, List.nil_append]) ?_
  refine rw_iinc_1 C (v := nI 2) rfl (by decide) dX3_init_79 ?_
  refine rw_goto C 61 dX3_init_82 (by decide) ?_
  refine rw_iload_1 C dX3_init_61 ?_
  refine rw_iconst C (v := nI 4) (by decide) dX3_init_62 ?_
  refine rw_icmp_ge C 85 dX3_init_63 (by decide) (fun h => absurd h (by decide)) (fun _ => ?_)
  refine rw_aload_0 C dX3_init_66 ?_
  refine rw_getR C fX3_27 rfl dX3_init_67 ?_
  refine rw_iload_1 C dX3_init_70 ?_
  refine rw_new C [.int 0, .int 0, .int 0, .int 0, .int 0, .null] zck6 nA_X3_25 iI_X2 iN_X2 (N := 6) rfl dfs_X2 (by decide) (by decide) dX3_init_71 (fun r12 => ?_)
  refine rw_dup C rfl dX3_init_74 ?_
  refine rw_callI (as := []) C (fun s e => by rw [e]; exact B.ao) vX2_init rfl rfl lX3_44 dX3_init_75 rfl (Nat.le_of_ble_eq_true rfl) (b_X2_init hl (u := u ++ ((q, eO 7 [.ref r1, .ref r5, .ref r6, .ref r7, .int 0, .int 0, .int 0, .int 0]) :: (r1, eO 5 [.int 0, .int 0, .ref n2, .ref n3, .ref n4]) :: (n2, eI G 12) :: (n3, eI G 12) :: (n4, eI G 12) :: (r5, eI G 12) :: (r6, eI G 12) :: (r7, eRf G 3 4 (va_up (va_up ((fun _ => none)) 0 (some r8)) 1 (some r10))) :: (r8, eO 6 [.int 0, .int 0, .int 0, .int 0, .int 0, .ref h9]) :: (h9, eI G 12) :: (r10, eO 6 [.int 0, .int 0, .int 0, .int 0, .int 0, .ref h11]) :: [(h11, eI G 12)])) (q := r12)) (by decide) (by decide) (by decide) ?_
  rintro ws' ⟨h13, rfl⟩
  refine rw_cast (ws' := u ++ ((q, eO 7 [.ref r1, .ref r5, .ref r6, .ref r7, .int 0, .int 0, .int 0, .int 0]) :: (r1, eO 5 [.int 0, .int 0, .ref n2, .ref n3, .ref n4]) :: (n2, eI G 12) :: (n3, eI G 12) :: (n4, eI G 12) :: (r5, eI G 12) :: (r6, eI G 12) :: (r7, eRf G 3 4 (va_up (va_up ((fun _ => none)) 0 (some r8)) 1 (some r10))) :: (r8, eO 6 [.int 0, .int 0, .int 0, .int 0, .int 0, .ref h9]) :: (h9, eI G 12) :: (r10, eO 6 [.int 0, .int 0, .int 0, .int 0, .int 0, .ref h11]) :: (h11, eI G 12) :: (r12, eO 6 [.int 0, .int 0, .int 0, .int 0, .int 0, .ref h13]) :: [(h13, eI G 12)])) (by simp only [List.append_assoc, List.cons_append, List.nil_append]) ?_
  refine rw_cast (ws' := (u ++ ((q, eO 7 [.ref r1, .ref r5, .ref r6, .ref r7, .int 0, .int 0, .int 0, .int 0]) :: (r1, eO 5 [.int 0, .int 0, .ref n2, .ref n3, .ref n4]) :: (n2, eI G 12) :: (n3, eI G 12) :: (n4, eI G 12) :: (r5, eI G 12) :: [(r6, eI G 12)])) ++ (r7, .inl (G.2.1 (3 + 1), 4, .inr (.inr (.inr (.inr (va_up (va_up ((fun _ => none)) 0 (some r8)) 1 (some r10))))))) :: ((r8, eO 6 [.int 0, .int 0, .int 0, .int 0, .int 0, .ref h9]) :: (h9, eI G 12) :: (r10, eO 6 [.int 0, .int 0, .int 0, .int 0, .int 0, .ref h11]) :: (h11, eI G 12) :: (r12, eO 6 [.int 0, .int 0, .int 0, .int 0, .int 0, .ref h13]) :: [(h13, eI G 12)])) (by simp only [List.append_assoc, List.cons_append, List.nil_append]) ?_
  refine rw_aastM C (i := 2) (t := 3) (ci := 6) (vs := [.int 0, .int 0, .int 0, .int 0, .int 0, .ref h13]) (by decide) (by decide) (by decide) zck6 (by simp) dX3_init_78 ?_
  refine rw_cast (ws' := u ++ ((q, eO 7 [.ref r1, .ref r5, .ref r6, .ref r7, .int 0, .int 0, .int 0, .int 0]) :: (r1, eO 5 [.int 0, .int 0, .ref n2, .ref n3, .ref n4]) :: (n2, eI G 12) :: (n3, eI G 12) :: (n4, eI G 12) :: (r5, eI G 12) :: (r6, eI G 12) :: (r7, eRf G 3 4 (va_up (va_up (va_up ((fun _ => none)) 0 (some r8)) 1 (some r10)) 2 (some r12))) :: (r8, eO 6 [.int 0, .int 0, .int 0, .int 0, .int 0, .ref h9]) :: (h9, eI G 12) :: (r10, eO 6 [.int 0, .int 0, .int 0, .int 0, .int 0, .ref h11]) :: (h11, eI G 12) :: (r12, eO 6 [.int 0, .int 0, .int 0, .int 0, .int 0, .ref h13]) :: [(h13, eI G 12)])) (by simp only [List.append_assoc, List.cons_append, List.nil_append]) ?_
  refine rw_iinc_1 C (v := nI 3) rfl (by decide) dX3_init_79 ?_
  refine rw_goto C 61 dX3_init_82 (by decide) ?_
  refine rw_iload_1 C dX3_init_61 ?_
  refine rw_iconst C (v := nI 4) (by decide) dX3_init_62 ?_
  refine rw_icmp_ge C 85 dX3_init_63 (by decide) (fun h => absurd h (by decide)) (fun _ => ?_)
  refine rw_aload_0 C dX3_init_66 ?_
  refine rw_getR C fX3_27 rfl dX3_init_67 ?_
  refine rw_iload_1 C dX3_init_70 ?_
  refine rw_new C [.int 0, .int 0, .int 0, .int 0, .int 0, .null] zck6 nA_X3_25 iI_X2 iN_X2 (N := 6) rfl dfs_X2 (by decide) (by decide) dX3_init_71 (fun r14 => ?_)
  refine rw_dup C rfl dX3_init_74 ?_
  refine rw_callI (as := []) C (fun s e => by rw [e]; exact B.ao) vX2_init rfl rfl lX3_44 dX3_init_75 rfl (Nat.le_of_ble_eq_true rfl) (b_X2_init hl (u := u ++ ((q, eO 7 [.ref r1, .ref r5, .ref r6, .ref r7, .int 0, .int 0, .int 0, .int 0]) :: (r1, eO 5 [.int 0, .int 0, .ref n2, .ref n3, .ref n4]) :: (n2, eI G 12) :: (n3, eI G 12) :: (n4, eI G 12) :: (r5, eI G 12) :: (r6, eI G 12) :: (r7, eRf G 3 4 (va_up (va_up (va_up ((fun _ => none)) 0 (some r8)) 1 (some r10)) 2 (some r12))) :: (r8, eO 6 [.int 0, .int 0, .int 0, .int 0, .int 0, .ref h9]) :: (h9, eI G 12) :: (r10, eO 6 [.int 0, .int 0, .int 0, .int 0, .int 0, .ref h11]) :: (h11, eI G 12) :: (r12, eO 6 [.int 0, .int 0, .int 0, .int 0, .int 0, .ref h13]) :: [(h13, eI G 12)])) (q := r14)) (by decide) (by decide) (by decide) ?_
  rintro ws' ⟨h15, rfl⟩
  refine rw_cast (ws' := u ++ ((q, eO 7 [.ref r1, .ref r5, .ref r6, .ref r7, .int 0, .int 0, .int 0, .int 0]) :: (r1, eO 5 [.int 0, .int 0, .ref n2, .ref n3, .ref n4]) :: (n2, eI G 12) :: (n3, eI G 12) :: (n4, eI G 12) :: (r5, eI G 12) :: (r6, eI G 12) :: (r7, eRf G 3 4 (va_up (va_up (va_up ((fun _ => none)) 0 (some r8)) 1 (some r10)) 2 (some r12))) :: (r8, eO 6 [.int 0, .int 0, .int 0, .int 0, .int 0, .ref h9]) :: (h9, eI G 12) :: (r10, eO 6 [.int 0, .int 0, .int 0, .int 0, .int 0, .ref h11]) :: (h11, eI G 12) :: (r12, eO 6 [.int 0, .int 0, .int 0, .int 0, .int 0, .ref h13]) :: (h13, eI G 12) :: (r14, eO 6 [.int 0, .int 0, .int 0, .int 0, .int 0, .ref h15]) :: [(h15, eI G 12)])) (by simp only [List.append_assoc, List.cons_append, List.nil_append]) ?_
  refine rw_cast (ws' := (u ++ ((q, eO 7 [.ref r1, .ref r5, .ref r6, .ref r7, .int 0, .int 0, .int 0, .int 0]) :: (r1, eO 5 [.int 0, .int 0, .ref n2, .ref n3, .ref n4]) :: (n2, eI G 12) :: (n3, eI G 12) :: (n4, eI G 12) :: (r5, eI G 12) :: [(r6, eI G 12)])) ++ (r7, .inl (G.2.1 (3 + 1), 4, .inr (.inr (.inr (.inr (va_up (va_up (va_up ((fun _ => none)) 0 (some r8)) 1 (some r10)) 2 (some r12))))))) :: ((r8, eO 6 [.int 0, .int 0, .int 0, .int 0, .int 0, .ref h9]) :: (h9, eI G 12) :: (r10, eO 6 [.int 0, .int 0, .int 0, .int 0, .int 0, .ref h11]) :: (h11, eI G 12) :: (r12, eO 6 [.int 0, .int 0, .int 0, .int 0, .int 0, .ref h13]) :: (h13, eI G 12) :: (r14, eO 6 [.int 0, .int 0, .int 0, .int 0, .int 0, .ref h15]) :: [(h15, eI G 12)])) (by simp only [List.append_assoc, List.cons_append, List.nil_append]) ?_
  refine rw_aastM C (i := 3) (t := 3) (ci := 6) (vs := [.int 0, .int 0, .int 0, .int 0, .int 0, .ref h15]) (by decide) (by decide) (by decide) zck6 (by simp) dX3_init_78 ?_
  refine rw_cast (ws' := u ++ ((q, eO 7 [.ref r1, .ref r5, .ref r6, .ref r7, .int 0, .int 0, .int 0, .int 0]) :: (r1, eO 5 [.int 0, .int 0, .ref n2, .ref n3, .ref n4]) :: (n2, eI G 12) :: (n3, eI G 12) :: (n4, eI G 12) :: (r5, eI G 12) :: (r6, eI G 12) :: (r7, eRf G 3 4 (va_up (va_up (va_up (va_up ((fun _ => none)) 0 (some r8)) 1 (some r10)) 2 (some r12)) 3 (some r14))) :: (r8, eO 6 [.int 0, .int 0, .int 0, .int 0, .int 0, .ref h9]) :: (h9, eI G 12) :: (r10, eO 6 [.int 0, .int 0, .int 0, .int 0, .int 0, .ref h11]) :: (h11, eI G 12) :: (r12, eO 6 [.int 0, .int 0, .int 0, .int 0, .int 0, .ref h13]) :: (h13, eI G 12) :: (r14, eO 6 [.int 0, .int 0, .int 0, .int 0, .int 0, .ref h15]) :: [(h15, eI G 12)])) (by simp only [List.append_assoc, List.cons_append, List.nil_append]) ?_
  refine rw_iinc_1 C (v := nI 4) rfl (by decide) dX3_init_79 ?_
  refine rw_goto C 61 dX3_init_82 (by decide) ?_
  refine rw_iload_1 C dX3_init_61 ?_
  refine rw_iconst C (v := nI 4) (by decide) dX3_init_62 ?_
  refine rw_icmp_ge C 85 dX3_init_63 (by decide) (fun _ => ?_) (fun h => absurd (by decide) h)
  exact rw_bret C rfl hF dX3_init_85 (by decide) (by decide) ⟨fun k => [q, r1, n2, n3, n4, r5, r6, r7, r8, h9, r10, h11, r12, h13, r14, h15].getD k 0, rfl, rfl⟩
theorem oI_X4 : Cond.methodLink RX4 3 Lib.objectInit ∈ lw_tbl := (List.mem_of_getElem? (i := 193) (by decide +kernel))
theorem fL_X4_9 : Cond.fieldLink RX4 9 ((zCls 8).2.1 0).1 ((zCls 8).2.1 0).2.1 ((zCls 8).2.1 0).2.2.1 ∈ lw_tbl := (List.mem_of_getElem? (i := 194) (by decide +kernel))
theorem fL_X4_19 : Cond.fieldLink RX4 19 ((zCls 8).2.1 2).1 ((zCls 8).2.1 2).2.1 ((zCls 8).2.1 2).2.2.1 ∈ lw_tbl := (List.mem_of_getElem? (i := 197) (by decide +kernel))
theorem fL_X4_23 : Cond.fieldLink RX4 23 ((zCls 8).2.1 3).1 ((zCls 8).2.1 3).2.1 ((zCls 8).2.1 3).2.2.1 ∈ lw_tbl := (List.mem_of_getElem? (i := 199) (by decide +kernel))
theorem fL_X4_26 : Cond.fieldLink RX4 26 ((zCls 8).2.1 4).1 ((zCls 8).2.1 4).2.1 ((zCls 8).2.1 4).2.2.1 ∈ lw_tbl := (List.mem_of_getElem? (i := 201) (by decide +kernel))
set_option maxRecDepth 100000 in
set_option maxHeartbeats 8000000 in
theorem b_X4_init {l : Launch} (hl : l.stackTraces = false) {G : zG} {u : va_W} {q : Nat} : bCR l G mX4_init 0 4 240 [.ref q] (u ++ [(q, eO 8 [.null, .int 0, .null, .null, .null, .int 0, .int 0, .int 0, .int 0, .int 0, .int 0])]) (fun ws' => ∃ a b c d, ws' = u ++ [(q, eO 8 [.ref a, .int 0, .ref b, .ref c, .ref d, .int 0, .int 0, .int 0, .int 0, .int 0, .int 0]), (a, eC G 60), (b, eI G 60), (c, eI G 60), (d, eI G 60)]) := by
  refine bCR.of hl (by decide) rfl rfl (Nat.le_of_ble_eq_true rfl) (ls := [some (.ref q)]) rfl (fun X C B hF hX => ?_)
  subst hX
  refine rw_aload_0 C dX4_init_0 ?_
  refine rw_objInit C oI_X4 (Nat.le_of_ble_eq_true rfl) dX4_init_1 ?_
  refine rw_aload_0 C dX4_init_4 ?_
  refine rw_bipush C (v := nI 60) (by decide) dX4_init_5 ?_
  refine rw_newc C (n := 60) (by decide) (by decide) (by decide) dX4_init_7 (fun r1 => ?_)
  refine rw_cast (ws' := u ++ ((q, eO 8 [.null, .int 0, .null, .null, .null, .int 0, .int 0, .int 0, .int 0, .int 0, .int 0]) :: [(r1, eC G 60)])) (by simp only [List.append_assoc, List.cons_append, List.nil_append]) ?_
  refine rw_putR C B zck8 (Nat.le_of_ble_eq_true rfl) fL_X4_9 rfl rfl rfl rfl rfl (Nat.le_of_ble_eq_true rfl) dX4_init_9 ?_
  refine rw_cast (ws' := u ++ ((q, eO 8 [.ref r1, .int 0, .null, .null, .null, .int 0, .int 0, .int 0, .int 0, .int 0, .int 0]) :: [(r1, eC G 60)])) rfl ?_
  refine rw_aload_0 C dX4_init_12 ?_
  refine rw_iconst C (v := nI 0) (by decide) dX4_init_13 ?_
  refine rw_putI C fX4_15 rfl rfl rfl rfl (Nat.le_of_ble_eq_true rfl) dX4_init_14 ?_
  refine rw_cast (ws' := u ++ ((q, eO 8 [.ref r1, .int 0, .null, .null, .null, .int 0, .int 0, .int 0, .int 0, .int 0, .int 0]) :: [(r1, eC G 60)])) rfl ?_
  refine rw_aload_0 C dX4_init_17 ?_
  refine rw_bipush C (v := nI 60) (by decide) dX4_init_18 ?_
  refine rw_newi C (n := 60) (by decide) (by decide) (by decide) dX4_init_20 (fun r2 => ?_)
  refine rw_cast (ws' := u ++ ((q, eO 8 [.ref r1, .int 0, .null, .null, .null, .int 0, .int 0, .int 0, .int 0, .int 0, .int 0]) :: (r1, eC G 60) :: [(r2, eI G 60)])) (by simp only [List.append_assoc, List.cons_append, List.nil_append]) ?_
  refine rw_putR C B zck8 (Nat.le_of_ble_eq_true rfl) fL_X4_19 rfl rfl rfl rfl rfl (Nat.le_of_ble_eq_true rfl) dX4_init_22 ?_
  refine rw_cast (ws' := u ++ ((q, eO 8 [.ref r1, .int 0, .ref r2, .null, .null, .int 0, .int 0, .int 0, .int 0, .int 0, .int 0]) :: (r1, eC G 60) :: [(r2, eI G 60)])) rfl ?_
  refine rw_aload_0 C dX4_init_25 ?_
  refine rw_bipush C (v := nI 60) (by decide) dX4_init_26 ?_
  refine rw_newi C (n := 60) (by decide) (by decide) (by decide) dX4_init_28 (fun r3 => ?_)
  refine rw_cast (ws' := u ++ ((q, eO 8 [.ref r1, .int 0, .ref r2, .null, .null, .int 0, .int 0, .int 0, .int 0, .int 0, .int 0]) :: (r1, eC G 60) :: (r2, eI G 60) :: [(r3, eI G 60)])) (by simp only [List.append_assoc, List.cons_append, List.nil_append]) ?_
  refine rw_putR C B zck8 (Nat.le_of_ble_eq_true rfl) fL_X4_23 rfl rfl rfl rfl rfl (Nat.le_of_ble_eq_true rfl) dX4_init_30 ?_
  refine rw_cast (ws' := u ++ ((q, eO 8 [.ref r1, .int 0, .ref r2, .ref r3, .null, .int 0, .int 0, .int 0, .int 0, .int 0, .int 0]) :: (r1, eC G 60) :: (r2, eI G 60) :: [(r3, eI G 60)])) rfl ?_
  refine rw_aload_0 C dX4_init_33 ?_
  refine rw_bipush C (v := nI 60) (by decide) dX4_init_34 ?_
  refine rw_newi C (n := 60) (by decide) (by decide) (by decide) dX4_init_36 (fun r4 => ?_)
  refine rw_cast (ws' := u ++ ((q, eO 8 [.ref r1, .int 0, .ref r2, .ref r3, .null, .int 0, .int 0, .int 0, .int 0, .int 0, .int 0]) :: (r1, eC G 60) :: (r2, eI G 60) :: (r3, eI G 60) :: [(r4, eI G 60)])) (by simp only [List.append_assoc, List.cons_append, List.nil_append]) ?_
  refine rw_putR C B zck8 (Nat.le_of_ble_eq_true rfl) fL_X4_26 rfl rfl rfl rfl rfl (Nat.le_of_ble_eq_true rfl) dX4_init_38 ?_
  refine rw_cast (ws' := u ++ ((q, eO 8 [.ref r1, .int 0, .ref r2, .ref r3, .ref r4, .int 0, .int 0, .int 0, .int 0, .int 0, .int 0]) :: (r1, eC G 60) :: (r2, eI G 60) :: (r3, eI G 60) :: [(r4, eI G 60)])) rfl ?_
  refine rw_aload_0 C dX4_init_41 ?_
  refine rw_iconst C (v := nI 0) (by decide) dX4_init_42 ?_
  refine rw_putI C fX4_29 rfl rfl rfl rfl (Nat.le_of_ble_eq_true rfl) dX4_init_43 ?_
  refine rw_cast (ws' := u ++ ((q, eO 8 [.ref r1, .int 0, .ref r2, .ref r3, .ref r4, .int 0, .int 0, .int 0, .int 0, .int 0, .int 0]) :: (r1, eC G 60) :: (r2, eI G 60) :: (r3, eI G 60) :: [(r4, eI G 60)])) rfl ?_
  refine rw_aload_0 C dX4_init_46 ?_
  refine rw_iconst C (v := nI 0) (by decide) dX4_init_47 ?_
  refine rw_putI C fX4_32 rfl rfl rfl rfl (Nat.le_of_ble_eq_true rfl) dX4_init_48 ?_
  refine rw_cast (ws' := u ++ ((q, eO 8 [.ref r1, .int 0, .ref r2, .ref r3, .ref r4, .int 0, .int 0, .int 0, .int 0, .int 0, .int 0]) :: (r1, eC G 60) :: (r2, eI G 60) :: (r3, eI G 60) :: [(r4, eI G 60)])) rfl ?_
  refine rw_aload_0 C dX4_init_51 ?_
  refine rw_iconst C (v := nI 0) (by decide) dX4_init_52 ?_
  refine rw_putI C fX4_35 rfl rfl rfl rfl (Nat.le_of_ble_eq_true rfl) dX4_init_53 ?_
  refine rw_cast (ws' := u ++ ((q, eO 8 [.ref r1, .int 0, .ref r2, .ref r3, .ref r4, .int 0, .int 0, .int 0, .int 0, .int 0, .int 0]) :: (r1, eC G 60) :: (r2, eI G 60) :: (r3, eI G 60) :: [(r4, eI G 60)])) rfl ?_
  refine rw_aload_0 C dX4_init_56 ?_
  refine rw_iconst C (v := nI 0) (by decide) dX4_init_57 ?_
  refine rw_putI C fX4_39 rfl rfl rfl rfl (Nat.le_of_ble_eq_true rfl) dX4_init_58 ?_
  refine rw_cast (ws' := u ++ ((q, eO 8 [.ref r1, .int 0, .ref r2, .ref r3, .ref r4, .int 0, .int 0, .int 0, .int 0, .int 0, .int 0]) :: (r1, eC G 60) :: (r2, eI G 60) :: (r3, eI G 60) :: [(r4, eI G 60)])) rfl ?_
  refine rw_aload_0 C dX4_init_61 ?_
  refine rw_iconst C (v := nI 0) (by decide) dX4_init_62 ?_
  refine rw_putI C fX4_42 rfl rfl rfl rfl (Nat.le_of_ble_eq_true rfl) dX4_init_63 ?_
  refine rw_cast (ws' := u ++ ((q, eO 8 [.ref r1, .int 0, .ref r2, .ref r3, .ref r4, .int 0, .int 0, .int 0, .int 0, .int 0, .int 0]) :: (r1, eC G 60) :: (r2, eI G 60) :: (r3, eI G 60) :: [(r4, eI G 60)])) rfl ?_
  refine rw_aload_0 C dX4_init_66 ?_
  refine rw_iconst C (v := nI 0) (by decide) dX4_init_67 ?_
  refine rw_putI C fX4_45 rfl rfl rfl rfl (Nat.le_of_ble_eq_true rfl) dX4_init_68 ?_
  refine rw_cast (ws' := u ++ ((q, eO 8 [.ref r1, .int 0, .ref r2, .ref r3, .ref r4, .int 0, .int 0, .int 0, .int 0, .int 0, .int 0]) :: (r1, eC G 60) :: (r2, eI G 60) :: (r3, eI G 60) :: [(r4, eI G 60)])) rfl ?_
  exact rw_bret C rfl hF dX4_init_71 (by decide) (by decide) ⟨_, _, _, _, rfl⟩
theorem oI_X0 : Cond.methodLink RX0 3 Lib.objectInit ∈ lw_tbl := (List.mem_of_getElem? (i := 171) (by decide +kernel))
theorem nA_X0_9 : Cond.classLink RX0 9 "RumourHives$Scene" ∈ lw_tbl := (List.mem_of_getElem? (i := 172) (by decide +kernel))
theorem fL_X0_11 : Cond.fieldLink RX0 11 ((zCls 4).2.1 0).1 ((zCls 4).2.1 0).2.1 ((zCls 4).2.1 0).2.2.1 ∈ lw_tbl := (List.mem_of_getElem? (i := 175) (by decide +kernel))
set_option maxRecDepth 100000 in
set_option maxHeartbeats 8000000 in
theorem b_X0_init {l : Launch} (hl : l.stackTraces = false) {G : zG} {u : va_W} {q : Nat} : bCR l G mX0_init 2 129 1200 [.ref q] (u ++ [(q, eO 4 [.null, .int 0, .int 0])]) (fun ws' => ∃ a f0 f1 f2 f3 f4 f5 f6 f7, ws' = u ++ ((q, eO 4 [.ref a, .int 0, .int 0]) :: (a, eRf G 4 8 (va_up (va_up (va_up (va_up (va_up (va_up (va_up (va_up ((fun _ => none)) 0 (some (f0 0))) 1 (some (f1 0))) 2 (some (f2 0))) 3 (some (f3 0))) 4 (some (f4 0))) 5 (some (f5 0))) 6 (some (f6 0))) 7 (some (f7 0)))) :: (scnL G f0 ++ (scnL G f1 ++ (scnL G f2 ++ (scnL G f3 ++ (scnL G f4 ++ (scnL G f5 ++ (scnL G f6 ++ (scnL G f7)))))))))) := by
  refine bCR.of hl (by decide) rfl rfl (Nat.le_of_ble_eq_true rfl) (ls := [some (.ref q), none]) rfl (fun X C B hF hX => ?_)
  subst hX
  refine rw_aload_0 C dX0_init_0 ?_
  refine rw_objInit C oI_X0 (Nat.le_of_ble_eq_true rfl) dX0_init_1 ?_
  refine rw_aload_0 C dX0_init_4 ?_
  refine rw_bipush C (v := nI 8) (by decide) dX0_init_5 ?_
  refine rw_newq C (n := 8) (t := 4) (K := "RumourHives$Scene") (fun s e => by rw [e]; exact B.ao.2) nA_X0_9 (by decide) (by decide) (by decide) (by decide) dX0_init_7 (fun r1 => ?_)
  refine rw_cast (ws' := u ++ ((q, eO 4 [.null, .int 0, .int 0]) :: [(r1, eRf G 4 8 (fun _ => none))])) (by simp only [List.append_assoc, List.cons_append, List.nil_append]) ?_
  refine rw_putR C B zck4 (Nat.le_of_ble_eq_true rfl) fL_X0_11 rfl rfl rfl rfl rfl (Nat.le_of_ble_eq_true rfl) dX0_init_10 ?_
  refine rw_cast (ws' := u ++ ((q, eO 4 [.ref r1, .int 0, .int 0]) :: [(r1, eRf G 4 8 (fun _ => none))])) rfl ?_
  refine rw_aload_0 C dX0_init_13 ?_
  refine rw_iconst C (v := nI 0) (by decide) dX0_init_14 ?_
  refine rw_putI C fX0_17 rfl rfl rfl rfl (Nat.le_of_ble_eq_true rfl) dX0_init_15 ?_
  refine rw_cast (ws' := u ++ ((q, eO 4 [.ref r1, .int 0, .int 0]) :: [(r1, eRf G 4 8 (fun _ => none))])) rfl ?_
  refine rw_aload_0 C dX0_init_18 ?_
  refine rw_iconst C (v := nI 0) (by decide) dX0_init_19 ?_
  refine rw_putI C fX0_21 rfl rfl rfl rfl (Nat.le_of_ble_eq_true rfl) dX0_init_20 ?_
  refine rw_cast (ws' := u ++ ((q, eO 4 [.ref r1, .int 0, .int 0]) :: [(r1, eRf G 4 8 (fun _ => none))])) rfl ?_
  refine rw_iconst C (v := nI 0) (by decide) dX0_init_23 ?_
  refine rw_istore_1 C rfl dX0_init_24 ?_
  refine rw_iload_1 C dX0_init_25 ?_
  refine rw_bipush C (v := nI 8) (by decide) dX0_init_26 ?_
  refine rw_icmp_ge C 50 dX0_init_28 (by decide) (fun h => absurd h (by decide)) (fun _ => ?_)
  refine rw_aload_0 C dX0_init_31 ?_
  refine rw_getR C fX0_11 rfl dX0_init_32 ?_
  refine rw_iload_1 C dX0_init_35 ?_
  refine rw_new C [.null, .null, .null, .null, .int 0, .int 0, .int 0, .int 0] zck7 nA_X0_9 iI_X3 iN_X3 (N := 8) rfl dfs_X3 (by decide) (by decide) dX0_init_36 (fun r2 => ?_)
  refine rw_dup C rfl dX0_init_39 ?_
  refine rw_callI (as := []) C (fun s e => by rw [e]; exact B.ao) vX3_init rfl rfl lX0_24 dX0_init_40 rfl (Nat.le_of_ble_eq_true rfl) (b_X3_init hl (u := u ++ ((q, eO 4 [.ref r1, .int 0, .int 0]) :: [(r1, eRf G 4 8 (fun _ => none))])) (q := r2)) (by decide) (by decide) (by decide) ?_
  rintro ws' ⟨f3, rfl, rfl⟩
  refine rw_cast (ws' := u ++ ((q, eO 4 [.ref r1, .int 0, .int 0]) :: (r1, eRf G 4 8 (fun _ => none)) :: scnL G f3)) (by simp only [List.append_assoc, List.cons_append, List.nil_append]) ?_
  refine rw_cast (ws' := (u ++ ([(q, eO 4 [.ref r1, .int 0, .int 0])])) ++ (r1, .inl (G.2.1 (4 + 1), 8, .inr (.inr (.inr (.inr ((fun _ => none))))))) :: (scnL G f3)) (by simp only [List.append_assoc, List.cons_append, List.nil_append]) ?_
  refine rw_aastM C (i := 0) (t := 4) (ci := 7) (vs := [.ref (f3 1), .ref (f3 5), .ref (f3 6), .ref (f3 7), .int 0, .int 0, .int 0, .int 0]) (by decide) (by decide) (by decide) zck7 (scnL_mem rfl) dX0_init_43 ?_
  refine rw_cast (ws' := u ++ ((q, eO 4 [.ref r1, .int 0, .int 0]) :: (r1, eRf G 4 8 (va_up ((fun _ => none)) 0 (some (f3 0)))) :: scnL G f3)) (by simp only [List.append_assoc, List.cons_append, List.nil_append]) ?_
  refine rw_iinc_1 C (v := nI 1) rfl (by decide) dX0_init_44 ?_
  refine rw_goto C 25 dX0_init_47 (by decide) ?_
  refine rw_iload_1 C dX0_init_25 ?_
  refine rw_bipush C (v := nI 8) (by decide) dX0_init_26 ?_
  refine rw_icmp_ge C 50 dX0_init_28 (by decide) (fun h => absurd h (by decide)) (fun _ => ?_)
  refine rw_aload_0 C dX0_init_31 ?_
  refine rw_getR C fX0_11 rfl dX0_init_32 ?_
  refine rw_iload_1 C dX0_init_35 ?_
  refine rw_new C [.null, .null, .null, .null, .int 0, .int 0, .int 0, .int 0] zck7 nA_X0_9 iI_X3 iN_X3 (N := 8) rfl dfs_X3 (by decide) (by decide) dX0_init_36 (fun r4 => ?_)
  refine rw_dup C rfl dX0_init_39 ?_
  refine rw_callI (as := []) C (fun s e => by rw [e]; exact B.ao) vX3_init rfl rfl lX0_24 dX0_init_40 rfl (Nat.le_of_ble_eq_true rfl) (b_X3_init hl (u := u ++ ((q, eO 4 [.ref r1, .int 0, .int 0]) :: (r1, eRf G 4 8 (va_up ((fun _ => none)) 0 (some (f3 0)))) :: scnL G f3)) (q := r4)) (by decide) (by decide) (by decide) ?_
  rintro ws' ⟨f5, rfl, rfl⟩
  refine rw_cast (ws' := u ++ ((q, eO 4 [.ref r1, .int 0, .int 0]) :: (r1, eRf G 4 8 (va_up ((fun _ => none)) 0 (some (f3 0)))) :: scnL G f3 ++ (scnL G f5))) (by simp only [List.append_assoc, List.cons_append, List.nil_append]) ?_
  refine rw_cast (ws' := (u ++ ([(q, eO 4 [.ref r1, .int 0, .int 0])])) ++ (r1, .inl (G.2.1 (4 + 1), 8, .inr (.inr (.inr (.inr (va_up ((fun _ => none)) 0 (some (f3 0)))))))) :: (scnL G f3 ++ (scnL G f5))) (by simp only [List.append_assoc, List.cons_append, List.nil_append]) ?_
  refine rw_aastM C (i := 1) (t := 4) (ci := 7) (vs := [.ref (f5 1), .ref (f5 5), .ref (f5 6), .ref (f5 7), .int 0, .int 0, .int 0, .int 0]) (by decide) (by decide) (by decide) zck7 (List.mem_append_right _ (scnL_mem rfl)) dX0_init_43 ?_
  refine rw_cast (ws' := u ++ ((q, eO 4 [.ref r1, .int 0, .int 0]) :: (r1, eRf G 4 8 (va_up (va_up ((fun _ => none)) 0 (some (f3 0))) 1 (some (f5 0)))) :: scnL G f3 ++ (scnL G f5))) (by simp only [List.append_assoc, List.cons_append, List.nil_append]) ?_
  refine rw_iinc_1 C (v := nI 2) rfl (by decide) dX0_init_44 ?_
  refine rw_goto C 25 dX0_init_47 (by decide) ?_
  refine rw_iload_1 C dX0_init_25 ?_
  refine rw_bipush C (v := nI 8) (by decide) dX0_init_26 ?_
  refine rw_icmp_ge C 50 dX0_init_28 (by decide) (fun h => absurd h (by decide)) (fun _ => ?_)
  refine rw_aload_0 C dX0_init_31 ?_
  refine rw_getR C fX0_11 rfl dX0_init_32 ?_
  refine rw_iload_1 C dX0_init_35 ?_
  refine rw_new C [.null, .null, .null, .null, .int 0, .int 0, .int 0, .int 0] zck7 nA_X0_9 iI_X3 iN_X3 (N := 8) rfl dfs_X3 (by decide) (by decide) dX0_init_36 (fun r6 => ?_)
  refine rw_dup C rfl dX0_init_39 ?_
  refine rw_callI (as := []) C (fun s e => by rw [e]; exact B.ao) vX3_init rfl rfl lX0_24 dX0_init_40 rfl (Nat.le_of_ble_eq_true rfl) (b_X3_init hl (u := u ++ ((q, eO 4 [.ref r1, .int 0, .int 0]) :: (r1, eRf G 4 8 (va_up (va_up ((fun _ => none)) 0 (some (f3 0))) 1 (some (f5 0)))) :: scnL G f3 ++ (scnL G f5))) (q := r6)) (by decide) (by decide) (by decide) ?_
  rintro ws' ⟨f7, rfl, rfl⟩
  refine rw_cast (ws' := u ++ ((q, eO 4 [.ref r1, .int 0, .int 0]) :: (r1, eRf G 4 8 (va_up (va_up ((fun _ => none)) 0 (some (f3 0))) 1 (some (f5 0)))) :: scnL G f3 ++ (scnL G f5 ++ (scnL G f7)))) (by simp only [List.append_assoc, List.cons_append, List.nil_append]) ?_
  refine rw_cast (ws' := (u ++ ([(q, eO 4 [.ref r1, .int 0, .int 0])])) ++ (r1, .inl (G.2.1 (4 + 1), 8, .inr (.inr (.inr (.inr (va_up (va_up ((fun _ => none)) 0 (some (f3 0))) 1 (some (f5 0)))))))) :: (scnL G f3 ++ (scnL G f5 ++ (scnL G f7)))) (by simp only [List.append_assoc, List.cons_append, List.nil_append]) ?_
  refine rw_aastM C (i := 2) (t := 4) (ci := 7) (vs := [.ref (f7 1), .ref (f7 5), .ref (f7 6), .ref (f7 7), .int 0, .int 0, .int 0, .int 0]) (by decide) (by decide) (by decide) zck7 (List.mem_append_right _ (List.mem_append_right _ (scnL_mem rfl))) dX0_init_43 ?_
  refine rw_cast (ws' := u ++ ((q, eO 4 [.ref r1, .int 0, .int 0]) :: (r1, eRf G 4 8 (va_up (va_up (va_up ((fun _ => none)) 0 (some (f3 0))) 1 (some (f5 0))) 2 (some (f7 0)))) :: scnL G f3 ++ (scnL G f5 ++ (scnL G f7)))) (by simp only [List.append_assoc, List.cons_append, List.nil_append]) ?_
  refine rw_iinc_1 C (v := nI 3) rfl (by decide) dX0_init_44 ?_
  refine rw_goto C 25 dX0_init_47 (by decide) ?_
  refine rw_iload_1 C dX0_init_25 ?_
  refine rw_bipush C (v := nI 8) (by decide) dX0_init_26 ?_
  refine rw_icmp_ge C 50 dX0_init_28 (by decide) (fun h => absurd h (by decide)) (fun _ => ?_)
  refine rw_aload_0 C dX0_init_31 ?_
  refine rw_getR C fX0_11 rfl dX0_init_32 ?_
  refine rw_iload_1 C dX0_init_35 ?_
  refine rw_new C [.null, .null, .null, .null, .int 0, .int 0, .int 0, .int 0] zck7 nA_X0_9 iI_X3 iN_X3 (N := 8) rfl dfs_X3 (by decide) (by decide) dX0_init_36 (fun r8 => ?_)
  refine rw_dup C rfl dX0_init_39 ?_
  refine rw_callI (as := []) C (fun s e => by rw [e]; exact B.ao) vX3_init rfl rfl lX0_24 dX0_init_40 rfl (Nat.le_of_ble_eq_true rfl) (b_X3_init hl (u := u ++ ((q, eO 4 [.ref r1, .int 0, .int 0]) :: (r1, eRf G 4 8 (va_up (va_up (va_up ((fun _ => none)) 0 (some (f3 0))) 1 (some (f5 0))) 2 (some (f7 0)))) :: scnL G f3 ++ (scnL G f5 ++ (scnL G f7)))) (q := r8)) (by decide) (by decide) (by decide) ?_
  rintro ws' ⟨f9, rfl, rfl⟩
  refine rw_cast (ws' := u ++ ((q, eO 4 [.ref r1, .int 0, .int 0]) :: (r1, eRf G 4 8 (va_up (va_up (va_up ((fun _ => none)) 0 (some (f3 0))) 1 (some (f5 0))) 2 (some (f7 0)))) :: scnL G f3 ++ (scnL G f5 ++ (scnL G f7 ++ (scnL G f9))))) (by simp only [List.append_assoc, List.cons_append, List.nil_append]) ?_
  refine rw_cast (ws' := (u ++ ([(q, eO 4 [.ref r1, .int 0, .int 0])])) ++ (r1, .inl (G.2.1 (4 + 1), 8, .inr (.inr (.inr (.inr (va_up (va_up (va_up ((fun _ => none)) 0 (some (f3 0))) 1 (some (f5 0))) 2 (some (f7 0)))))))) :: (scnL G f3 ++ (scnL G f5 ++ (scnL G f7 ++ (scnL G f9))))) (by simp only [List.append_assoc, List.cons_append, List.nil_append]) ?_
  refine rw_aastM C (i := 3) (t := 4) (ci := 7) (vs := [.ref (f9 1), .ref (f9 5), .ref (f9 6), .ref (f9 7), .int 0, .int 0, .int 0, .int 0]) (by decide) (by decide) (by decide) zck7 (List.mem_append_right _ (List.mem_append_right _ (List.mem_append_right _ (scnL_mem rfl)))) dX0_init_43 ?_
  refine rw_cast (ws' := u ++ ((q, eO 4 [.ref r1, .int 0, .int 0]) :: (r1, eRf G 4 8 (va_up (va_up (va_up (va_up ((fun _ => none)) 0 (some (f3 0))) 1 (some (f5 0))) 2 (some (f7 0))) 3 (some (f9 0)))) :: scnL G f3 ++ (scnL G f5 ++ (scnL G f7 ++ (scnL G f9))))) (by simp only [List.append_assoc, List.cons_append, List.nil_append]) ?_
  refine rw_iinc_1 C (v := nI 4) rfl (by decide) dX0_init_44 ?_
  refine rw_goto C 25 dX0_init_47 (by decide) ?_
  refine rw_iload_1 C dX0_init_25 ?_
  refine rw_bipush C (v := nI 8) (by decide) dX0_init_26 ?_
  refine rw_icmp_ge C 50 dX0_init_28 (by decide) (fun h => absurd h (by decide)) (fun _ => ?_)
  refine rw_aload_0 C dX0_init_31 ?_
  refine rw_getR C fX0_11 rfl dX0_init_32 ?_
  refine rw_iload_1 C dX0_init_35 ?_
  refine rw_new C [.null, .null, .null, .null, .int 0, .int 0, .int 0, .int 0] zck7 nA_X0_9 iI_X3 iN_X3 (N := 8) rfl dfs_X3 (by decide) (by decide) dX0_init_36 (fun r10 => ?_)
  refine rw_dup C rfl dX0_init_39 ?_
  refine rw_callI (as := []) C (fun s e => by rw [e]; exact B.ao) vX3_init rfl rfl lX0_24 dX0_init_40 rfl (Nat.le_of_ble_eq_true rfl) (b_X3_init hl (u := u ++ ((q, eO 4 [.ref r1, .int 0, .int 0]) :: (r1, eRf G 4 8 (va_up (va_up (va_up (va_up ((fun _ => none)) 0 (some (f3 0))) 1 (some (f5 0))) 2 (some (f7 0))) 3 (some (f9 0)))) :: scnL G f3 ++ (scnL G f5 ++ (scnL G f7 ++ (scnL G f9))))) (q := r10)) (by decide) (by decide) (by decide) ?_
  rintro ws' ⟨f11, rfl, rfl⟩
  refine rw_cast (ws' := u ++ ((q, eO 4 [.ref r1, .int 0, .int 0]) :: (r1, eRf G 4 8 (va_up (va_up (va_up (va_up ((fun _ => none)) 0 (some (f3 0))) 1 (some (f5 0))) 2 (some (f7 0))) 3 (some (f9 0)))) :: scnL G f3 ++ (scnL G f5 ++ (scnL G f7 ++ (scnL G f9 ++ (scnL G f11)))))) (by simp only [List.append_assoc, List.cons_append, List.nil_append]) ?_
  refine rw_cast (ws' := (u ++ ([(q, eO 4 [.ref r1, .int 0, .int 0])])) ++ (r1, .inl (G.2.1 (4 + 1), 8, .inr (.inr (.inr (.inr (va_up (va_up (va_up (va_up ((fun _ => none)) 0 (some (f3 0))) 1 (some (f5 0))) 2 (some (f7 0))) 3 (some (f9 0)))))))) :: (scnL G f3 ++ (scnL G f5 ++ (scnL G f7 ++ (scnL G f9 ++ (scnL G f11)))))) (by simp only [List.append_assoc, List.cons_append, List.nil_append]) ?_
  refine rw_aastM C (i := 4) (t := 4) (ci := 7) (vs := [.ref (f11 1), .ref (f11 5), .ref (f11 6), .ref (f11 7), .int 0, .int 0, .int 0, .int 0]) (by decide) (by decide) (by decide) zck7 (List.mem_append_right _ (List.mem_append_right _ (List.mem_append_right _ (List.mem_append_right _ (scnL_mem rfl))))) dX0_init_43 ?_
  refine rw_cast (ws' := u ++ ((q, eO 4 [.ref r1, .int 0, .int 0]) :: (r1, eRf G 4 8 (va_up (va_up (va_up (va_up (va_up ((fun _ => none)) 0 (some (f3 0))) 1 (some (f5 0))) 2 (some (f7 0))) 3 (some (f9 0))) 4 (some (f11 0)))) :: scnL G f3 ++ (scnL G f5 ++ (scnL G f7 ++ (scnL G f9 ++ (scnL G f11)))))) (by simp only [List.append_assoc, List.cons_append, List.nil_append]) ?_
  refine rw_iinc_1 C (v := nI 5) rfl (by decide) dX0_init_44 ?_
  refine rw_goto C 25 dX0_init_47 (by decide) ?_
  refine rw_iload_1 C dX0_init_25 ?_
  refine rw_bipush C (v := nI 8) (by decide) dX0_init_26 ?_
  refine rw_icmp_ge C 50 dX0_init_28 (by decide) (fun h => absurd h (by decide)) (fun _ => ?_)
  refine rw_aload_0 C dX0_init_31 ?_
  refine rw_getR C fX0_11 rfl dX0_init_32 ?_
  refine rw_iload_1 C dX0_init_35 ?_
  refine rw_new C [.null, .null, .null, .null, .int 0, .int 0, .int 0, .int 0] zck7 nA_X0_9 iI_X3 iN_X3 (N := 8) rfl dfs_X3 (by decide) (by decide) dX0_init_36 (fun r12 => ?_)
  refine rw_dup C rfl dX0_init_39 ?_
  refine rw_callI (as := []) C (fun s e => by rw [e]; exact B.ao) vX3_init rfl rfl lX0_24 dX0_init_40 rfl (Nat.le_of_ble_eq_true rfl) (b_X3_init hl (u := u ++ ((q, eO 4 [.ref r1, .int 0, .int 0]) :: (r1, eRf G 4 8 (va_up (va_up (va_up (va_up (va_up ((fun _ => none)) 0 (some (f3 0))) 1 (some (f5 0))) 2 (some (f7 0))) 3 (some (f9 0))) 4 (some (f11 0)))) :: scnL G f3 ++ (scnL G f5 ++ (scnL G f7 ++ (scnL G f9 ++ (scnL G f11)))))) (q := r12)) (by decide) (by decide) (by decide) ?_
  rintro ws' ⟨f13, rfl, rfl⟩
  refine rw_cast (ws' := u ++ ((q, eO 4 [.ref r1, .int 0, .int 0]) :: (r1, eRf G 4 8 (va_up (va_up (va_up (va_up (va_up ((fun _ => none)) 0 (some (f3 0))) 1 (some (f5 0))) 2 (some (f7 0))) 3 (some (f9 0))) 4 (some (f11 0)))) :: scnL G f3 ++ (scnL G f5 ++ (scnL G f7 ++ (scnL G f9 ++ (scnL G f11 ++ (scnL G f13))))))) (by simp only [List.append_assoc, List.cons_append, List.nil_append]) ?_
  refine rw_cast (ws' := (u ++ ([(q, eO 4 [.ref r1, .int 0, .int 0])])) ++ (r1, .inl (G.2.1 (4 + 1), 8, .inr (.inr (.inr (.inr (va_up (va_up (va_up (va_up (va_up ((fun _ => none)) 0 (some (f3 0))) 1 (some (f5 0))) 2 (some (f7 0))) 3 (some (f9 0))) 4 (some (f11 0)))))))) :: (scnL G f3 ++ (scnL G f5 ++ (scnL G f7 ++ (scnL G f9 ++ (scnL G f11 ++ (scnL G f13))))))) (by simp only [List.append_assoc, List.cons_append, List.nil_append]) ?_
  refine rw_aastM C (i := 5) (t := 4) (ci := 7) (vs := [.ref (f13 1), .ref (f13 5), .ref (f13 6), .ref (f13 7), .int 0, .int 0, .int 0, .int 0]) (by decide) (by decide) (by decide) zck7 (List.mem_append_right _ (List.mem_append_right _ (List.mem_append_right _ (List.mem_append_right _ (List.mem_append_right _ (scnL_mem rfl)))))) dX0_init_43 ?_
  refine rw_cast (ws' := u ++ ((q, eO 4 [.ref r1, .int 0, .int 0]) :: (r1, eRf G 4 8 (va_up (va_up (va_up (va_up (va_up (va_up ((fun _ => none)) 0 (some (f3 0))) 1 (some (f5 0))) 2 (some (f7 0))) 3 (some (f9 0))) 4 (some (f11 0))) 5 (some (f13 0)))) :: scnL G f3 ++ (scnL G f5 ++ (scnL G f7 ++ (scnL G f9 ++ (scnL G f11 ++ (scnL G f13))))))) (by simp only [List.append_assoc, List.cons_append, List.nil_append]) ?_
  refine rw_iinc_1 C (v := nI 6) rfl (by decide) dX0_init_44 ?_
  refine rw_goto C 25 dX0_init_47 (by decide) ?_
  refine rw_iload_1 C dX0_init_25 ?_
  refine rw_bipush C (v := nI 8) (by decide) dX0_init_26 ?_
  refine rw_icmp_ge C 50 dX0_init_28 (by decide) (fun h => absurd h (by decide)) (fun _ => ?_)
  refine rw_aload_0 C dX0_init_31 ?_
  refine rw_getR C fX0_11 rfl dX0_init_32 ?_
  refine rw_iload_1 C dX0_init_35 ?_
  refine rw_new C [.null, .null, .null, .null, .int 0, .int 0, .int 0, .int 0] zck7 nA_X0_9 iI_X3 iN_X3 (N := 8) rfl dfs_X3 (by decide) (by decide) dX0_init_36 (fun r14 => ?_)
  refine rw_dup C rfl dX0_init_39 ?_
  refine rw_callI (as := []) C (fun s e => by rw [e]; exact B.ao) vX3_init rfl rfl lX0_24 dX0_init_40 rfl (Nat.le_of_ble_eq_true rfl) (b_X3_init hl (u := u ++ ((q, eO 4 [.ref r1, .int 0, .int 0]) :: (r1, eRf G 4 8 (va_up (va_up (va_up (va_up (va_up (va_up ((fun _ => none)) 0 (some (f3 0))) 1 (some (f5 0))) 2 (some (f7 0))) 3 (some (f9 0))) 4 (some (f11 0))) 5 (some (f13 0)))) :: scnL G f3 ++ (scnL G f5 ++ (scnL G f7 ++ (scnL G f9 ++ (scnL G f11 ++ (scnL G f13))))))) (q := r14)) (by decide) (by decide) (by decide) ?_
  rintro ws' ⟨f15, rfl, rfl⟩
  refine rw_cast (ws' := u ++ ((q, eO 4 [.ref r1, .int 0, .int 0]) :: (r1, eRf G 4 8 (va_up (va_up (va_up (va_up (va_up (va_up ((fun _ => none)) 0 (some (f3 0))) 1 (some (f5 0))) 2 (some (f7 0))) 3 (some (f9 0))) 4 (some (f11 0))) 5 (some (f13 0)))) :: scnL G f3 ++ (scnL G f5 ++ (scnL G f7 ++ (scnL G f9 ++ (scnL G f11 ++ (scnL G f13 ++ (scnL G f15)))))))) (by simp only [List.append_assoc, List.cons_append, List.nil_append]) ?_
  refine rw_cast (ws' := (u ++ ([(q, eO 4 [.ref r1, .int 0, .int 0])])) ++ (r1, .inl (G.2.1 (4 + 1), 8, .inr (.inr (.inr (.inr (va_up (va_up (va_up (va_up (va_up (va_up ((fun _ => none)) 0 (some (f3 0))) 1 (some (f5 0))) 2 (some (f7 0))) 3 (some (f9 0))) 4 (some (f11 0))) 5 (some (f13 0)))))))) :: (scnL G f3 ++ (scnL G f5 ++ (scnL G f7 ++ (scnL G f9 ++ (scnL G f11 ++ (scnL G f13 ++ (scnL G f15)))))))) (by simp only [List.append_assoc, List.cons_append, List.nil_append]) ?_
  refine rw_aastM C (i := 6) (t := 4) (ci := 7) (vs := [.ref (f15 1), .ref (f15 5), .ref (f15 6), .ref (f15 7), .int 0, .int 0, .int 0, .int 0]) (by decide) (by decide) (by decide) zck7 (List.mem_append_right _ (List.mem_append_right _ (List.mem_append_right _ (List.mem_append_right _ (List.mem_append_right _ (List.mem_append_right _ (scnL_mem rfl))))))) dX0_init_43 ?_
  refine rw_cast (ws' := u ++ ((q, eO 4 [.ref r1, .int 0, .int 0]) :: (r1, eRf G 4 8 (va_up (va_up (va_up (va_up (va_up (va_up (va_up ((fun _ => none)) 0 (some (f3 0))) 1 (some (f5 0))) 2 (some (f7 0))) 3 (some (f9 0))) 4 (some (f11 0))) 5 (some (f13 0))) 6 (some (f15 0)))) :: scnL G f3 ++ (scnL G f5 ++ (scnL G f7 ++ (scnL G f9 ++ (scnL G f11 ++ (scnL G f13 ++ (scnL G f15)))))))) (by simp only [List.append_assoc, List.cons_append, List.nil_append]) ?_
  refine rw_iinc_1 C (v := nI 7) rfl (by decide) dX0_init_44 ?_
  refine rw_goto C 25 dX0_init_47 (by decide) ?_
  refine rw_iload_1 C dX0_init_25 ?_
  refine rw_bipush C (v := nI 8) (by decide) dX0_init_26 ?_
  refine rw_icmp_ge C 50 dX0_init_28 (by decide) (fun h => absurd h (by decide)) (fun _ => ?_)
  refine rw_aload_0 C dX0_init_31 ?_
  refine rw_getR C fX0_11 rfl dX0_init_32 ?_
  refine rw_iload_1 C dX0_init_35 ?_
  refine rw_new C [.null, .null, .null, .null, .int 0, .int 0, .int 0, .int 0] zck7 nA_X0_9 iI_X3 iN_X3 (N := 8) rfl dfs_X3 (by decide) (by decide) dX0_init_36 (fun r16 => ?_)
  refine rw_dup C rfl dX0_init_39 ?_
  refine rw_callI (as := []) C (fun s e => by rw [e]; exact B.ao) vX3_init rfl rfl lX0_24 dX0_init_40 rfl (Nat.le_of_ble_eq_true rfl) (b_X3_init hl (u := u ++ ((q, eO 4 [.ref r1, .int 0, .int 0]) :: (r1, eRf G 4 8 (va_up (va_up (va_up (va_up (va_up (va_up (va_up ((fun _ => none)) 0 (some (f3 0))) 1 (some (f5 0))) 2 (some (f7 0))) 3 (some (f9 0))) 4 (some (f11 0))) 5 (some (f13 0))) 6 (some (f15 0)))) :: scnL G f3 ++ (scnL G f5 ++ (scnL G f7 ++ (scnL G f9 ++ (scnL G f11 ++ (scnL G f13 ++ (scnL G f15)))))))) (q := r16)) (by decide) (by decide) (by decide) ?_
  rintro ws' ⟨f17, rfl, rfl⟩
  refine rw_cast (ws' := u ++ ((q, eO 4 [.ref r1, .int 0, .int 0]) :: (r1, eRf G 4 8 (va_up (va_up (va_up (va_up (va_up (va_up (va_up ((fun _ => none)) 0 (some (f3 0))) 1 (some (f5 0))) 2 (some (f7 0))) 3 (some (f9 0))) 4 (some (f11 0))) 5 (some (f13 0))) 6 (some (f15 0)))) :: scnL G f3 ++ (scnL G f5 ++ (scnL G f7 ++ (scnL G f9 ++ (scnL G f11 ++ (scnL G f13 ++ (scnL G f15 ++ (scnL G f17))))))))) (by simp only [List.append_assoc, List.cons_append, List.nil_append]) ?_
  refine rw_cast (ws' := (u ++ ([(q, eO 4 [.ref r1, .int 0, .int 0])])) ++ (r1, .inl (G.2.1 (4 + 1), 8, .inr (.inr (.inr (.inr (va_up (va_up (va_up (va_up (va_up (va_up (va_up ((fun _ => none)) 0 (some (f3 0))) 1 (some (f5 0))) 2 (some (f7 0))) 3 (some (f9 0))) 4 (some (f11 0))) 5 (some (f13 0))) 6 (some (f15 0)))))))) :: (scnL G f3 ++ (scnL G f5 ++ (scnL G f7 ++ (scnL G f9 ++ (scnL G f11 ++ (scnL G f13 ++ (scnL G f15 ++ (scnL G f17))))))))) (by simp only [List.append_assoc, List.cons_append, List.nil_append]) ?_
  refine rw_aastM C (i := 7) (t := 4) (ci := 7) (vs := [.ref (f17 1), .ref (f17 5), .ref (f17 6), .ref (f17 7), .int 0, .int 0, .int 0, .int 0]) (by decide) (by decide) (by decide) zck7 (List.mem_append_right _ (List.mem_append_right _ (List.mem_append_right _ (List.mem_append_right _ (List.mem_append_right _ (List.mem_append_right _ (List.mem_append_right _ (scnL_mem rfl)))))))) dX0_init_43 ?_
  refine rw_cast (ws' := u ++ ((q, eO 4 [.ref r1, .int 0, .int 0]) :: (r1, eRf G 4 8 (va_up (va_up (va_up (va_up (va_up (va_up (va_up (va_up ((fun _ => none)) 0 (some (f3 0))) 1 (some (f5 0))) 2 (some (f7 0))) 3 (some (f9 0))) 4 (some (f11 0))) 5 (some (f13 0))) 6 (some (f15 0))) 7 (some (f17 0)))) :: scnL G f3 ++ (scnL G f5 ++ (scnL G f7 ++ (scnL G f9 ++ (scnL G f11 ++ (scnL G f13 ++ (scnL G f15 ++ (scnL G f17))))))))) (by simp only [List.append_assoc, List.cons_append, List.nil_append]) ?_
  refine rw_iinc_1 C (v := nI 8) rfl (by decide) dX0_init_44 ?_
  refine rw_goto C 25 dX0_init_47 (by decide) ?_
  refine rw_iload_1 C dX0_init_25 ?_
  refine rw_bipush C (v := nI 8) (by decide) dX0_init_26 ?_
  refine rw_icmp_ge C 50 dX0_init_28 (by decide) (fun _ => ?_) (fun h => absurd (by decide) h)
  exact rw_bret C rfl hF dX0_init_50 (by decide) (by decide) ⟨r1, f3, f5, f7, f9, f11, f13, f15, f17, rfl⟩
theorem oI_J5 : Cond.methodLink RJ5 3 Lib.objectInit ∈ lw_tbl := (List.mem_of_getElem? (i := 242) (by decide +kernel))
set_option maxRecDepth 100000 in
set_option maxHeartbeats 8000000 in
theorem b_J5_init_d00df {l : Launch} (hl : l.stackTraces = false) {G : zG} {u : va_W} {q : Nat} : bCR l G mJ5_init_d00df 0 1 16 [.ref q, zi 16] (u ++ [(q, eO 1 [.null, .int 0, .int 0, .int 0])]) (fun ws' => ∃ r, ws' = u ++ [(q, eO 1 [.ref r, .int 0, .int 0, .int 0]), (r, eBy G 16)]) := by
  refine bCR.of hl (by decide) rfl rfl (Nat.le_of_ble_eq_true rfl) (ls := [some (.ref q), some (zi 16)]) rfl (fun X C B hF hX => ?_)
  subst hX
  refine rw_aload_0 C dJ5_init_d00df_0 ?_
  refine rw_objInit C oI_J5 (Nat.le_of_ble_eq_true rfl) dJ5_init_d00df_1 ?_
  refine rw_getCS C wSbCS dJ5_init_d00df_4 ?_
  refine rw_if_eq C 25 dJ5_init_d00df_7 (by decide) (fun h => absurd h (by decide)) (fun _ => ?_)
  refine rw_aload_0 C dJ5_init_d00df_10 ?_
  refine rw_iload_1 C dJ5_init_d00df_11 ?_
  refine rw_newb C (n := 16) (by decide) (by decide) (by decide) dJ5_init_d00df_12 (fun r1 => ?_)
  refine rw_cast (ws' := u ++ ((q, eO 1 [.null, .int 0, .int 0, .int 0]) :: [(r1, eBy G 16)])) (by simp only [List.append_assoc, List.cons_append, List.nil_append]) ?_
  refine rw_putRn C fJ5_15 rfl rfl rfl rfl (Nat.le_of_ble_eq_true rfl) dJ5_init_d00df_14 ?_
  refine rw_cast (ws' := u ++ ((q, eO 1 [.ref r1, .int 0, .int 0, .int 0]) :: [(r1, eBy G 16)])) rfl ?_
  refine rw_aload_0 C dJ5_init_d00df_17 ?_
  refine rw_iconst C (v := nI 0) (by decide) dJ5_init_d00df_18 ?_
  refine rw_putI C fJ5_22 rfl rfl rfl rfl (Nat.le_of_ble_eq_true rfl) dJ5_init_d00df_19 ?_
  refine rw_cast (ws' := u ++ ((q, eO 1 [.ref r1, .int 0, .int 0, .int 0]) :: [(r1, eBy G 16)])) rfl ?_
  refine rw_goto C 38 dJ5_init_d00df_22 (by decide) ?_
  exact rw_bret C rfl hF dJ5_init_d00df_38 (by decide) (by decide) ⟨_, rfl⟩
set_option maxRecDepth 100000 in
set_option maxHeartbeats 8000000 in
theorem b_J4_init_da8c8 {l : Launch} (hl : l.stackTraces = false) {G : zG} {u : va_W} {q : Nat} : bCR l G mJ4_init_da8c8 1 1 16 [.ref q] (u ++ [(q, eO 1 [.null, .int 0, .int 0, .int 0])]) (fun ws' => ∃ r, ws' = u ++ [(q, eO 1 [.ref r, .int 0, .int 0, .int 0]), (r, eBy G 16)]) := by
  refine bCR.of hl (by decide) rfl rfl (Nat.le_of_ble_eq_true rfl) (ls := [some (.ref q)]) rfl (fun X C B hF hX => ?_)
  subst hX
  refine rw_aload_0 C dJ4_init_da8c8_0 ?_
  refine rw_bipush C (v := nI 16) (by decide) dJ4_init_da8c8_1 ?_
  refine rw_callI (as := [zi 16]) C (fun s e => by rw [e]; exact B.ao) vJ5_init_d00df rfl rfl lJ4_1 dJ4_init_da8c8_3 rfl (Nat.le_of_ble_eq_true rfl) (b_J5_init_d00df hl (u := u) (q := q)) (by decide) (by decide) (by decide) ?_
  rintro ws' ⟨r1, rfl⟩
  exact rw_bret C rfl hF dJ4_init_da8c8_6 (by decide) (by decide) ⟨_, rfl⟩
