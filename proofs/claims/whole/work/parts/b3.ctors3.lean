/-! the reference is made -/
theorem oI_X6 : Cond.methodLink RX6 1 Lib.objectInit ∈ lw_tbl := (List.mem_of_getElem? (i := 1490) (by decide +kernel))
theorem fL_X6_16 : Cond.fieldLink RX6 16 ((zCls 10).2.1 5).1 ((zCls 10).2.1 5).2.1 ((zCls 10).2.1 5).2.2.1 ∈ lw_tbl := (List.mem_of_getElem? (i := 1496) (by decide +kernel))
theorem fL_X6_20 : Cond.fieldLink RX6 20 ((zCls 10).2.1 6).1 ((zCls 10).2.1 6).2.1 ((zCls 10).2.1 6).2.2.1 ∈ lw_tbl := (List.mem_of_getElem? (i := 1497) (by decide +kernel))
theorem fL_X6_23 : Cond.fieldLink RX6 23 ((zCls 10).2.1 7).1 ((zCls 10).2.1 7).2.1 ((zCls 10).2.1 7).2.2.1 ∈ lw_tbl := (List.mem_of_getElem? (i := 1498) (by decide +kernel))
theorem fL_X6_26 : Cond.fieldLink RX6 26 ((zCls 10).2.1 8).1 ((zCls 10).2.1 8).2.1 ((zCls 10).2.1 8).2.2.1 ∈ lw_tbl := (List.mem_of_getElem? (i := 1499) (by decide +kernel))
theorem fL_X6_29 : Cond.fieldLink RX6 29 ((zCls 10).2.1 9).1 ((zCls 10).2.1 9).2.1 ((zCls 10).2.1 9).2.2.1 ∈ lw_tbl := (List.mem_of_getElem? (i := 1500) (by decide +kernel))
theorem fL_X6_32 : Cond.fieldLink RX6 32 ((zCls 10).2.1 10).1 ((zCls 10).2.1 10).2.1 ((zCls 10).2.1 10).2.2.1 ∈ lw_tbl := (List.mem_of_getElem? (i := 1501) (by decide +kernel))
theorem fL_X6_35 : Cond.fieldLink RX6 35 ((zCls 10).2.1 11).1 ((zCls 10).2.1 11).2.1 ((zCls 10).2.1 11).2.2.1 ∈ lw_tbl := (List.mem_of_getElem? (i := 1502) (by decide +kernel))
theorem fL_X6_38 : Cond.fieldLink RX6 38 ((zCls 10).2.1 12).1 ((zCls 10).2.1 12).2.1 ((zCls 10).2.1 12).2.2.1 ∈ lw_tbl := (List.mem_of_getElem? (i := 1503) (by decide +kernel))
theorem fL_X6_41 : Cond.fieldLink RX6 41 ((zCls 10).2.1 13).1 ((zCls 10).2.1 13).2.1 ((zCls 10).2.1 13).2.2.1 ∈ lw_tbl := (List.mem_of_getElem? (i := 1504) (by decide +kernel))
theorem fL_X6_44 : Cond.fieldLink RX6 44 ((zCls 10).2.1 14).1 ((zCls 10).2.1 14).2.1 ((zCls 10).2.1 14).2.2.1 ∈ lw_tbl := (List.mem_of_getElem? (i := 1505) (by decide +kernel))
set_option maxRecDepth 100000 in
set_option maxHeartbeats 8000000 in
theorem b_X6_init {l : Launch} (hl : l.stackTraces = false) {G : zG} {u : va_W} {q : Nat} : bCR l G mX6_init 0 10 1534 [.ref q] (u ++ [(q, eO 10 [.int 0, .int 0, .int 0, .int 0, .int 0, .null, .null, .null, .null, .null, .null, .null, .null, .null, .null, .int 0, .int 0, .int 0, .int 0, .int 0, .int 0])]) (fun ws' => ∃ r1 r2 r3 r4 r5 r6 r7 r8 r9 r10 : Nat, ws' = u ++ ((q, eO 10 [.int 0, .int 0, .int (nI 4294967295), .int (nI 4294967295), .int 0, .ref r1, .ref r2, .ref r3, .ref r4, .ref r5, .ref r6, .ref r7, .ref r8, .ref r9, .ref r10, .int 0, .int 0, .int 0, .int 0, .int 0, .int 0]) :: (r1, eI G 109) :: (r2, eI G 109) :: (r3, eI G 109) :: (r4, eI G 109) :: (r5, eI G 872) :: (r6, eI G 60) :: (r7, eI G 40) :: (r8, eI G 9) :: (r9, eF G 47 (wF 47)) :: [(r10, eF G 10 (aF 10))])) := by
  refine bCR.of hl (by decide) rfl rfl (Nat.le_of_ble_eq_true rfl) (ls := [some (.ref q)]) rfl (fun X C B hF hX => ?_)
  subst hX
  refine rw_aload_0 C dX6_init_0 ?_
  refine rw_objInit C oI_X6 (Nat.le_of_ble_eq_true rfl) dX6_init_1 ?_
  refine rw_aload_0 C dX6_init_4 ?_
  refine rw_iconst C (v := nI 4294967295) (by decide) dX6_init_5 ?_
  refine rw_putI C fX6_7 rfl rfl rfl rfl (Nat.le_of_ble_eq_true rfl) dX6_init_6 ?_
  refine rw_cast (ws' := u ++ ([(q, eO 10 [.int 0, .int 0, .int (nI 4294967295), .int 0, .int 0, .null, .null, .null, .null, .null, .null, .null, .null, .null, .null, .int 0, .int 0, .int 0, .int 0, .int 0, .int 0])])) rfl ?_
  refine rw_aload_0 C dX6_init_9 ?_
  refine rw_iconst C (v := nI 4294967295) (by decide) dX6_init_10 ?_
  refine rw_putI C fX6_13 rfl rfl rfl rfl (Nat.le_of_ble_eq_true rfl) dX6_init_11 ?_
  refine rw_cast (ws' := u ++ ([(q, eO 10 [.int 0, .int 0, .int (nI 4294967295), .int (nI 4294967295), .int 0, .null, .null, .null, .null, .null, .null, .null, .null, .null, .null, .int 0, .int 0, .int 0, .int 0, .int 0, .int 0])])) rfl ?_
  refine rw_aload_0 C dX6_init_14 ?_
  refine rw_bipush C (v := nI 109) (by decide) dX6_init_15 ?_
  refine rw_newi C (n := 109) (by decide) (by decide) (by decide) dX6_init_17 (fun r1 => ?_)
  refine rw_cast (ws' := u ++ ((q, eO 10 [.int 0, .int 0, .int (nI 4294967295), .int (nI 4294967295), .int 0, .null, .null, .null, .null, .null, .null, .null, .null, .null, .null, .int 0, .int 0, .int 0, .int 0, .int 0, .int 0]) :: [(r1, eI G 109)])) (by simp only [List.append_assoc, List.cons_append, List.nil_append]) ?_
  refine rw_putR C B zck10 (Nat.le_of_ble_eq_true rfl) fL_X6_16 rfl rfl rfl rfl rfl (Nat.le_of_ble_eq_true rfl) dX6_init_19 ?_
  refine rw_cast (ws' := u ++ ((q, eO 10 [.int 0, .int 0, .int (nI 4294967295), .int (nI 4294967295), .int 0, .ref r1, .null, .null, .null, .null, .null, .null, .null, .null, .null, .int 0, .int 0, .int 0, .int 0, .int 0, .int 0]) :: [(r1, eI G 109)])) rfl ?_
  refine rw_aload_0 C dX6_init_22 ?_
  refine rw_bipush C (v := nI 109) (by decide) dX6_init_23 ?_
  refine rw_newi C (n := 109) (by decide) (by decide) (by decide) dX6_init_25 (fun r2 => ?_)
  refine rw_cast (ws' := u ++ ((q, eO 10 [.int 0, .int 0, .int (nI 4294967295), .int (nI 4294967295), .int 0, .ref r1, .null, .null, .null, .null, .null, .null, .null, .null, .null, .int 0, .int 0, .int 0, .int 0, .int 0, .int 0]) :: (r1, eI G 109) :: [(r2, eI G 109)])) (by simp only [List.append_assoc, List.cons_append, List.nil_append]) ?_
  refine rw_putR C B zck10 (Nat.le_of_ble_eq_true rfl) fL_X6_20 rfl rfl rfl rfl rfl (Nat.le_of_ble_eq_true rfl) dX6_init_27 ?_
  refine rw_cast (ws' := u ++ ((q, eO 10 [.int 0, .int 0, .int (nI 4294967295), .int (nI 4294967295), .int 0, .ref r1, .ref r2, .null, .null, .null, .null, .null, .null, .null, .null, .int 0, .int 0, .int 0, .int 0, .int 0, .int 0]) :: (r1, eI G 109) :: [(r2, eI G 109)])) rfl ?_
  refine rw_aload_0 C dX6_init_30 ?_
  refine rw_bipush C (v := nI 109) (by decide) dX6_init_31 ?_
  refine rw_newi C (n := 109) (by decide) (by decide) (by decide) dX6_init_33 (fun r3 => ?_)
  refine rw_cast (ws' := u ++ ((q, eO 10 [.int 0, .int 0, .int (nI 4294967295), .int (nI 4294967295), .int 0, .ref r1, .ref r2, .null, .null, .null, .null, .null, .null, .null, .null, .int 0, .int 0, .int 0, .int 0, .int 0, .int 0]) :: (r1, eI G 109) :: (r2, eI G 109) :: [(r3, eI G 109)])) (by simp only [List.append_assoc, List.cons_append, List.nil_append]) ?_
  refine rw_putR C B zck10 (Nat.le_of_ble_eq_true rfl) fL_X6_23 rfl rfl rfl rfl rfl (Nat.le_of_ble_eq_true rfl) dX6_init_35 ?_
  refine rw_cast (ws' := u ++ ((q, eO 10 [.int 0, .int 0, .int (nI 4294967295), .int (nI 4294967295), .int 0, .ref r1, .ref r2, .ref r3, .null, .null, .null, .null, .null, .null, .null, .int 0, .int 0, .int 0, .int 0, .int 0, .int 0]) :: (r1, eI G 109) :: (r2, eI G 109) :: [(r3, eI G 109)])) rfl ?_
  refine rw_aload_0 C dX6_init_38 ?_
  refine rw_bipush C (v := nI 109) (by decide) dX6_init_39 ?_
  refine rw_newi C (n := 109) (by decide) (by decide) (by decide) dX6_init_41 (fun r4 => ?_)
  refine rw_cast (ws' := u ++ ((q, eO 10 [.int 0, .int 0, .int (nI 4294967295), .int (nI 4294967295), .int 0, .ref r1, .ref r2, .ref r3, .null, .null, .null, .null, .null, .null, .null, .int 0, .int 0, .int 0, .int 0, .int 0, .int 0]) :: (r1, eI G 109) :: (r2, eI G 109) :: (r3, eI G 109) :: [(r4, eI G 109)])) (by simp only [List.append_assoc, List.cons_append, List.nil_append]) ?_
  refine rw_putR C B zck10 (Nat.le_of_ble_eq_true rfl) fL_X6_26 rfl rfl rfl rfl rfl (Nat.le_of_ble_eq_true rfl) dX6_init_43 ?_
  refine rw_cast (ws' := u ++ ((q, eO 10 [.int 0, .int 0, .int (nI 4294967295), .int (nI 4294967295), .int 0, .ref r1, .ref r2, .ref r3, .ref r4, .null, .null, .null, .null, .null, .null, .int 0, .int 0, .int 0, .int 0, .int 0, .int 0]) :: (r1, eI G 109) :: (r2, eI G 109) :: (r3, eI G 109) :: [(r4, eI G 109)])) rfl ?_
  refine rw_aload_0 C dX6_init_46 ?_
  refine rw_sipush C (v := nI 872) (by decide) dX6_init_47 ?_
  refine rw_newi C (n := 872) (by decide) (by decide) (by decide) dX6_init_50 (fun r5 => ?_)
  refine rw_cast (ws' := u ++ ((q, eO 10 [.int 0, .int 0, .int (nI 4294967295), .int (nI 4294967295), .int 0, .ref r1, .ref r2, .ref r3, .ref r4, .null, .null, .null, .null, .null, .null, .int 0, .int 0, .int 0, .int 0, .int 0, .int 0]) :: (r1, eI G 109) :: (r2, eI G 109) :: (r3, eI G 109) :: (r4, eI G 109) :: [(r5, eI G 872)])) (by simp only [List.append_assoc, List.cons_append, List.nil_append]) ?_
  refine rw_putR C B zck10 (Nat.le_of_ble_eq_true rfl) fL_X6_29 rfl rfl rfl rfl rfl (Nat.le_of_ble_eq_true rfl) dX6_init_52 ?_
  refine rw_cast (ws' := u ++ ((q, eO 10 [.int 0, .int 0, .int (nI 4294967295), .int (nI 4294967295), .int 0, .ref r1, .ref r2, .ref r3, .ref r4, .ref r5, .null, .null, .null, .null, .null, .int 0, .int 0, .int 0, .int 0, .int 0, .int 0]) :: (r1, eI G 109) :: (r2, eI G 109) :: (r3, eI G 109) :: (r4, eI G 109) :: [(r5, eI G 872)])) rfl ?_
  refine rw_aload_0 C dX6_init_55 ?_
  refine rw_bipush C (v := nI 60) (by decide) dX6_init_56 ?_
  refine rw_newi C (n := 60) (by decide) (by decide) (by decide) dX6_init_58 (fun r6 => ?_)
  refine rw_cast (ws' := u ++ ((q, eO 10 [.int 0, .int 0, .int (nI 4294967295), .int (nI 4294967295), .int 0, .ref r1, .ref r2, .ref r3, .ref r4, .ref r5, .null, .null, .null, .null, .null, .int 0, .int 0, .int 0, .int 0, .int 0, .int 0]) :: (r1, eI G 109) :: (r2, eI G 109) :: (r3, eI G 109) :: (r4, eI G 109) :: (r5, eI G 872) :: [(r6, eI G 60)])) (by simp only [List.append_assoc, List.cons_append, List.nil_append]) ?_
  refine rw_putR C B zck10 (Nat.le_of_ble_eq_true rfl) fL_X6_32 rfl rfl rfl rfl rfl (Nat.le_of_ble_eq_true rfl) dX6_init_60 ?_
  refine rw_cast (ws' := u ++ ((q, eO 10 [.int 0, .int 0, .int (nI 4294967295), .int (nI 4294967295), .int 0, .ref r1, .ref r2, .ref r3, .ref r4, .ref r5, .ref r6, .null, .null, .null, .null, .int 0, .int 0, .int 0, .int 0, .int 0, .int 0]) :: (r1, eI G 109) :: (r2, eI G 109) :: (r3, eI G 109) :: (r4, eI G 109) :: (r5, eI G 872) :: [(r6, eI G 60)])) rfl ?_
  refine rw_aload_0 C dX6_init_63 ?_
  refine rw_bipush C (v := nI 40) (by decide) dX6_init_64 ?_
  refine rw_newi C (n := 40) (by decide) (by decide) (by decide) dX6_init_66 (fun r7 => ?_)
  refine rw_cast (ws' := u ++ ((q, eO 10 [.int 0, .int 0, .int (nI 4294967295), .int (nI 4294967295), .int 0, .ref r1, .ref r2, .ref r3, .ref r4, .ref r5, .ref r6, .null, .null, .null, .null, .int 0, .int 0, .int 0, .int 0, .int 0, .int 0]) :: (r1, eI G 109) :: (r2, eI G 109) :: (r3, eI G 109) :: (r4, eI G 109) :: (r5, eI G 872) :: (r6, eI G 60) :: [(r7, eI G 40)])) (by simp only [List.append_assoc, List.cons_append, List.nil_append]) ?_
  refine rw_putR C B zck10 (Nat.le_of_ble_eq_true rfl) fL_X6_35 rfl rfl rfl rfl rfl (Nat.le_of_ble_eq_true rfl) dX6_init_68 ?_
  refine rw_cast (ws' := u ++ ((q, eO 10 [.int 0, .int 0, .int (nI 4294967295), .int (nI 4294967295), .int 0, .ref r1, .ref r2, .ref r3, .ref r4, .ref r5, .ref r6, .ref r7, .null, .null, .null, .int 0, .int 0, .int 0, .int 0, .int 0, .int 0]) :: (r1, eI G 109) :: (r2, eI G 109) :: (r3, eI G 109) :: (r4, eI G 109) :: (r5, eI G 872) :: (r6, eI G 60) :: [(r7, eI G 40)])) rfl ?_
  refine rw_aload_0 C dX6_init_71 ?_
  refine rw_bipush C (v := nI 9) (by decide) dX6_init_72 ?_
  refine rw_newi C (n := 9) (by decide) (by decide) (by decide) dX6_init_74 (fun r8 => ?_)
  refine rw_cast (ws' := u ++ ((q, eO 10 [.int 0, .int 0, .int (nI 4294967295), .int (nI 4294967295), .int 0, .ref r1, .ref r2, .ref r3, .ref r4, .ref r5, .ref r6, .ref r7, .null, .null, .null, .int 0, .int 0, .int 0, .int 0, .int 0, .int 0]) :: (r1, eI G 109) :: (r2, eI G 109) :: (r3, eI G 109) :: (r4, eI G 109) :: (r5, eI G 872) :: (r6, eI G 60) :: (r7, eI G 40) :: [(r8, eI G 9)])) (by simp only [List.append_assoc, List.cons_append, List.nil_append]) ?_
  refine rw_putR C B zck10 (Nat.le_of_ble_eq_true rfl) fL_X6_38 rfl rfl rfl rfl rfl (Nat.le_of_ble_eq_true rfl) dX6_init_76 ?_
  refine rw_cast (ws' := u ++ ((q, eO 10 [.int 0, .int 0, .int (nI 4294967295), .int (nI 4294967295), .int 0, .ref r1, .ref r2, .ref r3, .ref r4, .ref r5, .ref r6, .ref r7, .ref r8, .null, .null, .int 0, .int 0, .int 0, .int 0, .int 0, .int 0]) :: (r1, eI G 109) :: (r2, eI G 109) :: (r3, eI G 109) :: (r4, eI G 109) :: (r5, eI G 872) :: (r6, eI G 60) :: (r7, eI G 40) :: [(r8, eI G 9)])) rfl ?_
  refine rw_aload_0 C dX6_init_79 ?_
  refine rw_bipush C (v := nI 47) (by decide) dX6_init_80 ?_
  refine rw_newi C (n := 47) (by decide) (by decide) (by decide) dX6_init_82 (fun r9 => ?_)
  refine rw_cast (ws' := (u ++ ((q, eO 10 [.int 0, .int 0, .int (nI 4294967295), .int (nI 4294967295), .int 0, .ref r1, .ref r2, .ref r3, .ref r4, .ref r5, .ref r6, .ref r7, .ref r8, .null, .null, .int 0, .int 0, .int 0, .int 0, .int 0, .int 0]) :: (r1, eI G 109) :: (r2, eI G 109) :: (r3, eI G 109) :: (r4, eI G 109) :: (r5, eI G 872) :: (r6, eI G 60) :: (r7, eI G 40) :: [(r8, eI G 9)])) ++ (r9, .inl (G.2.1 1, 47, .inl (wF 0))) :: []) (by simp only [wF_0, List.append_assoc, List.cons_append, List.nil_append]) ?_
  refine rw_dup C rfl dX6_init_84 ?_
  refine rw_iconst C (v := nI 0) (by decide) dX6_init_85 ?_
  refine rw_bipush C (v := nI 101) (by decide) dX6_init_86 ?_
  refine rw_iastW C (i := 0) (x := 101) (by decide) (by decide) rfl dX6_init_88 ?_
  refine rw_dup C rfl dX6_init_89 ?_
  refine rw_iconst C (v := nI 1) (by decide) dX6_init_90 ?_
  refine rw_bipush C (v := nI 97) (by decide) dX6_init_91 ?_
  refine rw_iastW C (i := 1) (x := 97) (by decide) (by decide) rfl dX6_init_93 ?_
  refine rw_dup C rfl dX6_init_94 ?_
  refine rw_iconst C (v := nI 2) (by decide) dX6_init_95 ?_
  refine rw_bipush C (v := nI 114) (by decide) dX6_init_96 ?_
  refine rw_iastW C (i := 2) (x := 114) (by decide) (by decide) rfl dX6_init_98 ?_
  refine rw_dup C rfl dX6_init_99 ?_
  refine rw_iconst C (v := nI 3) (by decide) dX6_init_100 ?_
  refine rw_bipush C (v := nI 32) (by decide) dX6_init_101 ?_
  refine rw_iastW C (i := 3) (x := 32) (by decide) (by decide) rfl dX6_init_103 ?_
  refine rw_dup C rfl dX6_init_104 ?_
  refine rw_iconst C (v := nI 4) (by decide) dX6_init_105 ?_
  refine rw_bipush C (v := nI 108) (by decide) dX6_init_106 ?_
  refine rw_iastW C (i := 4) (x := 108) (by decide) (by decide) rfl dX6_init_108 ?_
  refine rw_dup C rfl dX6_init_109 ?_
  refine rw_iconst C (v := nI 5) (by decide) dX6_init_110 ?_
  refine rw_bipush C (v := nI 105) (by decide) dX6_init_111 ?_
  refine rw_iastW C (i := 5) (x := 105) (by decide) (by decide) rfl dX6_init_113 ?_
  refine rw_dup C rfl dX6_init_114 ?_
  refine rw_bipush C (v := nI 6) (by decide) dX6_init_115 ?_
  refine rw_bipush C (v := nI 110) (by decide) dX6_init_117 ?_
  refine rw_iastW C (i := 6) (x := 110) (by decide) (by decide) rfl dX6_init_119 ?_
  refine rw_dup C rfl dX6_init_120 ?_
  refine rw_bipush C (v := nI 7) (by decide) dX6_init_121 ?_
  refine rw_bipush C (v := nI 107) (by decide) dX6_init_123 ?_
  refine rw_iastW C (i := 7) (x := 107) (by decide) (by decide) rfl dX6_init_125 ?_
  refine rw_dup C rfl dX6_init_126 ?_
  refine rw_bipush C (v := nI 8) (by decide) dX6_init_127 ?_
  refine rw_bipush C (v := nI 32) (by decide) dX6_init_129 ?_
  refine rw_iastW C (i := 8) (x := 32) (by decide) (by decide) rfl dX6_init_131 ?_
  refine rw_dup C rfl dX6_init_132 ?_
  refine rw_bipush C (v := nI 9) (by decide) dX6_init_133 ?_
  refine rw_bipush C (v := nI 99) (by decide) dX6_init_135 ?_
  refine rw_iastW C (i := 9) (x := 99) (by decide) (by decide) rfl dX6_init_137 ?_
  refine rw_dup C rfl dX6_init_138 ?_
  refine rw_bipush C (v := nI 10) (by decide) dX6_init_139 ?_
  refine rw_bipush C (v := nI 117) (by decide) dX6_init_141 ?_
  refine rw_iastW C (i := 10) (x := 117) (by decide) (by decide) rfl dX6_init_143 ?_
  refine rw_dup C rfl dX6_init_144 ?_
  refine rw_bipush C (v := nI 11) (by decide) dX6_init_145 ?_
  refine rw_bipush C (v := nI 116) (by decide) dX6_init_147 ?_
  refine rw_iastW C (i := 11) (x := 116) (by decide) (by decide) rfl dX6_init_149 ?_
  refine rw_dup C rfl dX6_init_150 ?_
  refine rw_bipush C (v := nI 12) (by decide) dX6_init_151 ?_
  refine rw_bipush C (v := nI 32) (by decide) dX6_init_153 ?_
  refine rw_iastW C (i := 12) (x := 32) (by decide) (by decide) rfl dX6_init_155 ?_
  refine rw_dup C rfl dX6_init_156 ?_
  refine rw_bipush C (v := nI 13) (by decide) dX6_init_157 ?_
  refine rw_bipush C (v := nI 115) (by decide) dX6_init_159 ?_
  refine rw_iastW C (i := 13) (x := 115) (by decide) (by decide) rfl dX6_init_161 ?_
  refine rw_dup C rfl dX6_init_162 ?_
  refine rw_bipush C (v := nI 14) (by decide) dX6_init_163 ?_
  refine rw_bipush C (v := nI 116) (by decide) dX6_init_165 ?_
  refine rw_iastW C (i := 14) (x := 116) (by decide) (by decide) rfl dX6_init_167 ?_
  refine rw_dup C rfl dX6_init_168 ?_
  refine rw_bipush C (v := nI 15) (by decide) dX6_init_169 ?_
  refine rw_bipush C (v := nI 97) (by decide) dX6_init_171 ?_
  refine rw_iastW C (i := 15) (x := 97) (by decide) (by decide) rfl dX6_init_173 ?_
  refine rw_dup C rfl dX6_init_174 ?_
  refine rw_bipush C (v := nI 16) (by decide) dX6_init_175 ?_
  refine rw_bipush C (v := nI 114) (by decide) dX6_init_177 ?_
  refine rw_iastW C (i := 16) (x := 114) (by decide) (by decide) rfl dX6_init_179 ?_
  refine rw_dup C rfl dX6_init_180 ?_
  refine rw_bipush C (v := nI 17) (by decide) dX6_init_181 ?_
  refine rw_bipush C (v := nI 116) (by decide) dX6_init_183 ?_
  refine rw_iastW C (i := 17) (x := 116) (by decide) (by decide) rfl dX6_init_185 ?_
  refine rw_dup C rfl dX6_init_186 ?_
  refine rw_bipush C (v := nI 18) (by decide) dX6_init_187 ?_
  refine rw_bipush C (v := nI 32) (by decide) dX6_init_189 ?_
  refine rw_iastW C (i := 18) (x := 32) (by decide) (by decide) rfl dX6_init_191 ?_
  refine rw_dup C rfl dX6_init_192 ?_
  refine rw_bipush C (v := nI 19) (by decide) dX6_init_193 ?_
  refine rw_bipush C (v := nI 99) (by decide) dX6_init_195 ?_
  refine rw_iastW C (i := 19) (x := 99) (by decide) (by decide) rfl dX6_init_197 ?_
  refine rw_dup C rfl dX6_init_198 ?_
  refine rw_bipush C (v := nI 20) (by decide) dX6_init_199 ?_
  refine rw_bipush C (v := nI 104) (by decide) dX6_init_201 ?_
  refine rw_iastW C (i := 20) (x := 104) (by decide) (by decide) rfl dX6_init_203 ?_
  refine rw_dup C rfl dX6_init_204 ?_
  refine rw_bipush C (v := nI 21) (by decide) dX6_init_205 ?_
  refine rw_bipush C (v := nI 101) (by decide) dX6_init_207 ?_
  refine rw_iastW C (i := 21) (x := 101) (by decide) (by decide) rfl dX6_init_209 ?_
  refine rw_dup C rfl dX6_init_210 ?_
  refine rw_bipush C (v := nI 22) (by decide) dX6_init_211 ?_
  refine rw_bipush C (v := nI 99) (by decide) dX6_init_213 ?_
  refine rw_iastW C (i := 22) (x := 99) (by decide) (by decide) rfl dX6_init_215 ?_
  refine rw_dup C rfl dX6_init_216 ?_
  refine rw_bipush C (v := nI 23) (by decide) dX6_init_217 ?_
  refine rw_bipush C (v := nI 107) (by decide) dX6_init_219 ?_
  refine rw_iastW C (i := 23) (x := 107) (by decide) (by decide) rfl dX6_init_221 ?_
  refine rw_dup C rfl dX6_init_222 ?_
  refine rw_bipush C (v := nI 24) (by decide) dX6_init_223 ?_
  refine rw_bipush C (v := nI 32) (by decide) dX6_init_225 ?_
  refine rw_iastW C (i := 24) (x := 32) (by decide) (by decide) rfl dX6_init_227 ?_
  refine rw_dup C rfl dX6_init_228 ?_
  refine rw_bipush C (v := nI 25) (by decide) dX6_init_229 ?_
  refine rw_bipush C (v := nI 100) (by decide) dX6_init_231 ?_
  refine rw_iastW C (i := 25) (x := 100) (by decide) (by decide) rfl dX6_init_233 ?_
  refine rw_dup C rfl dX6_init_234 ?_
  refine rw_bipush C (v := nI 26) (by decide) dX6_init_235 ?_
  refine rw_bipush C (v := nI 101) (by decide) dX6_init_237 ?_
  refine rw_iastW C (i := 26) (x := 101) (by decide) (by decide) rfl dX6_init_239 ?_
  refine rw_dup C rfl dX6_init_240 ?_
  refine rw_bipush C (v := nI 27) (by decide) dX6_init_241 ?_
  refine rw_bipush C (v := nI 110) (by decide) dX6_init_243 ?_
  refine rw_iastW C (i := 27) (x := 110) (by decide) (by decide) rfl dX6_init_245 ?_
  refine rw_dup C rfl dX6_init_246 ?_
  refine rw_bipush C (v := nI 28) (by decide) dX6_init_247 ?_
  refine rw_bipush C (v := nI 121) (by decide) dX6_init_249 ?_
  refine rw_iastW C (i := 28) (x := 121) (by decide) (by decide) rfl dX6_init_251 ?_
  refine rw_dup C rfl dX6_init_252 ?_
  refine rw_bipush C (v := nI 29) (by decide) dX6_init_253 ?_
  refine rw_bipush C (v := nI 32) (by decide) dX6_init_255 ?_
  refine rw_iastW C (i := 29) (x := 32) (by decide) (by decide) rfl dX6_init_257 ?_
  refine rw_dup C rfl dX6_init_258 ?_
  refine rw_bipush C (v := nI 30) (by decide) dX6_init_259 ?_
  refine rw_bipush C (v := nI 97) (by decide) dX6_init_261 ?_
  refine rw_iastW C (i := 30) (x := 97) (by decide) (by decide) rfl dX6_init_263 ?_
  refine rw_dup C rfl dX6_init_264 ?_
  refine rw_bipush C (v := nI 31) (by decide) dX6_init_265 ?_
  refine rw_bipush C (v := nI 110) (by decide) dX6_init_267 ?_
  refine rw_iastW C (i := 31) (x := 110) (by decide) (by decide) rfl dX6_init_269 ?_
  refine rw_dup C rfl dX6_init_270 ?_
  refine rw_bipush C (v := nI 32) (by decide) dX6_init_271 ?_
  refine rw_bipush C (v := nI 115) (by decide) dX6_init_273 ?_
  refine rw_iastW C (i := 32) (x := 115) (by decide) (by decide) rfl dX6_init_275 ?_
  refine rw_dup C rfl dX6_init_276 ?_
  refine rw_bipush C (v := nI 33) (by decide) dX6_init_277 ?_
  refine rw_bipush C (v := nI 119) (by decide) dX6_init_279 ?_
  refine rw_iastW C (i := 33) (x := 119) (by decide) (by decide) rfl dX6_init_281 ?_
  refine rw_dup C rfl dX6_init_282 ?_
  refine rw_bipush C (v := nI 34) (by decide) dX6_init_283 ?_
  refine rw_bipush C (v := nI 101) (by decide) dX6_init_285 ?_
  refine rw_iastW C (i := 34) (x := 101) (by decide) (by decide) rfl dX6_init_287 ?_
  refine rw_dup C rfl dX6_init_288 ?_
  refine rw_bipush C (v := nI 35) (by decide) dX6_init_289 ?_
  refine rw_bipush C (v := nI 114) (by decide) dX6_init_291 ?_
  refine rw_iastW C (i := 35) (x := 114) (by decide) (by decide) rfl dX6_init_293 ?_
  refine rw_dup C rfl dX6_init_294 ?_
  refine rw_bipush C (v := nI 36) (by decide) dX6_init_295 ?_
  refine rw_bipush C (v := nI 32) (by decide) dX6_init_297 ?_
  refine rw_iastW C (i := 36) (x := 32) (by decide) (by decide) rfl dX6_init_299 ?_
  refine rw_dup C rfl dX6_init_300 ?_
  refine rw_bipush C (v := nI 37) (by decide) dX6_init_301 ?_
  refine rw_bipush C (v := nI 109) (by decide) dX6_init_303 ?_
  refine rw_iastW C (i := 37) (x := 109) (by decide) (by decide) rfl dX6_init_305 ?_
  refine rw_dup C rfl dX6_init_306 ?_
  refine rw_bipush C (v := nI 38) (by decide) dX6_init_307 ?_
  refine rw_bipush C (v := nI 111) (by decide) dX6_init_309 ?_
  refine rw_iastW C (i := 38) (x := 111) (by decide) (by decide) rfl dX6_init_311 ?_
  refine rw_dup C rfl dX6_init_312 ?_
  refine rw_bipush C (v := nI 39) (by decide) dX6_init_313 ?_
  refine rw_bipush C (v := nI 118) (by decide) dX6_init_315 ?_
  refine rw_iastW C (i := 39) (x := 118) (by decide) (by decide) rfl dX6_init_317 ?_
  refine rw_dup C rfl dX6_init_318 ?_
  refine rw_bipush C (v := nI 40) (by decide) dX6_init_319 ?_
  refine rw_bipush C (v := nI 101) (by decide) dX6_init_321 ?_
  refine rw_iastW C (i := 40) (x := 101) (by decide) (by decide) rfl dX6_init_323 ?_
  refine rw_dup C rfl dX6_init_324 ?_
  refine rw_bipush C (v := nI 41) (by decide) dX6_init_325 ?_
  refine rw_bipush C (v := nI 32) (by decide) dX6_init_327 ?_
  refine rw_iastW C (i := 41) (x := 32) (by decide) (by decide) rfl dX6_init_329 ?_
  refine rw_dup C rfl dX6_init_330 ?_
  refine rw_bipush C (v := nI 42) (by decide) dX6_init_331 ?_
  refine rw_bipush C (v := nI 114) (by decide) dX6_init_333 ?_
  refine rw_iastW C (i := 42) (x := 114) (by decide) (by decide) rfl dX6_init_335 ?_
  refine rw_dup C rfl dX6_init_336 ?_
  refine rw_bipush C (v := nI 43) (by decide) dX6_init_337 ?_
  refine rw_bipush C (v := nI 111) (by decide) dX6_init_339 ?_
  refine rw_iastW C (i := 43) (x := 111) (by decide) (by decide) rfl dX6_init_341 ?_
  refine rw_dup C rfl dX6_init_342 ?_
  refine rw_bipush C (v := nI 44) (by decide) dX6_init_343 ?_
  refine rw_bipush C (v := nI 117) (by decide) dX6_init_345 ?_
  refine rw_iastW C (i := 44) (x := 117) (by decide) (by decide) rfl dX6_init_347 ?_
  refine rw_dup C rfl dX6_init_348 ?_
  refine rw_bipush C (v := nI 45) (by decide) dX6_init_349 ?_
  refine rw_bipush C (v := nI 110) (by decide) dX6_init_351 ?_
  refine rw_iastW C (i := 45) (x := 110) (by decide) (by decide) rfl dX6_init_353 ?_
  refine rw_dup C rfl dX6_init_354 ?_
  refine rw_bipush C (v := nI 46) (by decide) dX6_init_355 ?_
  refine rw_bipush C (v := nI 100) (by decide) dX6_init_357 ?_
  refine rw_iastW C (i := 46) (x := 100) (by decide) (by decide) rfl dX6_init_359 ?_
  refine rw_cast (ws' := u ++ ((q, eO 10 [.int 0, .int 0, .int (nI 4294967295), .int (nI 4294967295), .int 0, .ref r1, .ref r2, .ref r3, .ref r4, .ref r5, .ref r6, .ref r7, .ref r8, .null, .null, .int 0, .int 0, .int 0, .int 0, .int 0, .int 0]) :: (r1, eI G 109) :: (r2, eI G 109) :: (r3, eI G 109) :: (r4, eI G 109) :: (r5, eI G 872) :: (r6, eI G 60) :: (r7, eI G 40) :: (r8, eI G 9) :: [(r9, eF G 47 (wF 47))])) (by simp only [List.append_assoc, List.cons_append, List.nil_append]) ?_
  refine rw_putR C B zck10 (Nat.le_of_ble_eq_true rfl) fL_X6_41 rfl rfl rfl rfl rfl (Nat.le_of_ble_eq_true rfl) dX6_init_360 ?_
  refine rw_cast (ws' := u ++ ((q, eO 10 [.int 0, .int 0, .int (nI 4294967295), .int (nI 4294967295), .int 0, .ref r1, .ref r2, .ref r3, .ref r4, .ref r5, .ref r6, .ref r7, .ref r8, .ref r9, .null, .int 0, .int 0, .int 0, .int 0, .int 0, .int 0]) :: (r1, eI G 109) :: (r2, eI G 109) :: (r3, eI G 109) :: (r4, eI G 109) :: (r5, eI G 872) :: (r6, eI G 60) :: (r7, eI G 40) :: (r8, eI G 9) :: [(r9, eF G 47 (wF 47))])) rfl ?_
  refine rw_aload_0 C dX6_init_363 ?_
  refine rw_bipush C (v := nI 10) (by decide) dX6_init_364 ?_
  refine rw_newi C (n := 10) (by decide) (by decide) (by decide) dX6_init_366 (fun r10 => ?_)
  refine rw_cast (ws' := (u ++ ((q, eO 10 [.int 0, .int 0, .int (nI 4294967295), .int (nI 4294967295), .int 0, .ref r1, .ref r2, .ref r3, .ref r4, .ref r5, .ref r6, .ref r7, .ref r8, .ref r9, .null, .int 0, .int 0, .int 0, .int 0, .int 0, .int 0]) :: (r1, eI G 109) :: (r2, eI G 109) :: (r3, eI G 109) :: (r4, eI G 109) :: (r5, eI G 872) :: (r6, eI G 60) :: (r7, eI G 40) :: (r8, eI G 9) :: [(r9, eF G 47 (wF 47))])) ++ (r10, .inl (G.2.1 1, 10, .inl (aF 0))) :: []) (by simp only [aF_0, List.append_assoc, List.cons_append, List.nil_append]) ?_
  refine rw_dup C rfl dX6_init_368 ?_
  refine rw_iconst C (v := nI 0) (by decide) dX6_init_369 ?_
  refine rw_iconst C (v := nI 0) (by decide) dX6_init_370 ?_
  refine rw_iastA C (i := 0) (x := 0) (by decide) (by decide) rfl dX6_init_371 ?_
  refine rw_dup C rfl dX6_init_372 ?_
  refine rw_iconst C (v := nI 1) (by decide) dX6_init_373 ?_
  refine rw_iconst C (v := nI 4) (by decide) dX6_init_374 ?_
  refine rw_iastA C (i := 1) (x := 4) (by decide) (by decide) rfl dX6_init_375 ?_
  refine rw_dup C rfl dX6_init_376 ?_
  refine rw_iconst C (v := nI 2) (by decide) dX6_init_377 ?_
  refine rw_bipush C (v := nI 9) (by decide) dX6_init_378 ?_
  refine rw_iastA C (i := 2) (x := 9) (by decide) (by decide) rfl dX6_init_380 ?_
  refine rw_dup C rfl dX6_init_381 ?_
  refine rw_iconst C (v := nI 3) (by decide) dX6_init_382 ?_
  refine rw_bipush C (v := nI 13) (by decide) dX6_init_383 ?_
  refine rw_iastA C (i := 3) (x := 13) (by decide) (by decide) rfl dX6_init_385 ?_
  refine rw_dup C rfl dX6_init_386 ?_
  refine rw_iconst C (v := nI 4) (by decide) dX6_init_387 ?_
  refine rw_bipush C (v := nI 19) (by decide) dX6_init_388 ?_
  refine rw_iastA C (i := 4) (x := 19) (by decide) (by decide) rfl dX6_init_390 ?_
  refine rw_dup C rfl dX6_init_391 ?_
  refine rw_iconst C (v := nI 5) (by decide) dX6_init_392 ?_
  refine rw_bipush C (v := nI 25) (by decide) dX6_init_393 ?_
  refine rw_iastA C (i := 5) (x := 25) (by decide) (by decide) rfl dX6_init_395 ?_
  refine rw_dup C rfl dX6_init_396 ?_
  refine rw_bipush C (v := nI 6) (by decide) dX6_init_397 ?_
  refine rw_bipush C (v := nI 30) (by decide) dX6_init_399 ?_
  refine rw_iastA C (i := 6) (x := 30) (by decide) (by decide) rfl dX6_init_401 ?_
  refine rw_dup C rfl dX6_init_402 ?_
  refine rw_bipush C (v := nI 7) (by decide) dX6_init_403 ?_
  refine rw_bipush C (v := nI 37) (by decide) dX6_init_405 ?_
  refine rw_iastA C (i := 7) (x := 37) (by decide) (by decide) rfl dX6_init_407 ?_
  refine rw_dup C rfl dX6_init_408 ?_
  refine rw_bipush C (v := nI 8) (by decide) dX6_init_409 ?_
  refine rw_bipush C (v := nI 42) (by decide) dX6_init_411 ?_
  refine rw_iastA C (i := 8) (x := 42) (by decide) (by decide) rfl dX6_init_413 ?_
  refine rw_dup C rfl dX6_init_414 ?_
  refine rw_bipush C (v := nI 9) (by decide) dX6_init_415 ?_
  refine rw_bipush C (v := nI 47) (by decide) dX6_init_417 ?_
  refine rw_iastA C (i := 9) (x := 47) (by decide) (by decide) rfl dX6_init_419 ?_
  refine rw_cast (ws' := u ++ ((q, eO 10 [.int 0, .int 0, .int (nI 4294967295), .int (nI 4294967295), .int 0, .ref r1, .ref r2, .ref r3, .ref r4, .ref r5, .ref r6, .ref r7, .ref r8, .ref r9, .null, .int 0, .int 0, .int 0, .int 0, .int 0, .int 0]) :: (r1, eI G 109) :: (r2, eI G 109) :: (r3, eI G 109) :: (r4, eI G 109) :: (r5, eI G 872) :: (r6, eI G 60) :: (r7, eI G 40) :: (r8, eI G 9) :: (r9, eF G 47 (wF 47)) :: [(r10, eF G 10 (aF 10))])) (by simp only [List.append_assoc, List.cons_append, List.nil_append]) ?_
  refine rw_putR C B zck10 (Nat.le_of_ble_eq_true rfl) fL_X6_44 rfl rfl rfl rfl rfl (Nat.le_of_ble_eq_true rfl) dX6_init_420 ?_
  refine rw_cast (ws' := u ++ ((q, eO 10 [.int 0, .int 0, .int (nI 4294967295), .int (nI 4294967295), .int 0, .ref r1, .ref r2, .ref r3, .ref r4, .ref r5, .ref r6, .ref r7, .ref r8, .ref r9, .ref r10, .int 0, .int 0, .int 0, .int 0, .int 0, .int 0]) :: (r1, eI G 109) :: (r2, eI G 109) :: (r3, eI G 109) :: (r4, eI G 109) :: (r5, eI G 872) :: (r6, eI G 60) :: (r7, eI G 40) :: (r8, eI G 9) :: (r9, eF G 47 (wF 47)) :: [(r10, eF G 10 (aF 10))])) rfl ?_
  exact rw_bret C rfl hF dX6_init_423 (by decide) (by decide) ⟨_, _, _, _, _, _, _, _, _, _, rfl⟩
