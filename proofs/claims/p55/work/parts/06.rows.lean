/-! locals -/
def zC1 (u : Option Value) : Bool := match u with
  | some v => v.category == 1
  | none => true
def zAl (φ : Nat → Nat) (ls : List (Option Value)) : List (Nat × Value) := (List.range ls.length).filterMap (fun i => (ls.getD i none).map (fun v => (i, zTr φ v)))
theorem zAl.mem {φ : Nat → Nat} {ls : List (Option Value)} {i : Nat} {v : Value} (h : ls[i]? = some (some v)) : (i, zTr φ v) ∈ zAl φ ls := by
  have hi : i < ls.length := (List.getElem?_eq_some_iff.mp h).1
  refine List.mem_filterMap.mpr ⟨i, List.mem_range.mpr hi, ?_⟩
  simp [List.getD, h]
theorem zHas.has {φ : Nat → Nat} {arr : Array Slot} {ls : List (Option Value)} (h : zHas φ arr ls) : lv_has arr ls.length (zAl φ ls) := by
  refine ⟨h.1, h.2.1, fun q hq => ?_⟩
  obtain ⟨i, -, h2⟩ := List.mem_filterMap.mp hq
  cases hg : ls[i]? with
  | none => simp [List.getD, hg] at h2
  | some o =>
    cases o with
    | none => simp [List.getD, hg] at h2
    | some v =>
      simp [List.getD, hg] at h2
      subst h2
      exact h.2.2 i v hg
theorem zHas.set {φ : Nat → Nat} {arr ls' : Array Slot} {ls : List (Option Value)} {i : Nat} {v : Value} (h : lv_has ls' ls.length ((i, zTr φ v) :: (zAl φ ls).filter (fun q => !(q.1 == i) && !(q.1 + 1 == i && q.2.category == 2)))) (_ : arr.size = ls.length) (hi : i < ls.length) (hu : ∀ u, (if i = 0 then none else ls[i - 1]?) = some u → zC1 u = true) : zHas φ ls' (ls.set i (some v)) := by
  refine ⟨by rw [h.1]; simp, h.2.1, fun j w hw => ?_⟩
  by_cases hj : j = i
  · subst hj
    rw [List.getElem?_set_self hi] at hw
    cases hw
    exact h.2.2 _ List.mem_cons_self
  · rw [List.getElem?_set_ne (fun h => hj h.symm)] at hw
    refine h.2.2 (j, zTr φ w) (List.mem_cons_of_mem _ (List.mem_filter.mpr ⟨zAl.mem hw, ?_⟩))
    have h1 : (j == i) = false := by simpa using hj
    simp only [h1, Bool.not_false, Bool.true_and]
    by_cases hji : j + 1 = i
    · subst hji
      have h2 := hu (some w) (by simpa using hw)
      simp only [zC1, beq_iff_eq] at h2
      simp [zTr_cat, h2]
    · simp [hji]
/-! rows -/
theorem sw_iadd {G : zG} {X : zX} {M : zM} {d mc ms a b pc : Nat} {ls : List (Option Value)} {st : List Value} {I : zI} {J : Int64} {E : UInt64} (C : zOK G X M d mc ms) {x y : Int32} (hd : decode M.2.1 pc = .ok (.iadd, 1)) (k : SW G X a b (pc + 1) ls (.int (x + y) :: st) I J E) : SW G X a b pc ls (.int y :: .int x :: st) I J E := by
  obtain ⟨p, l, e, R, s, m, args, below, meth, c, Q⟩ := X
  intro H locs arr hl hn hR hS
  exact lv_iadd C.1 C.2.1 hd (k H locs arr hl hn hR hS)
theorem sw_isub {G : zG} {X : zX} {M : zM} {d mc ms a b pc : Nat} {ls : List (Option Value)} {st : List Value} {I : zI} {J : Int64} {E : UInt64} (C : zOK G X M d mc ms) {x y : Int32} (hd : decode M.2.1 pc = .ok (.isub, 1)) (k : SW G X a b (pc + 1) ls (.int (x - y) :: st) I J E) : SW G X a b pc ls (.int y :: .int x :: st) I J E := by
  obtain ⟨p, l, e, R, s, m, args, below, meth, c, Q⟩ := X
  intro H locs arr hl hn hR hS
  exact lv_isub C.1 C.2.1 hd (k H locs arr hl hn hR hS)
theorem sw_imul {G : zG} {X : zX} {M : zM} {d mc ms a b pc : Nat} {ls : List (Option Value)} {st : List Value} {I : zI} {J : Int64} {E : UInt64} (C : zOK G X M d mc ms) {x y : Int32} (hd : decode M.2.1 pc = .ok (.imul, 1)) (k : SW G X a b (pc + 1) ls (.int (x * y) :: st) I J E) : SW G X a b pc ls (.int y :: .int x :: st) I J E := by
  obtain ⟨p, l, e, R, s, m, args, below, meth, c, Q⟩ := X
  intro H locs arr hl hn hR hS
  exact lv_imul C.1 C.2.1 hd (k H locs arr hl hn hR hS)
theorem sw_iand {G : zG} {X : zX} {M : zM} {d mc ms a b pc : Nat} {ls : List (Option Value)} {st : List Value} {I : zI} {J : Int64} {E : UInt64} (C : zOK G X M d mc ms) {x y : Int32} (hd : decode M.2.1 pc = .ok (.iand, 1)) (k : SW G X a b (pc + 1) ls (.int (x &&& y) :: st) I J E) : SW G X a b pc ls (.int y :: .int x :: st) I J E := by
  obtain ⟨p, l, e, R, s, m, args, below, meth, c, Q⟩ := X
  intro H locs arr hl hn hR hS
  exact lv_iand C.1 C.2.1 hd (k H locs arr hl hn hR hS)
theorem sw_ior {G : zG} {X : zX} {M : zM} {d mc ms a b pc : Nat} {ls : List (Option Value)} {st : List Value} {I : zI} {J : Int64} {E : UInt64} (C : zOK G X M d mc ms) {x y : Int32} (hd : decode M.2.1 pc = .ok (.ior, 1)) (k : SW G X a b (pc + 1) ls (.int (x ||| y) :: st) I J E) : SW G X a b pc ls (.int y :: .int x :: st) I J E := by
  obtain ⟨p, l, e, R, s, m, args, below, meth, c, Q⟩ := X
  intro H locs arr hl hn hR hS
  exact lv_ior C.1 C.2.1 hd (k H locs arr hl hn hR hS)
theorem sw_ixor {G : zG} {X : zX} {M : zM} {d mc ms a b pc : Nat} {ls : List (Option Value)} {st : List Value} {I : zI} {J : Int64} {E : UInt64} (C : zOK G X M d mc ms) {x y : Int32} (hd : decode M.2.1 pc = .ok (.ixor, 1)) (k : SW G X a b (pc + 1) ls (.int (x ^^^ y) :: st) I J E) : SW G X a b pc ls (.int y :: .int x :: st) I J E := by
  obtain ⟨p, l, e, R, s, m, args, below, meth, c, Q⟩ := X
  intro H locs arr hl hn hR hS
  exact lv_ixor C.1 C.2.1 hd (k H locs arr hl hn hR hS)
theorem sw_ishl {G : zG} {X : zX} {M : zM} {d mc ms a b pc : Nat} {ls : List (Option Value)} {st : List Value} {I : zI} {J : Int64} {E : UInt64} (C : zOK G X M d mc ms) {x y : Int32} (hd : decode M.2.1 pc = .ok (.ishl, 1)) (k : SW G X a b (pc + 1) ls (.int (x <<< (y &&& 31)) :: st) I J E) : SW G X a b pc ls (.int y :: .int x :: st) I J E := by
  obtain ⟨p, l, e, R, s, m, args, below, meth, c, Q⟩ := X
  intro H locs arr hl hn hR hS
  exact lv_ishl C.1 C.2.1 hd (k H locs arr hl hn hR hS)
theorem sw_ishr {G : zG} {X : zX} {M : zM} {d mc ms a b pc : Nat} {ls : List (Option Value)} {st : List Value} {I : zI} {J : Int64} {E : UInt64} (C : zOK G X M d mc ms) {x y : Int32} (hd : decode M.2.1 pc = .ok (.ishr, 1)) (k : SW G X a b (pc + 1) ls (.int (x >>> (y &&& 31)) :: st) I J E) : SW G X a b pc ls (.int y :: .int x :: st) I J E := by
  obtain ⟨p, l, e, R, s, m, args, below, meth, c, Q⟩ := X
  intro H locs arr hl hn hR hS
  exact lv_ishr C.1 C.2.1 hd (k H locs arr hl hn hR hS)
theorem sw_idiv {G : zG} {X : zX} {M : zM} {d mc ms a b pc : Nat} {ls : List (Option Value)} {st : List Value} {I : zI} {J : Int64} {E : UInt64} (C : zOK G X M d mc ms) {x y : Int32} (hne : ¬ y = 0) (hd : decode M.2.1 pc = .ok (.idiv, 1)) (k : SW G X a b (pc + 1) ls (.int (x / y) :: st) I J E) : SW G X a b pc ls (.int y :: .int x :: st) I J E := by
  obtain ⟨p, l, e, R, s, m, args, below, meth, c, Q⟩ := X
  intro H locs arr hl hn hR hS
  exact lv_idiv C.1 C.2.1 hd hne (k H locs arr hl hn hR hS)
theorem sw_irem {G : zG} {X : zX} {M : zM} {d mc ms a b pc : Nat} {ls : List (Option Value)} {st : List Value} {I : zI} {J : Int64} {E : UInt64} (C : zOK G X M d mc ms) {x y : Int32} (hne : ¬ y = 0) (hd : decode M.2.1 pc = .ok (.irem, 1)) (k : SW G X a b (pc + 1) ls (.int (x - x / y * y) :: st) I J E) : SW G X a b pc ls (.int y :: .int x :: st) I J E := by
  obtain ⟨p, l, e, R, s, m, args, below, meth, c, Q⟩ := X
  intro H locs arr hl hn hR hS
  exact lv_irem C.1 C.2.1 hd hne (k H locs arr hl hn hR hS)
theorem sw_ineg {G : zG} {X : zX} {M : zM} {d mc ms a b pc : Nat} {ls : List (Option Value)} {st : List Value} {I : zI} {J : Int64} {E : UInt64} (C : zOK G X M d mc ms) {x : Int32} (hd : decode M.2.1 pc = .ok (.ineg, 1)) (k : SW G X a b (pc + 1) ls (.int (-x) :: st) I J E) : SW G X a b pc ls (.int x :: st) I J E := by
  obtain ⟨p, l, e, R, s, m, args, below, meth, c, Q⟩ := X
  intro H locs arr hl hn hR hS
  exact lv_ineg C.1 C.2.1 hd (k H locs arr hl hn hR hS)
theorem sw_iushr {G : zG} {X : zX} {M : zM} {d mc ms a b pc : Nat} {ls : List (Option Value)} {st : List Value} {I : zI} {J : Int64} {E : UInt64} (C : zOK G X M d mc ms) {x y : Int32} (hd : decode M.2.1 pc = .ok (.iushr, 1)) (k : SW G X a b (pc + 1) ls (.int ((x.toUInt32 >>> (y.toUInt32 &&& Int32.toUInt32 31)).toInt32) :: st) I J E) : SW G X a b pc ls (.int y :: .int x :: st) I J E := by
  obtain ⟨p, l, e, R, s, m, args, below, meth, c, Q⟩ := X
  intro H locs arr hl hn hR hS
  exact lv_iushr C.1 C.2.1 hd rfl (k H locs arr hl hn hR hS)
theorem sw_i2c {G : zG} {X : zX} {M : zM} {d mc ms a b pc : Nat} {ls : List (Option Value)} {st : List Value} {I : zI} {J : Int64} {E : UInt64} (C : zOK G X M d mc ms) {x : Int32} (hd : decode M.2.1 pc = .ok (.i2c, 1)) (k : SW G X a b (pc + 1) ls (.int ((x.toUInt32 % 65536).toInt32) :: st) I J E) : SW G X a b pc ls (.int x :: st) I J E := by
  obtain ⟨p, l, e, R, s, m, args, below, meth, c, Q⟩ := X
  intro H locs arr hl hn hR hS
  exact lv_i2c C.1 C.2.1 hd rfl (k H locs arr hl hn hR hS)
theorem sw_i2l {G : zG} {X : zX} {M : zM} {d mc ms a b pc : Nat} {ls : List (Option Value)} {st : List Value} {I : zI} {J : Int64} {E : UInt64} (C : zOK G X M d mc ms) {x : Int32} (hd : decode M.2.1 pc = .ok (.i2l, 1)) (k : SW G X a b (pc + 1) ls (.long x.toInt64 :: st) I J E) : SW G X a b pc ls (.int x :: st) I J E := by
  obtain ⟨p, l, e, R, s, m, args, below, meth, c, Q⟩ := X
  intro H locs arr hl hn hR hS
  exact lv_i2l C.1 C.2.1 hd rfl (k H locs arr hl hn hR hS)
theorem sw_i2d {G : zG} {X : zX} {M : zM} {d mc ms a b pc : Nat} {ls : List (Option Value)} {st : List Value} {I : zI} {J : Int64} {E : UInt64} (C : zOK G X M d mc ms) {x : Int32} (hd : decode M.2.1 pc = .ok (.i2d, 1)) (k : SW G X a b (pc + 1) ls (.double (FP.i2d x) :: st) I J E) : SW G X a b pc ls (.int x :: st) I J E := by
  obtain ⟨p, l, e, R, s, m, args, below, meth, c, Q⟩ := X
  intro H locs arr hl hn hR hS
  exact lv_i2d C.1 C.2.1 hd (k H locs arr hl hn hR hS)
theorem sw_i2f {G : zG} {X : zX} {M : zM} {d mc ms a b pc : Nat} {ls : List (Option Value)} {st : List Value} {I : zI} {J : Int64} {E : UInt64} (C : zOK G X M d mc ms) {x : Int32} (hd : decode M.2.1 pc = .ok (.i2f, 1)) (k : SW G X a b (pc + 1) ls (.float (FP.i2f x) :: st) I J E) : SW G X a b pc ls (.int x :: st) I J E := by
  obtain ⟨p, l, e, R, s, m, args, below, meth, c, Q⟩ := X
  intro H locs arr hl hn hR hS
  exact lv_i2f C.1 C.2.1 hd (k H locs arr hl hn hR hS)
theorem sw_ddiv {G : zG} {X : zX} {M : zM} {d mc ms a b pc : Nat} {ls : List (Option Value)} {st : List Value} {I : zI} {J : Int64} {E : UInt64} (C : zOK G X M d mc ms) {x y : UInt64} (hne : vf_n64 (FP.ddiv x y)) (hd : decode M.2.1 pc = .ok (.ddiv, 1)) (k : SW G X a b (pc + 1) ls (.double (FP.ddiv x y) :: st) I J E) : SW G X a b pc ls (.double y :: .double x :: st) I J E := by
  obtain ⟨p, l, e, R, s, m, args, below, meth, c, Q⟩ := X
  intro H locs arr hl hn hR hS
  exact lv_ddiv C.1 C.2.1 hd hne (k H locs arr hl hn hR hS)
theorem sw_fdiv {G : zG} {X : zX} {M : zM} {d mc ms a b pc : Nat} {ls : List (Option Value)} {st : List Value} {I : zI} {J : Int64} {E : UInt64} (C : zOK G X M d mc ms) {x y : UInt32} (hne : vf_n32 (FP.fdiv x y)) (hd : decode M.2.1 pc = .ok (.fdiv, 1)) (k : SW G X a b (pc + 1) ls (.float (FP.fdiv x y) :: st) I J E) : SW G X a b pc ls (.float y :: .float x :: st) I J E := by
  obtain ⟨p, l, e, R, s, m, args, below, meth, c, Q⟩ := X
  intro H locs arr hl hn hR hS
  exact lv_fdiv C.1 C.2.1 hd hne (k H locs arr hl hn hR hS)
theorem sw_f2d {G : zG} {X : zX} {M : zM} {d mc ms a b pc : Nat} {ls : List (Option Value)} {st : List Value} {I : zI} {J : Int64} {E : UInt64} (C : zOK G X M d mc ms) {x : UInt32} (hne : vf_n64 (FP.f2d x)) (hd : decode M.2.1 pc = .ok (.f2d, 1)) (k : SW G X a b (pc + 1) ls (.double (FP.f2d x) :: st) I J E) : SW G X a b pc ls (.float x :: st) I J E := by
  obtain ⟨p, l, e, R, s, m, args, below, meth, c, Q⟩ := X
  intro H locs arr hl hn hR hS
  exact lv_f2d C.1 C.2.1 hd hne (k H locs arr hl hn hR hS)
theorem sw_dcmp {G : zG} {X : zX} {M : zM} {d mc ms a b pc : Nat} {ls : List (Option Value)} {st : List Value} {I : zI} {J : Int64} {E : UInt64} (C : zOK G X M d mc ms) {x y : UInt64} {op : CmpOp} (hd : decode M.2.1 pc = .ok (.dcmp op, 1)) (k : SW G X a b (pc + 1) ls (.int (Op.cmpValue (FP.dcmp x y) op) :: st) I J E) : SW G X a b pc ls (.double y :: .double x :: st) I J E := by
  obtain ⟨p, l, e, R, s, m, args, below, meth, c, Q⟩ := X
  intro H locs arr hl hn hR hS
  exact lv_dcmp C.1 C.2.1 hd (k H locs arr hl hn hR hS)
theorem sw_fcmp {G : zG} {X : zX} {M : zM} {d mc ms a b pc : Nat} {ls : List (Option Value)} {st : List Value} {I : zI} {J : Int64} {E : UInt64} (C : zOK G X M d mc ms) {x y : UInt32} {op : CmpOp} (hd : decode M.2.1 pc = .ok (.fcmp op, 1)) (k : SW G X a b (pc + 1) ls (.int (Op.cmpValue (FP.fcmp x y) op) :: st) I J E) : SW G X a b pc ls (.float y :: .float x :: st) I J E := by
  obtain ⟨p, l, e, R, s, m, args, below, meth, c, Q⟩ := X
  intro H locs arr hl hn hR hS
  exact lv_fcmp C.1 C.2.1 hd (k H locs arr hl hn hR hS)
theorem sw_lcmp {G : zG} {X : zX} {M : zM} {d mc ms a b pc : Nat} {ls : List (Option Value)} {st : List Value} {I : zI} {J : Int64} {E : UInt64} (C : zOK G X M d mc ms) {x y : Int64} (hd : decode M.2.1 pc = .ok (.lcmp, 1)) (k : SW G X a b (pc + 1) ls (.int (lg_cmp x y) :: st) I J E) : SW G X a b pc ls (.long y :: .long x :: st) I J E := by
  obtain ⟨p, l, e, R, s, m, args, below, meth, c, Q⟩ := X
  intro H locs arr hl hn hR hS
  exact W.lcmp C.1 C.2.1 hd (k H locs arr hl hn hR hS)
theorem sw_iconst {G : zG} {X : zX} {M : zM} {d mc ms a b pc : Nat} {ls : List (Option Value)} {st : List Value} {I : zI} {J : Int64} {E : UInt64} (C : zOK G X M d mc ms) {v : Int32} {n : Int} (hv : Int32.ofInt n = v) (hd : decode M.2.1 pc = .ok (.iconst n, 1)) (k : SW G X a b (pc + 1) ls (.int v :: st) I J E) : SW G X a b pc ls (st) I J E := by
  obtain ⟨p, l, e, R, s, m, args, below, meth, c, Q⟩ := X
  intro H locs arr hl hn hR hS
  exact lv_iconst C.1 C.2.1 hd hv (k H locs arr hl hn hR hS)
theorem sw_bipush {G : zG} {X : zX} {M : zM} {d mc ms a b pc : Nat} {ls : List (Option Value)} {st : List Value} {I : zI} {J : Int64} {E : UInt64} (C : zOK G X M d mc ms) {v : Int32} {n : Int} (hv : (Int8.ofInt n).toInt32 = v) (hd : decode M.2.1 pc = .ok (.bipush n, 2)) (k : SW G X a b (pc + 2) ls (.int v :: st) I J E) : SW G X a b pc ls (st) I J E := by
  obtain ⟨p, l, e, R, s, m, args, below, meth, c, Q⟩ := X
  intro H locs arr hl hn hR hS
  exact lv_bipush C.1 C.2.1 hd hv (k H locs arr hl hn hR hS)
theorem sw_sipush {G : zG} {X : zX} {M : zM} {d mc ms a b pc : Nat} {ls : List (Option Value)} {st : List Value} {I : zI} {J : Int64} {E : UInt64} (C : zOK G X M d mc ms) {v : Int32} {n : Int} (hv : (Int16.ofInt n).toInt32 = v) (hd : decode M.2.1 pc = .ok (.sipush n, 3)) (k : SW G X a b (pc + 3) ls (.int v :: st) I J E) : SW G X a b pc ls (st) I J E := by
  obtain ⟨p, l, e, R, s, m, args, below, meth, c, Q⟩ := X
  intro H locs arr hl hn hR hS
  exact lv_sipush C.1 C.2.1 hd hv (k H locs arr hl hn hR hS)
theorem sw_lconst {G : zG} {X : zX} {M : zM} {d mc ms a b pc : Nat} {ls : List (Option Value)} {st : List Value} {I : zI} {J : Int64} {E : UInt64} (C : zOK G X M d mc ms) {v : Int64} {n : Fin 2} (hv : Int64.ofNat (n : Nat) = v) (hd : decode M.2.1 pc = .ok (.lconst n, 1)) (k : SW G X a b (pc + 1) ls (.long v :: st) I J E) : SW G X a b pc ls (st) I J E := by
  obtain ⟨p, l, e, R, s, m, args, below, meth, c, Q⟩ := X
  intro H locs arr hl hn hR hS
  exact lv_lconst C.1 C.2.1 hd hv (k H locs arr hl hn hR hS)
theorem sw_fconst0 {G : zG} {X : zX} {M : zM} {d mc ms a b pc : Nat} {ls : List (Option Value)} {st : List Value} {I : zI} {J : Int64} {E : UInt64} (C : zOK G X M d mc ms)  (hd : decode M.2.1 pc = .ok (.fconst 0, 1)) (k : SW G X a b (pc + 1) ls (.float 0 :: st) I J E) : SW G X a b pc ls (st) I J E := by
  obtain ⟨p, l, e, R, s, m, args, below, meth, c, Q⟩ := X
  intro H locs arr hl hn hR hS
  exact lv_fconst0 C.1 C.2.1 hd (k H locs arr hl hn hR hS)
theorem sw_dconst0 {G : zG} {X : zX} {M : zM} {d mc ms a b pc : Nat} {ls : List (Option Value)} {st : List Value} {I : zI} {J : Int64} {E : UInt64} (C : zOK G X M d mc ms)  (hd : decode M.2.1 pc = .ok (.dconst 0, 1)) (k : SW G X a b (pc + 1) ls (.double 0 :: st) I J E) : SW G X a b pc ls (st) I J E := by
  obtain ⟨p, l, e, R, s, m, args, below, meth, c, Q⟩ := X
  intro H locs arr hl hn hR hS
  exact lv_dconst0 C.1 C.2.1 hd (k H locs arr hl hn hR hS)
theorem sw_dup {G : zG} {X : zX} {M : zM} {d mc ms a b pc : Nat} {ls : List (Option Value)} {st : List Value} {I : zI} {J : Int64} {E : UInt64} (C : zOK G X M d mc ms) {v : Value} (hv : v.category = 1) (hd : decode M.2.1 pc = .ok (.dup, 1)) (k : SW G X a b (pc + 1) ls (v :: v :: st) I J E) : SW G X a b pc ls (v :: st) I J E := by
  obtain ⟨p, l, e, R, s, m, args, below, meth, c, Q⟩ := X
  intro H locs arr hl hn hR hS
  exact lv_dup C.1 C.2.1 hd (by rw [zTr_cat]; exact hv) (k H locs arr hl hn hR hS)
theorem sw_dup_x1 {G : zG} {X : zX} {M : zM} {d mc ms a b pc : Nat} {ls : List (Option Value)} {st : List Value} {I : zI} {J : Int64} {E : UInt64} (C : zOK G X M d mc ms) {v w : Value} (hv : v.category = 1) (hw : w.category = 1) (hd : decode M.2.1 pc = .ok (.dup_x1, 1)) (k : SW G X a b (pc + 1) ls (v :: w :: v :: st) I J E) : SW G X a b pc ls (v :: w :: st) I J E := by
  obtain ⟨p, l, e, R, s, m, args, below, meth, c, Q⟩ := X
  intro H locs arr hl hn hR hS
  exact lv_dup_x1 C.1 C.2.1 hd (by rw [zTr_cat]; exact hv) (by rw [zTr_cat]; exact hw) (k H locs arr hl hn hR hS)
theorem sw_dup2 {G : zG} {X : zX} {M : zM} {d mc ms a b pc : Nat} {ls : List (Option Value)} {st : List Value} {I : zI} {J : Int64} {E : UInt64} (C : zOK G X M d mc ms) {v w : Value} (hv : v.category = 1) (hw : w.category = 1) (hd : decode M.2.1 pc = .ok (.dup2, 1)) (k : SW G X a b (pc + 1) ls (v :: w :: v :: w :: st) I J E) : SW G X a b pc ls (v :: w :: st) I J E := by
  obtain ⟨p, l, e, R, s, m, args, below, meth, c, Q⟩ := X
  intro H locs arr hl hn hR hS
  exact lv_dup2_11 C.1 C.2.1 hd (by rw [zTr_cat]; exact hv) (by rw [zTr_cat]; exact hw) (k H locs arr hl hn hR hS)
theorem sw_pop {G : zG} {X : zX} {M : zM} {d mc ms a b pc : Nat} {ls : List (Option Value)} {st : List Value} {I : zI} {J : Int64} {E : UInt64} (C : zOK G X M d mc ms) {v : Value} (hv : v.category = 1) (hd : decode M.2.1 pc = .ok (.pop, 1)) (k : SW G X a b (pc + 1) ls (st) I J E) : SW G X a b pc ls (v :: st) I J E := by
  obtain ⟨p, l, e, R, s, m, args, below, meth, c, Q⟩ := X
  intro H locs arr hl hn hR hS
  exact lv_pop C.1 C.2.1 hd (by rw [zTr_cat]; exact hv) (k H locs arr hl hn hR hS)
theorem sw_if_eq {G : zG} {X : zX} {M : zM} {d mc ms a b pc : Nat} {ls : List (Option Value)} {st : List Value} {I : zI} {J : Int64} {E : UInt64} (C : zOK G X M d mc ms) {x : Int32} {off : Int} (tgt : Nat) (hd : decode M.2.1 pc = .ok (.ifCond .eq off, 3)) (ht : (pc : Int) + off = (tgt : Int)) (kt : x = 0 → SW G X a b tgt ls st I J E) (kf : ¬ x = 0 → SW G X a b (pc + 3) ls st I J E) : SW G X a b pc ls (.int x :: st) I J E := by
  obtain ⟨p, l, e, R, s, m, args, below, meth, c, Q⟩ := X
  intro H locs arr hl hn hR hS
  exact lv_if_eq C.1 C.2.1 hd ht (fun h => kt h H locs arr hl hn hR hS) (fun h => kf h H locs arr hl hn hR hS)
theorem sw_if_ne {G : zG} {X : zX} {M : zM} {d mc ms a b pc : Nat} {ls : List (Option Value)} {st : List Value} {I : zI} {J : Int64} {E : UInt64} (C : zOK G X M d mc ms) {x : Int32} {off : Int} (tgt : Nat) (hd : decode M.2.1 pc = .ok (.ifCond .ne off, 3)) (ht : (pc : Int) + off = (tgt : Int)) (kt : ¬ x = 0 → SW G X a b tgt ls st I J E) (kf : x = 0 → SW G X a b (pc + 3) ls st I J E) : SW G X a b pc ls (.int x :: st) I J E := by
  obtain ⟨p, l, e, R, s, m, args, below, meth, c, Q⟩ := X
  intro H locs arr hl hn hR hS
  exact lv_if_ne C.1 C.2.1 hd ht (fun h => kt h H locs arr hl hn hR hS) (fun h => kf h H locs arr hl hn hR hS)
theorem sw_if_lt {G : zG} {X : zX} {M : zM} {d mc ms a b pc : Nat} {ls : List (Option Value)} {st : List Value} {I : zI} {J : Int64} {E : UInt64} (C : zOK G X M d mc ms) {x : Int32} {off : Int} (tgt : Nat) (hd : decode M.2.1 pc = .ok (.ifCond .lt off, 3)) (ht : (pc : Int) + off = (tgt : Int)) (kt : x < 0 → SW G X a b tgt ls st I J E) (kf : ¬ x < 0 → SW G X a b (pc + 3) ls st I J E) : SW G X a b pc ls (.int x :: st) I J E := by
  obtain ⟨p, l, e, R, s, m, args, below, meth, c, Q⟩ := X
  intro H locs arr hl hn hR hS
  exact lv_if_lt C.1 C.2.1 hd ht (fun h => kt h H locs arr hl hn hR hS) (fun h => kf h H locs arr hl hn hR hS)
theorem sw_if_ge {G : zG} {X : zX} {M : zM} {d mc ms a b pc : Nat} {ls : List (Option Value)} {st : List Value} {I : zI} {J : Int64} {E : UInt64} (C : zOK G X M d mc ms) {x : Int32} {off : Int} (tgt : Nat) (hd : decode M.2.1 pc = .ok (.ifCond .ge off, 3)) (ht : (pc : Int) + off = (tgt : Int)) (kt : 0 ≤ x → SW G X a b tgt ls st I J E) (kf : ¬ 0 ≤ x → SW G X a b (pc + 3) ls st I J E) : SW G X a b pc ls (.int x :: st) I J E := by
  obtain ⟨p, l, e, R, s, m, args, below, meth, c, Q⟩ := X
  intro H locs arr hl hn hR hS
  exact lv_if_ge C.1 C.2.1 hd ht (fun h => kt h H locs arr hl hn hR hS) (fun h => kf h H locs arr hl hn hR hS)
theorem sw_if_gt {G : zG} {X : zX} {M : zM} {d mc ms a b pc : Nat} {ls : List (Option Value)} {st : List Value} {I : zI} {J : Int64} {E : UInt64} (C : zOK G X M d mc ms) {x : Int32} {off : Int} (tgt : Nat) (hd : decode M.2.1 pc = .ok (.ifCond .gt off, 3)) (ht : (pc : Int) + off = (tgt : Int)) (kt : 0 < x → SW G X a b tgt ls st I J E) (kf : ¬ 0 < x → SW G X a b (pc + 3) ls st I J E) : SW G X a b pc ls (.int x :: st) I J E := by
  obtain ⟨p, l, e, R, s, m, args, below, meth, c, Q⟩ := X
  intro H locs arr hl hn hR hS
  exact lv_if_gt C.1 C.2.1 hd ht (fun h => kt h H locs arr hl hn hR hS) (fun h => kf h H locs arr hl hn hR hS)
theorem sw_if_le {G : zG} {X : zX} {M : zM} {d mc ms a b pc : Nat} {ls : List (Option Value)} {st : List Value} {I : zI} {J : Int64} {E : UInt64} (C : zOK G X M d mc ms) {x : Int32} {off : Int} (tgt : Nat) (hd : decode M.2.1 pc = .ok (.ifCond .le off, 3)) (ht : (pc : Int) + off = (tgt : Int)) (kt : x ≤ 0 → SW G X a b tgt ls st I J E) (kf : ¬ x ≤ 0 → SW G X a b (pc + 3) ls st I J E) : SW G X a b pc ls (.int x :: st) I J E := by
  obtain ⟨p, l, e, R, s, m, args, below, meth, c, Q⟩ := X
  intro H locs arr hl hn hR hS
  exact lv_if_le C.1 C.2.1 hd ht (fun h => kt h H locs arr hl hn hR hS) (fun h => kf h H locs arr hl hn hR hS)
theorem sw_icmp_eq {G : zG} {X : zX} {M : zM} {d mc ms a b pc : Nat} {ls : List (Option Value)} {st : List Value} {I : zI} {J : Int64} {E : UInt64} (C : zOK G X M d mc ms) {x y : Int32} {off : Int} (tgt : Nat) (hd : decode M.2.1 pc = .ok (.if_icmp .eq off, 3)) (ht : (pc : Int) + off = (tgt : Int)) (kt : x = y → SW G X a b tgt ls st I J E) (kf : ¬ x = y → SW G X a b (pc + 3) ls st I J E) : SW G X a b pc ls (.int y :: .int x :: st) I J E := by
  obtain ⟨p, l, e, R, s, m, args, below, meth, c, Q⟩ := X
  intro H locs arr hl hn hR hS
  exact lv_icmp_eq C.1 C.2.1 hd ht (fun h => kt h H locs arr hl hn hR hS) (fun h => kf h H locs arr hl hn hR hS)
theorem sw_icmp_ne {G : zG} {X : zX} {M : zM} {d mc ms a b pc : Nat} {ls : List (Option Value)} {st : List Value} {I : zI} {J : Int64} {E : UInt64} (C : zOK G X M d mc ms) {x y : Int32} {off : Int} (tgt : Nat) (hd : decode M.2.1 pc = .ok (.if_icmp .ne off, 3)) (ht : (pc : Int) + off = (tgt : Int)) (kt : ¬ x = y → SW G X a b tgt ls st I J E) (kf : x = y → SW G X a b (pc + 3) ls st I J E) : SW G X a b pc ls (.int y :: .int x :: st) I J E := by
  obtain ⟨p, l, e, R, s, m, args, below, meth, c, Q⟩ := X
  intro H locs arr hl hn hR hS
  exact lv_icmp_ne C.1 C.2.1 hd ht (fun h => kt h H locs arr hl hn hR hS) (fun h => kf h H locs arr hl hn hR hS)
theorem sw_icmp_lt {G : zG} {X : zX} {M : zM} {d mc ms a b pc : Nat} {ls : List (Option Value)} {st : List Value} {I : zI} {J : Int64} {E : UInt64} (C : zOK G X M d mc ms) {x y : Int32} {off : Int} (tgt : Nat) (hd : decode M.2.1 pc = .ok (.if_icmp .lt off, 3)) (ht : (pc : Int) + off = (tgt : Int)) (kt : x < y → SW G X a b tgt ls st I J E) (kf : ¬ x < y → SW G X a b (pc + 3) ls st I J E) : SW G X a b pc ls (.int y :: .int x :: st) I J E := by
  obtain ⟨p, l, e, R, s, m, args, below, meth, c, Q⟩ := X
  intro H locs arr hl hn hR hS
  exact lv_icmp_lt C.1 C.2.1 hd ht (fun h => kt h H locs arr hl hn hR hS) (fun h => kf h H locs arr hl hn hR hS)
theorem sw_icmp_ge {G : zG} {X : zX} {M : zM} {d mc ms a b pc : Nat} {ls : List (Option Value)} {st : List Value} {I : zI} {J : Int64} {E : UInt64} (C : zOK G X M d mc ms) {x y : Int32} {off : Int} (tgt : Nat) (hd : decode M.2.1 pc = .ok (.if_icmp .ge off, 3)) (ht : (pc : Int) + off = (tgt : Int)) (kt : y ≤ x → SW G X a b tgt ls st I J E) (kf : ¬ y ≤ x → SW G X a b (pc + 3) ls st I J E) : SW G X a b pc ls (.int y :: .int x :: st) I J E := by
  obtain ⟨p, l, e, R, s, m, args, below, meth, c, Q⟩ := X
  intro H locs arr hl hn hR hS
  exact lv_icmp_ge C.1 C.2.1 hd ht (fun h => kt h H locs arr hl hn hR hS) (fun h => kf h H locs arr hl hn hR hS)
theorem sw_icmp_gt {G : zG} {X : zX} {M : zM} {d mc ms a b pc : Nat} {ls : List (Option Value)} {st : List Value} {I : zI} {J : Int64} {E : UInt64} (C : zOK G X M d mc ms) {x y : Int32} {off : Int} (tgt : Nat) (hd : decode M.2.1 pc = .ok (.if_icmp .gt off, 3)) (ht : (pc : Int) + off = (tgt : Int)) (kt : y < x → SW G X a b tgt ls st I J E) (kf : ¬ y < x → SW G X a b (pc + 3) ls st I J E) : SW G X a b pc ls (.int y :: .int x :: st) I J E := by
  obtain ⟨p, l, e, R, s, m, args, below, meth, c, Q⟩ := X
  intro H locs arr hl hn hR hS
  exact lv_icmp_gt C.1 C.2.1 hd ht (fun h => kt h H locs arr hl hn hR hS) (fun h => kf h H locs arr hl hn hR hS)
theorem sw_icmp_le {G : zG} {X : zX} {M : zM} {d mc ms a b pc : Nat} {ls : List (Option Value)} {st : List Value} {I : zI} {J : Int64} {E : UInt64} (C : zOK G X M d mc ms) {x y : Int32} {off : Int} (tgt : Nat) (hd : decode M.2.1 pc = .ok (.if_icmp .le off, 3)) (ht : (pc : Int) + off = (tgt : Int)) (kt : x ≤ y → SW G X a b tgt ls st I J E) (kf : ¬ x ≤ y → SW G X a b (pc + 3) ls st I J E) : SW G X a b pc ls (.int y :: .int x :: st) I J E := by
  obtain ⟨p, l, e, R, s, m, args, below, meth, c, Q⟩ := X
  intro H locs arr hl hn hR hS
  exact lv_icmp_le C.1 C.2.1 hd ht (fun h => kt h H locs arr hl hn hR hS) (fun h => kf h H locs arr hl hn hR hS)
theorem sw_goto {G : zG} {X : zX} {M : zM} {d mc ms a b pc : Nat} {ls : List (Option Value)} {st : List Value} {I : zI} {J : Int64} {E : UInt64} (C : zOK G X M d mc ms) {off : Int} (tgt : Nat) (hd : decode M.2.1 pc = .ok (.goto off, 3)) (ht : (pc : Int) + off = (tgt : Int)) (k : SW G X a b tgt ls st I J E) : SW G X a b pc ls st I J E := by
  obtain ⟨p, l, e, R, s, m, args, below, meth, c, Q⟩ := X
  intro H locs arr hl hn hR hS
  exact lv_goto C.1 C.2.1 hd ht (k H locs arr hl hn hR hS)
theorem sw_tableIn {G : zG} {X : zX} {M : zM} {d mc ms a b pc : Nat} {ls : List (Option Value)} {st : List Value} {I : zI} {J : Int64} {E : UInt64} (C : zOK G X M d mc ms) {dflt lo hi : Int} {offs : Array Int} {len : Nat} {x : Int32} {off : Int} (tgt : Nat) (hd : decode M.2.1 pc = .ok (.tableswitch dflt lo hi offs, len)) (h1 : ¬ x.toInt < lo) (h2 : ¬ hi < x.toInt) (ho : offs[(x.toInt - lo).toNat]? = some off) (ht : (pc : Int) + off = (tgt : Int)) (k : SW G X a b tgt ls st I J E) : SW G X a b pc ls (.int x :: st) I J E := by
  obtain ⟨p, l, e, R, s, m, args, below, meth, c, Q⟩ := X
  intro H locs arr hl hn hR hS
  exact lv_tableIn C.1 C.2.1 hd h1 h2 ho ht (k H locs arr hl hn hR hS)
theorem sw_tableOut {G : zG} {X : zX} {M : zM} {d mc ms a b pc : Nat} {ls : List (Option Value)} {st : List Value} {I : zI} {J : Int64} {E : UInt64} (C : zOK G X M d mc ms) {dflt lo hi : Int} {offs : Array Int} {len : Nat} {x : Int32} (tgt : Nat) (hd : decode M.2.1 pc = .ok (.tableswitch dflt lo hi offs, len)) (h : x.toInt < lo ∨ hi < x.toInt) (ht : (pc : Int) + dflt = (tgt : Int)) (k : SW G X a b tgt ls st I J E) : SW G X a b pc ls (.int x :: st) I J E := by
  obtain ⟨p, l, e, R, s, m, args, below, meth, c, Q⟩ := X
  intro H locs arr hl hn hR hS
  exact lv_tableOut C.1 C.2.1 hd h ht (k H locs arr hl hn hR hS)
theorem sw_iload_0 {G : zG} {X : zX} {M : zM} {d mc ms a b pc : Nat} {lt : List (Option Value)} {st : List Value} {I : zI} {J : Int64} {E : UInt64} (C : zOK G X M d mc ms) {x : Int32} (hd : decode M.2.1 pc = .ok (.iload_n 0, 1)) (k : SW G X a b (pc + 1) (some (.int x) :: lt) (.int x :: st) I J E) : SW G X a b pc (some (.int x) :: lt) st I J E := by
  obtain ⟨p, l, e, R, s, m, args, below, meth, c, Q⟩ := X
  intro H locs arr hl hn hR hS
  exact lv_iload_n C.1 C.2.1 (i := 0) hd rfl (hl.2.2 0 _ rfl) (k H locs arr hl hn hR hS)
theorem sw_aload_0 {G : zG} {X : zX} {M : zM} {d mc ms a b pc : Nat} {lt : List (Option Value)} {st : List Value} {I : zI} {J : Int64} {E : UInt64} (C : zOK G X M d mc ms) {x : Nat} (hd : decode M.2.1 pc = .ok (.aload_n 0, 1)) (k : SW G X a b (pc + 1) (some (.ref x) :: lt) (.ref x :: st) I J E) : SW G X a b pc (some (.ref x) :: lt) st I J E := by
  obtain ⟨p, l, e, R, s, m, args, below, meth, c, Q⟩ := X
  intro H locs arr hl hn hR hS
  exact lv_aload_n C.1 C.2.1 (i := 0) hd rfl (hl.2.2 0 _ rfl) (k H locs arr hl hn hR hS)
theorem sw_istore_0 {G : zG} {X : zX} {M : zM} {d mc ms a b pc : Nat} {lt : List (Option Value)} {st : List Value} {I : zI} {J : Int64} {E : UInt64} (C : zOK G X M d mc ms) {w : Option Value} {x : Int32} (hd : decode M.2.1 pc = .ok (.istore_n 0, 1)) (k : SW G X a b (pc + 1) (some (.int x) :: lt) st I J E) : SW G X a b pc (w :: lt) (.int x :: st) I J E := by
  obtain ⟨p, l, e, R, s, m, args, below, meth, c, Q⟩ := X
  intro H locs arr hl hn hR hS
  refine lv_istore_n C.1 C.2.1 (i := 0) hd rfl (lv := zAl G.2.2.1 (w :: lt)) (zHas.has hl) (by simp) rfl (fun ls h => ?_)
  exact k H locs ls (zHas.set (i := 0) (v := .int x) h hl.1 (by simp) (by simp)) hn hR hS
theorem sw_astore_0 {G : zG} {X : zX} {M : zM} {d mc ms a b pc : Nat} {lt : List (Option Value)} {st : List Value} {I : zI} {J : Int64} {E : UInt64} (C : zOK G X M d mc ms) {w : Option Value} {x : Nat} (hd : decode M.2.1 pc = .ok (.astore_n 0, 1)) (k : SW G X a b (pc + 1) (some (.ref x) :: lt) st I J E) : SW G X a b pc (w :: lt) (.ref x :: st) I J E := by
  obtain ⟨p, l, e, R, s, m, args, below, meth, c, Q⟩ := X
  intro H locs arr hl hn hR hS
  refine lv_astore_n C.1 C.2.1 (i := 0) hd rfl (lv := zAl G.2.2.1 (w :: lt)) (zHas.has hl) (by simp) rfl (fun ls h => ?_)
  exact k H locs ls (zHas.set (i := 0) (v := .ref x) h hl.1 (by simp) (by simp)) hn hR hS
theorem sw_iinc_0 {G : zG} {X : zX} {M : zM} {d mc ms a b pc : Nat} {lt : List (Option Value)} {st : List Value} {I : zI} {J : Int64} {E : UInt64} (C : zOK G X M d mc ms) {x v : Int32} {n : Int} (hv : x + Int32.ofInt n = v) (hd : decode M.2.1 pc = .ok (.iinc 0 n, 3)) (k : SW G X a b (pc + 3) (some (.int v) :: lt) st I J E) : SW G X a b pc (some (.int x) :: lt) st I J E := by
  obtain ⟨p, l, e, R, s, m, args, below, meth, c, Q⟩ := X
  intro H locs arr hl hn hR hS
  obtain ⟨q, hq⟩ := List.getElem?_of_mem (zAl.mem (φ := G.2.2.1) (ls := some (.int x) :: lt) (i := 0) rfl)
  refine lv_iinc C.1 C.2.1 (i := 0) hd (lv := zAl G.2.2.1 (some (.int x) :: lt)) (zHas.has hl) hq hv (by simp) rfl (fun ls h => ?_)
  exact k H locs ls (zHas.set (i := 0) (v := .int v) h hl.1 (by simp) (by simp)) hn hR hS
theorem sw_iload_1 {G : zG} {X : zX} {M : zM} {d mc ms a b pc : Nat} {lt : List (Option Value)} {st : List Value} {I : zI} {J : Int64} {E : UInt64} (C : zOK G X M d mc ms) {u0 : Option Value} {x : Int32} (hd : decode M.2.1 pc = .ok (.iload_n 1, 1)) (k : SW G X a b (pc + 1) (u0 :: some (.int x) :: lt) (.int x :: st) I J E) : SW G X a b pc (u0 :: some (.int x) :: lt) st I J E := by
  obtain ⟨p, l, e, R, s, m, args, below, meth, c, Q⟩ := X
  intro H locs arr hl hn hR hS
  exact lv_iload_n C.1 C.2.1 (i := 1) hd rfl (hl.2.2 1 _ rfl) (k H locs arr hl hn hR hS)
theorem sw_aload_1 {G : zG} {X : zX} {M : zM} {d mc ms a b pc : Nat} {lt : List (Option Value)} {st : List Value} {I : zI} {J : Int64} {E : UInt64} (C : zOK G X M d mc ms) {u0 : Option Value} {x : Nat} (hd : decode M.2.1 pc = .ok (.aload_n 1, 1)) (k : SW G X a b (pc + 1) (u0 :: some (.ref x) :: lt) (.ref x :: st) I J E) : SW G X a b pc (u0 :: some (.ref x) :: lt) st I J E := by
  obtain ⟨p, l, e, R, s, m, args, below, meth, c, Q⟩ := X
  intro H locs arr hl hn hR hS
  exact lv_aload_n C.1 C.2.1 (i := 1) hd rfl (hl.2.2 1 _ rfl) (k H locs arr hl hn hR hS)
theorem sw_istore_1 {G : zG} {X : zX} {M : zM} {d mc ms a b pc : Nat} {lt : List (Option Value)} {st : List Value} {I : zI} {J : Int64} {E : UInt64} (C : zOK G X M d mc ms) {u0 : Option Value} {w : Option Value} {x : Int32} (hu : zC1 u0 = true) (hd : decode M.2.1 pc = .ok (.istore_n 1, 1)) (k : SW G X a b (pc + 1) (u0 :: some (.int x) :: lt) st I J E) : SW G X a b pc (u0 :: w :: lt) (.int x :: st) I J E := by
  obtain ⟨p, l, e, R, s, m, args, below, meth, c, Q⟩ := X
  intro H locs arr hl hn hR hS
  refine lv_istore_n C.1 C.2.1 (i := 1) hd rfl (lv := zAl G.2.2.1 (u0 :: w :: lt)) (zHas.has hl) (by simp) rfl (fun ls h => ?_)
  exact k H locs ls (zHas.set (i := 1) (v := .int x) h hl.1 (by simp) (fun u hu2 => by cases hu2; exact hu)) hn hR hS
theorem sw_astore_1 {G : zG} {X : zX} {M : zM} {d mc ms a b pc : Nat} {lt : List (Option Value)} {st : List Value} {I : zI} {J : Int64} {E : UInt64} (C : zOK G X M d mc ms) {u0 : Option Value} {w : Option Value} {x : Nat} (hu : zC1 u0 = true) (hd : decode M.2.1 pc = .ok (.astore_n 1, 1)) (k : SW G X a b (pc + 1) (u0 :: some (.ref x) :: lt) st I J E) : SW G X a b pc (u0 :: w :: lt) (.ref x :: st) I J E := by
  obtain ⟨p, l, e, R, s, m, args, below, meth, c, Q⟩ := X
  intro H locs arr hl hn hR hS
  refine lv_astore_n C.1 C.2.1 (i := 1) hd rfl (lv := zAl G.2.2.1 (u0 :: w :: lt)) (zHas.has hl) (by simp) rfl (fun ls h => ?_)
  exact k H locs ls (zHas.set (i := 1) (v := .ref x) h hl.1 (by simp) (fun u hu2 => by cases hu2; exact hu)) hn hR hS
theorem sw_iinc_1 {G : zG} {X : zX} {M : zM} {d mc ms a b pc : Nat} {lt : List (Option Value)} {st : List Value} {I : zI} {J : Int64} {E : UInt64} (C : zOK G X M d mc ms) {u0 : Option Value} {x v : Int32} {n : Int} (hu : zC1 u0 = true) (hv : x + Int32.ofInt n = v) (hd : decode M.2.1 pc = .ok (.iinc 1 n, 3)) (k : SW G X a b (pc + 3) (u0 :: some (.int v) :: lt) st I J E) : SW G X a b pc (u0 :: some (.int x) :: lt) st I J E := by
  obtain ⟨p, l, e, R, s, m, args, below, meth, c, Q⟩ := X
  intro H locs arr hl hn hR hS
  obtain ⟨q, hq⟩ := List.getElem?_of_mem (zAl.mem (φ := G.2.2.1) (ls := u0 :: some (.int x) :: lt) (i := 1) rfl)
  refine lv_iinc C.1 C.2.1 (i := 1) hd (lv := zAl G.2.2.1 (u0 :: some (.int x) :: lt)) (zHas.has hl) hq hv (by simp) rfl (fun ls h => ?_)
  exact k H locs ls (zHas.set (i := 1) (v := .int v) h hl.1 (by simp) (fun u hu2 => by cases hu2; exact hu)) hn hR hS
theorem sw_iload_2 {G : zG} {X : zX} {M : zM} {d mc ms a b pc : Nat} {lt : List (Option Value)} {st : List Value} {I : zI} {J : Int64} {E : UInt64} (C : zOK G X M d mc ms) {u0 u1 : Option Value} {x : Int32} (hd : decode M.2.1 pc = .ok (.iload_n 2, 1)) (k : SW G X a b (pc + 1) (u0 :: u1 :: some (.int x) :: lt) (.int x :: st) I J E) : SW G X a b pc (u0 :: u1 :: some (.int x) :: lt) st I J E := by
  obtain ⟨p, l, e, R, s, m, args, below, meth, c, Q⟩ := X
  intro H locs arr hl hn hR hS
  exact lv_iload_n C.1 C.2.1 (i := 2) hd rfl (hl.2.2 2 _ rfl) (k H locs arr hl hn hR hS)
theorem sw_aload_2 {G : zG} {X : zX} {M : zM} {d mc ms a b pc : Nat} {lt : List (Option Value)} {st : List Value} {I : zI} {J : Int64} {E : UInt64} (C : zOK G X M d mc ms) {u0 u1 : Option Value} {x : Nat} (hd : decode M.2.1 pc = .ok (.aload_n 2, 1)) (k : SW G X a b (pc + 1) (u0 :: u1 :: some (.ref x) :: lt) (.ref x :: st) I J E) : SW G X a b pc (u0 :: u1 :: some (.ref x) :: lt) st I J E := by
  obtain ⟨p, l, e, R, s, m, args, below, meth, c, Q⟩ := X
  intro H locs arr hl hn hR hS
  exact lv_aload_n C.1 C.2.1 (i := 2) hd rfl (hl.2.2 2 _ rfl) (k H locs arr hl hn hR hS)
theorem sw_fload_2 {G : zG} {X : zX} {M : zM} {d mc ms a b pc : Nat} {lt : List (Option Value)} {st : List Value} {I : zI} {J : Int64} {E : UInt64} (C : zOK G X M d mc ms) {u0 u1 : Option Value} {x : UInt32} (hd : decode M.2.1 pc = .ok (.fload 2, 2)) (k : SW G X a b (pc + 2) (u0 :: u1 :: some (.float x) :: lt) (.float x :: st) I J E) : SW G X a b pc (u0 :: u1 :: some (.float x) :: lt) st I J E := by
  obtain ⟨p, l, e, R, s, m, args, below, meth, c, Q⟩ := X
  intro H locs arr hl hn hR hS
  exact lv_fload C.1 C.2.1 (i := 2) hd (hl.2.2 2 _ rfl) (k H locs arr hl hn hR hS)
theorem sw_dload_2 {G : zG} {X : zX} {M : zM} {d mc ms a b pc : Nat} {lt : List (Option Value)} {st : List Value} {I : zI} {J : Int64} {E : UInt64} (C : zOK G X M d mc ms) {u0 u1 : Option Value} {x : UInt64} (hd : decode M.2.1 pc = .ok (.dload 2, 2)) (k : SW G X a b (pc + 2) (u0 :: u1 :: some (.double x) :: lt) (.double x :: st) I J E) : SW G X a b pc (u0 :: u1 :: some (.double x) :: lt) st I J E := by
  obtain ⟨p, l, e, R, s, m, args, below, meth, c, Q⟩ := X
  intro H locs arr hl hn hR hS
  exact lv_dload C.1 C.2.1 (i := 2) hd (hl.2.2 2 _ rfl) (k H locs arr hl hn hR hS)
theorem sw_istore_2 {G : zG} {X : zX} {M : zM} {d mc ms a b pc : Nat} {lt : List (Option Value)} {st : List Value} {I : zI} {J : Int64} {E : UInt64} (C : zOK G X M d mc ms) {u0 u1 : Option Value} {w : Option Value} {x : Int32} (hu : zC1 u1 = true) (hd : decode M.2.1 pc = .ok (.istore_n 2, 1)) (k : SW G X a b (pc + 1) (u0 :: u1 :: some (.int x) :: lt) st I J E) : SW G X a b pc (u0 :: u1 :: w :: lt) (.int x :: st) I J E := by
  obtain ⟨p, l, e, R, s, m, args, below, meth, c, Q⟩ := X
  intro H locs arr hl hn hR hS
  refine lv_istore_n C.1 C.2.1 (i := 2) hd rfl (lv := zAl G.2.2.1 (u0 :: u1 :: w :: lt)) (zHas.has hl) (by simp) rfl (fun ls h => ?_)
  exact k H locs ls (zHas.set (i := 2) (v := .int x) h hl.1 (by simp) (fun u hu2 => by cases hu2; exact hu)) hn hR hS
theorem sw_astore_2 {G : zG} {X : zX} {M : zM} {d mc ms a b pc : Nat} {lt : List (Option Value)} {st : List Value} {I : zI} {J : Int64} {E : UInt64} (C : zOK G X M d mc ms) {u0 u1 : Option Value} {w : Option Value} {x : Nat} (hu : zC1 u1 = true) (hd : decode M.2.1 pc = .ok (.astore_n 2, 1)) (k : SW G X a b (pc + 1) (u0 :: u1 :: some (.ref x) :: lt) st I J E) : SW G X a b pc (u0 :: u1 :: w :: lt) (.ref x :: st) I J E := by
  obtain ⟨p, l, e, R, s, m, args, below, meth, c, Q⟩ := X
  intro H locs arr hl hn hR hS
  refine lv_astore_n C.1 C.2.1 (i := 2) hd rfl (lv := zAl G.2.2.1 (u0 :: u1 :: w :: lt)) (zHas.has hl) (by simp) rfl (fun ls h => ?_)
  exact k H locs ls (zHas.set (i := 2) (v := .ref x) h hl.1 (by simp) (fun u hu2 => by cases hu2; exact hu)) hn hR hS
theorem sw_fstore_2 {G : zG} {X : zX} {M : zM} {d mc ms a b pc : Nat} {lt : List (Option Value)} {st : List Value} {I : zI} {J : Int64} {E : UInt64} (C : zOK G X M d mc ms) {u0 u1 : Option Value} {w : Option Value} {x : UInt32} (hu : zC1 u1 = true) (hd : decode M.2.1 pc = .ok (.fstore 2, 2)) (k : SW G X a b (pc + 2) (u0 :: u1 :: some (.float x) :: lt) st I J E) : SW G X a b pc (u0 :: u1 :: w :: lt) (.float x :: st) I J E := by
  obtain ⟨p, l, e, R, s, m, args, below, meth, c, Q⟩ := X
  intro H locs arr hl hn hR hS
  refine lv_fstore C.1 C.2.1 (i := 2) hd (lv := zAl G.2.2.1 (u0 :: u1 :: w :: lt)) (zHas.has hl) (by simp) rfl (fun ls h => ?_)
  exact k H locs ls (zHas.set (i := 2) (v := .float x) h hl.1 (by simp) (fun u hu2 => by cases hu2; exact hu)) hn hR hS
theorem sw_iinc_2 {G : zG} {X : zX} {M : zM} {d mc ms a b pc : Nat} {lt : List (Option Value)} {st : List Value} {I : zI} {J : Int64} {E : UInt64} (C : zOK G X M d mc ms) {u0 u1 : Option Value} {x v : Int32} {n : Int} (hu : zC1 u1 = true) (hv : x + Int32.ofInt n = v) (hd : decode M.2.1 pc = .ok (.iinc 2 n, 3)) (k : SW G X a b (pc + 3) (u0 :: u1 :: some (.int v) :: lt) st I J E) : SW G X a b pc (u0 :: u1 :: some (.int x) :: lt) st I J E := by
  obtain ⟨p, l, e, R, s, m, args, below, meth, c, Q⟩ := X
  intro H locs arr hl hn hR hS
  obtain ⟨q, hq⟩ := List.getElem?_of_mem (zAl.mem (φ := G.2.2.1) (ls := u0 :: u1 :: some (.int x) :: lt) (i := 2) rfl)
  refine lv_iinc C.1 C.2.1 (i := 2) hd (lv := zAl G.2.2.1 (u0 :: u1 :: some (.int x) :: lt)) (zHas.has hl) hq hv (by simp) rfl (fun ls h => ?_)
  exact k H locs ls (zHas.set (i := 2) (v := .int v) h hl.1 (by simp) (fun u hu2 => by cases hu2; exact hu)) hn hR hS
theorem sw_iload_3 {G : zG} {X : zX} {M : zM} {d mc ms a b pc : Nat} {lt : List (Option Value)} {st : List Value} {I : zI} {J : Int64} {E : UInt64} (C : zOK G X M d mc ms) {u0 u1 u2 : Option Value} {x : Int32} (hd : decode M.2.1 pc = .ok (.iload_n 3, 1)) (k : SW G X a b (pc + 1) (u0 :: u1 :: u2 :: some (.int x) :: lt) (.int x :: st) I J E) : SW G X a b pc (u0 :: u1 :: u2 :: some (.int x) :: lt) st I J E := by
  obtain ⟨p, l, e, R, s, m, args, below, meth, c, Q⟩ := X
  intro H locs arr hl hn hR hS
  exact lv_iload_n C.1 C.2.1 (i := 3) hd rfl (hl.2.2 3 _ rfl) (k H locs arr hl hn hR hS)
theorem sw_aload_3 {G : zG} {X : zX} {M : zM} {d mc ms a b pc : Nat} {lt : List (Option Value)} {st : List Value} {I : zI} {J : Int64} {E : UInt64} (C : zOK G X M d mc ms) {u0 u1 u2 : Option Value} {x : Nat} (hd : decode M.2.1 pc = .ok (.aload_n 3, 1)) (k : SW G X a b (pc + 1) (u0 :: u1 :: u2 :: some (.ref x) :: lt) (.ref x :: st) I J E) : SW G X a b pc (u0 :: u1 :: u2 :: some (.ref x) :: lt) st I J E := by
  obtain ⟨p, l, e, R, s, m, args, below, meth, c, Q⟩ := X
  intro H locs arr hl hn hR hS
  exact lv_aload_n C.1 C.2.1 (i := 3) hd rfl (hl.2.2 3 _ rfl) (k H locs arr hl hn hR hS)
theorem sw_fload_3 {G : zG} {X : zX} {M : zM} {d mc ms a b pc : Nat} {lt : List (Option Value)} {st : List Value} {I : zI} {J : Int64} {E : UInt64} (C : zOK G X M d mc ms) {u0 u1 u2 : Option Value} {x : UInt32} (hd : decode M.2.1 pc = .ok (.fload 3, 2)) (k : SW G X a b (pc + 2) (u0 :: u1 :: u2 :: some (.float x) :: lt) (.float x :: st) I J E) : SW G X a b pc (u0 :: u1 :: u2 :: some (.float x) :: lt) st I J E := by
  obtain ⟨p, l, e, R, s, m, args, below, meth, c, Q⟩ := X
  intro H locs arr hl hn hR hS
  exact lv_fload C.1 C.2.1 (i := 3) hd (hl.2.2 3 _ rfl) (k H locs arr hl hn hR hS)
theorem sw_dload_3 {G : zG} {X : zX} {M : zM} {d mc ms a b pc : Nat} {lt : List (Option Value)} {st : List Value} {I : zI} {J : Int64} {E : UInt64} (C : zOK G X M d mc ms) {u0 u1 u2 : Option Value} {x : UInt64} (hd : decode M.2.1 pc = .ok (.dload 3, 2)) (k : SW G X a b (pc + 2) (u0 :: u1 :: u2 :: some (.double x) :: lt) (.double x :: st) I J E) : SW G X a b pc (u0 :: u1 :: u2 :: some (.double x) :: lt) st I J E := by
  obtain ⟨p, l, e, R, s, m, args, below, meth, c, Q⟩ := X
  intro H locs arr hl hn hR hS
  exact lv_dload C.1 C.2.1 (i := 3) hd (hl.2.2 3 _ rfl) (k H locs arr hl hn hR hS)
theorem sw_istore_3 {G : zG} {X : zX} {M : zM} {d mc ms a b pc : Nat} {lt : List (Option Value)} {st : List Value} {I : zI} {J : Int64} {E : UInt64} (C : zOK G X M d mc ms) {u0 u1 u2 : Option Value} {w : Option Value} {x : Int32} (hu : zC1 u2 = true) (hd : decode M.2.1 pc = .ok (.istore_n 3, 1)) (k : SW G X a b (pc + 1) (u0 :: u1 :: u2 :: some (.int x) :: lt) st I J E) : SW G X a b pc (u0 :: u1 :: u2 :: w :: lt) (.int x :: st) I J E := by
  obtain ⟨p, l, e, R, s, m, args, below, meth, c, Q⟩ := X
  intro H locs arr hl hn hR hS
  refine lv_istore_n C.1 C.2.1 (i := 3) hd rfl (lv := zAl G.2.2.1 (u0 :: u1 :: u2 :: w :: lt)) (zHas.has hl) (by simp) rfl (fun ls h => ?_)
  exact k H locs ls (zHas.set (i := 3) (v := .int x) h hl.1 (by simp) (fun u hu2 => by cases hu2; exact hu)) hn hR hS
theorem sw_astore_3 {G : zG} {X : zX} {M : zM} {d mc ms a b pc : Nat} {lt : List (Option Value)} {st : List Value} {I : zI} {J : Int64} {E : UInt64} (C : zOK G X M d mc ms) {u0 u1 u2 : Option Value} {w : Option Value} {x : Nat} (hu : zC1 u2 = true) (hd : decode M.2.1 pc = .ok (.astore_n 3, 1)) (k : SW G X a b (pc + 1) (u0 :: u1 :: u2 :: some (.ref x) :: lt) st I J E) : SW G X a b pc (u0 :: u1 :: u2 :: w :: lt) (.ref x :: st) I J E := by
  obtain ⟨p, l, e, R, s, m, args, below, meth, c, Q⟩ := X
  intro H locs arr hl hn hR hS
  refine lv_astore_n C.1 C.2.1 (i := 3) hd rfl (lv := zAl G.2.2.1 (u0 :: u1 :: u2 :: w :: lt)) (zHas.has hl) (by simp) rfl (fun ls h => ?_)
  exact k H locs ls (zHas.set (i := 3) (v := .ref x) h hl.1 (by simp) (fun u hu2 => by cases hu2; exact hu)) hn hR hS
theorem sw_fstore_3 {G : zG} {X : zX} {M : zM} {d mc ms a b pc : Nat} {lt : List (Option Value)} {st : List Value} {I : zI} {J : Int64} {E : UInt64} (C : zOK G X M d mc ms) {u0 u1 u2 : Option Value} {w : Option Value} {x : UInt32} (hu : zC1 u2 = true) (hd : decode M.2.1 pc = .ok (.fstore 3, 2)) (k : SW G X a b (pc + 2) (u0 :: u1 :: u2 :: some (.float x) :: lt) st I J E) : SW G X a b pc (u0 :: u1 :: u2 :: w :: lt) (.float x :: st) I J E := by
  obtain ⟨p, l, e, R, s, m, args, below, meth, c, Q⟩ := X
  intro H locs arr hl hn hR hS
  refine lv_fstore C.1 C.2.1 (i := 3) hd (lv := zAl G.2.2.1 (u0 :: u1 :: u2 :: w :: lt)) (zHas.has hl) (by simp) rfl (fun ls h => ?_)
  exact k H locs ls (zHas.set (i := 3) (v := .float x) h hl.1 (by simp) (fun u hu2 => by cases hu2; exact hu)) hn hR hS
theorem sw_iinc_3 {G : zG} {X : zX} {M : zM} {d mc ms a b pc : Nat} {lt : List (Option Value)} {st : List Value} {I : zI} {J : Int64} {E : UInt64} (C : zOK G X M d mc ms) {u0 u1 u2 : Option Value} {x v : Int32} {n : Int} (hu : zC1 u2 = true) (hv : x + Int32.ofInt n = v) (hd : decode M.2.1 pc = .ok (.iinc 3 n, 3)) (k : SW G X a b (pc + 3) (u0 :: u1 :: u2 :: some (.int v) :: lt) st I J E) : SW G X a b pc (u0 :: u1 :: u2 :: some (.int x) :: lt) st I J E := by
  obtain ⟨p, l, e, R, s, m, args, below, meth, c, Q⟩ := X
  intro H locs arr hl hn hR hS
  obtain ⟨q, hq⟩ := List.getElem?_of_mem (zAl.mem (φ := G.2.2.1) (ls := u0 :: u1 :: u2 :: some (.int x) :: lt) (i := 3) rfl)
  refine lv_iinc C.1 C.2.1 (i := 3) hd (lv := zAl G.2.2.1 (u0 :: u1 :: u2 :: some (.int x) :: lt)) (zHas.has hl) hq hv (by simp) rfl (fun ls h => ?_)
  exact k H locs ls (zHas.set (i := 3) (v := .int v) h hl.1 (by simp) (fun u hu2 => by cases hu2; exact hu)) hn hR hS
theorem sw_iload_4 {G : zG} {X : zX} {M : zM} {d mc ms a b pc : Nat} {lt : List (Option Value)} {st : List Value} {I : zI} {J : Int64} {E : UInt64} (C : zOK G X M d mc ms) {u0 u1 u2 u3 : Option Value} {x : Int32} (hd : decode M.2.1 pc = .ok (.iload 4, 2)) (k : SW G X a b (pc + 2) (u0 :: u1 :: u2 :: u3 :: some (.int x) :: lt) (.int x :: st) I J E) : SW G X a b pc (u0 :: u1 :: u2 :: u3 :: some (.int x) :: lt) st I J E := by
  obtain ⟨p, l, e, R, s, m, args, below, meth, c, Q⟩ := X
  intro H locs arr hl hn hR hS
  exact lv_iload C.1 C.2.1 (i := 4) hd (hl.2.2 4 _ rfl) (k H locs arr hl hn hR hS)
theorem sw_aload_4 {G : zG} {X : zX} {M : zM} {d mc ms a b pc : Nat} {lt : List (Option Value)} {st : List Value} {I : zI} {J : Int64} {E : UInt64} (C : zOK G X M d mc ms) {u0 u1 u2 u3 : Option Value} {x : Nat} (hd : decode M.2.1 pc = .ok (.aload 4, 2)) (k : SW G X a b (pc + 2) (u0 :: u1 :: u2 :: u3 :: some (.ref x) :: lt) (.ref x :: st) I J E) : SW G X a b pc (u0 :: u1 :: u2 :: u3 :: some (.ref x) :: lt) st I J E := by
  obtain ⟨p, l, e, R, s, m, args, below, meth, c, Q⟩ := X
  intro H locs arr hl hn hR hS
  exact lv_aload C.1 C.2.1 (i := 4) hd (hl.2.2 4 _ rfl) (k H locs arr hl hn hR hS)
theorem sw_fload_4 {G : zG} {X : zX} {M : zM} {d mc ms a b pc : Nat} {lt : List (Option Value)} {st : List Value} {I : zI} {J : Int64} {E : UInt64} (C : zOK G X M d mc ms) {u0 u1 u2 u3 : Option Value} {x : UInt32} (hd : decode M.2.1 pc = .ok (.fload 4, 2)) (k : SW G X a b (pc + 2) (u0 :: u1 :: u2 :: u3 :: some (.float x) :: lt) (.float x :: st) I J E) : SW G X a b pc (u0 :: u1 :: u2 :: u3 :: some (.float x) :: lt) st I J E := by
  obtain ⟨p, l, e, R, s, m, args, below, meth, c, Q⟩ := X
  intro H locs arr hl hn hR hS
  exact lv_fload C.1 C.2.1 (i := 4) hd (hl.2.2 4 _ rfl) (k H locs arr hl hn hR hS)
theorem sw_dload_4 {G : zG} {X : zX} {M : zM} {d mc ms a b pc : Nat} {lt : List (Option Value)} {st : List Value} {I : zI} {J : Int64} {E : UInt64} (C : zOK G X M d mc ms) {u0 u1 u2 u3 : Option Value} {x : UInt64} (hd : decode M.2.1 pc = .ok (.dload 4, 2)) (k : SW G X a b (pc + 2) (u0 :: u1 :: u2 :: u3 :: some (.double x) :: lt) (.double x :: st) I J E) : SW G X a b pc (u0 :: u1 :: u2 :: u3 :: some (.double x) :: lt) st I J E := by
  obtain ⟨p, l, e, R, s, m, args, below, meth, c, Q⟩ := X
  intro H locs arr hl hn hR hS
  exact lv_dload C.1 C.2.1 (i := 4) hd (hl.2.2 4 _ rfl) (k H locs arr hl hn hR hS)
theorem sw_istore_4 {G : zG} {X : zX} {M : zM} {d mc ms a b pc : Nat} {lt : List (Option Value)} {st : List Value} {I : zI} {J : Int64} {E : UInt64} (C : zOK G X M d mc ms) {u0 u1 u2 u3 : Option Value} {w : Option Value} {x : Int32} (hu : zC1 u3 = true) (hd : decode M.2.1 pc = .ok (.istore 4, 2)) (k : SW G X a b (pc + 2) (u0 :: u1 :: u2 :: u3 :: some (.int x) :: lt) st I J E) : SW G X a b pc (u0 :: u1 :: u2 :: u3 :: w :: lt) (.int x :: st) I J E := by
  obtain ⟨p, l, e, R, s, m, args, below, meth, c, Q⟩ := X
  intro H locs arr hl hn hR hS
  refine lv_istore C.1 C.2.1 (i := 4) hd (lv := zAl G.2.2.1 (u0 :: u1 :: u2 :: u3 :: w :: lt)) (zHas.has hl) (by simp) rfl (fun ls h => ?_)
  exact k H locs ls (zHas.set (i := 4) (v := .int x) h hl.1 (by simp) (fun u hu2 => by cases hu2; exact hu)) hn hR hS
theorem sw_astore_4 {G : zG} {X : zX} {M : zM} {d mc ms a b pc : Nat} {lt : List (Option Value)} {st : List Value} {I : zI} {J : Int64} {E : UInt64} (C : zOK G X M d mc ms) {u0 u1 u2 u3 : Option Value} {w : Option Value} {x : Nat} (hu : zC1 u3 = true) (hd : decode M.2.1 pc = .ok (.astore 4, 2)) (k : SW G X a b (pc + 2) (u0 :: u1 :: u2 :: u3 :: some (.ref x) :: lt) st I J E) : SW G X a b pc (u0 :: u1 :: u2 :: u3 :: w :: lt) (.ref x :: st) I J E := by
  obtain ⟨p, l, e, R, s, m, args, below, meth, c, Q⟩ := X
  intro H locs arr hl hn hR hS
  refine lv_astore C.1 C.2.1 (i := 4) hd (lv := zAl G.2.2.1 (u0 :: u1 :: u2 :: u3 :: w :: lt)) (zHas.has hl) (by simp) rfl (fun ls h => ?_)
  exact k H locs ls (zHas.set (i := 4) (v := .ref x) h hl.1 (by simp) (fun u hu2 => by cases hu2; exact hu)) hn hR hS
theorem sw_fstore_4 {G : zG} {X : zX} {M : zM} {d mc ms a b pc : Nat} {lt : List (Option Value)} {st : List Value} {I : zI} {J : Int64} {E : UInt64} (C : zOK G X M d mc ms) {u0 u1 u2 u3 : Option Value} {w : Option Value} {x : UInt32} (hu : zC1 u3 = true) (hd : decode M.2.1 pc = .ok (.fstore 4, 2)) (k : SW G X a b (pc + 2) (u0 :: u1 :: u2 :: u3 :: some (.float x) :: lt) st I J E) : SW G X a b pc (u0 :: u1 :: u2 :: u3 :: w :: lt) (.float x :: st) I J E := by
  obtain ⟨p, l, e, R, s, m, args, below, meth, c, Q⟩ := X
  intro H locs arr hl hn hR hS
  refine lv_fstore C.1 C.2.1 (i := 4) hd (lv := zAl G.2.2.1 (u0 :: u1 :: u2 :: u3 :: w :: lt)) (zHas.has hl) (by simp) rfl (fun ls h => ?_)
  exact k H locs ls (zHas.set (i := 4) (v := .float x) h hl.1 (by simp) (fun u hu2 => by cases hu2; exact hu)) hn hR hS
theorem sw_iinc_4 {G : zG} {X : zX} {M : zM} {d mc ms a b pc : Nat} {lt : List (Option Value)} {st : List Value} {I : zI} {J : Int64} {E : UInt64} (C : zOK G X M d mc ms) {u0 u1 u2 u3 : Option Value} {x v : Int32} {n : Int} (hu : zC1 u3 = true) (hv : x + Int32.ofInt n = v) (hd : decode M.2.1 pc = .ok (.iinc 4 n, 3)) (k : SW G X a b (pc + 3) (u0 :: u1 :: u2 :: u3 :: some (.int v) :: lt) st I J E) : SW G X a b pc (u0 :: u1 :: u2 :: u3 :: some (.int x) :: lt) st I J E := by
  obtain ⟨p, l, e, R, s, m, args, below, meth, c, Q⟩ := X
  intro H locs arr hl hn hR hS
  obtain ⟨q, hq⟩ := List.getElem?_of_mem (zAl.mem (φ := G.2.2.1) (ls := u0 :: u1 :: u2 :: u3 :: some (.int x) :: lt) (i := 4) rfl)
  refine lv_iinc C.1 C.2.1 (i := 4) hd (lv := zAl G.2.2.1 (u0 :: u1 :: u2 :: u3 :: some (.int x) :: lt)) (zHas.has hl) hq hv (by simp) rfl (fun ls h => ?_)
  exact k H locs ls (zHas.set (i := 4) (v := .int v) h hl.1 (by simp) (fun u hu2 => by cases hu2; exact hu)) hn hR hS
theorem sw_iload_5 {G : zG} {X : zX} {M : zM} {d mc ms a b pc : Nat} {lt : List (Option Value)} {st : List Value} {I : zI} {J : Int64} {E : UInt64} (C : zOK G X M d mc ms) {u0 u1 u2 u3 u4 : Option Value} {x : Int32} (hd : decode M.2.1 pc = .ok (.iload 5, 2)) (k : SW G X a b (pc + 2) (u0 :: u1 :: u2 :: u3 :: u4 :: some (.int x) :: lt) (.int x :: st) I J E) : SW G X a b pc (u0 :: u1 :: u2 :: u3 :: u4 :: some (.int x) :: lt) st I J E := by
  obtain ⟨p, l, e, R, s, m, args, below, meth, c, Q⟩ := X
  intro H locs arr hl hn hR hS
  exact lv_iload C.1 C.2.1 (i := 5) hd (hl.2.2 5 _ rfl) (k H locs arr hl hn hR hS)
theorem sw_aload_5 {G : zG} {X : zX} {M : zM} {d mc ms a b pc : Nat} {lt : List (Option Value)} {st : List Value} {I : zI} {J : Int64} {E : UInt64} (C : zOK G X M d mc ms) {u0 u1 u2 u3 u4 : Option Value} {x : Nat} (hd : decode M.2.1 pc = .ok (.aload 5, 2)) (k : SW G X a b (pc + 2) (u0 :: u1 :: u2 :: u3 :: u4 :: some (.ref x) :: lt) (.ref x :: st) I J E) : SW G X a b pc (u0 :: u1 :: u2 :: u3 :: u4 :: some (.ref x) :: lt) st I J E := by
  obtain ⟨p, l, e, R, s, m, args, below, meth, c, Q⟩ := X
  intro H locs arr hl hn hR hS
  exact lv_aload C.1 C.2.1 (i := 5) hd (hl.2.2 5 _ rfl) (k H locs arr hl hn hR hS)
theorem sw_fload_5 {G : zG} {X : zX} {M : zM} {d mc ms a b pc : Nat} {lt : List (Option Value)} {st : List Value} {I : zI} {J : Int64} {E : UInt64} (C : zOK G X M d mc ms) {u0 u1 u2 u3 u4 : Option Value} {x : UInt32} (hd : decode M.2.1 pc = .ok (.fload 5, 2)) (k : SW G X a b (pc + 2) (u0 :: u1 :: u2 :: u3 :: u4 :: some (.float x) :: lt) (.float x :: st) I J E) : SW G X a b pc (u0 :: u1 :: u2 :: u3 :: u4 :: some (.float x) :: lt) st I J E := by
  obtain ⟨p, l, e, R, s, m, args, below, meth, c, Q⟩ := X
  intro H locs arr hl hn hR hS
  exact lv_fload C.1 C.2.1 (i := 5) hd (hl.2.2 5 _ rfl) (k H locs arr hl hn hR hS)
theorem sw_dload_5 {G : zG} {X : zX} {M : zM} {d mc ms a b pc : Nat} {lt : List (Option Value)} {st : List Value} {I : zI} {J : Int64} {E : UInt64} (C : zOK G X M d mc ms) {u0 u1 u2 u3 u4 : Option Value} {x : UInt64} (hd : decode M.2.1 pc = .ok (.dload 5, 2)) (k : SW G X a b (pc + 2) (u0 :: u1 :: u2 :: u3 :: u4 :: some (.double x) :: lt) (.double x :: st) I J E) : SW G X a b pc (u0 :: u1 :: u2 :: u3 :: u4 :: some (.double x) :: lt) st I J E := by
  obtain ⟨p, l, e, R, s, m, args, below, meth, c, Q⟩ := X
  intro H locs arr hl hn hR hS
  exact lv_dload C.1 C.2.1 (i := 5) hd (hl.2.2 5 _ rfl) (k H locs arr hl hn hR hS)
theorem sw_istore_5 {G : zG} {X : zX} {M : zM} {d mc ms a b pc : Nat} {lt : List (Option Value)} {st : List Value} {I : zI} {J : Int64} {E : UInt64} (C : zOK G X M d mc ms) {u0 u1 u2 u3 u4 : Option Value} {w : Option Value} {x : Int32} (hu : zC1 u4 = true) (hd : decode M.2.1 pc = .ok (.istore 5, 2)) (k : SW G X a b (pc + 2) (u0 :: u1 :: u2 :: u3 :: u4 :: some (.int x) :: lt) st I J E) : SW G X a b pc (u0 :: u1 :: u2 :: u3 :: u4 :: w :: lt) (.int x :: st) I J E := by
  obtain ⟨p, l, e, R, s, m, args, below, meth, c, Q⟩ := X
  intro H locs arr hl hn hR hS
  refine lv_istore C.1 C.2.1 (i := 5) hd (lv := zAl G.2.2.1 (u0 :: u1 :: u2 :: u3 :: u4 :: w :: lt)) (zHas.has hl) (by simp) rfl (fun ls h => ?_)
  exact k H locs ls (zHas.set (i := 5) (v := .int x) h hl.1 (by simp) (fun u hu2 => by cases hu2; exact hu)) hn hR hS
theorem sw_astore_5 {G : zG} {X : zX} {M : zM} {d mc ms a b pc : Nat} {lt : List (Option Value)} {st : List Value} {I : zI} {J : Int64} {E : UInt64} (C : zOK G X M d mc ms) {u0 u1 u2 u3 u4 : Option Value} {w : Option Value} {x : Nat} (hu : zC1 u4 = true) (hd : decode M.2.1 pc = .ok (.astore 5, 2)) (k : SW G X a b (pc + 2) (u0 :: u1 :: u2 :: u3 :: u4 :: some (.ref x) :: lt) st I J E) : SW G X a b pc (u0 :: u1 :: u2 :: u3 :: u4 :: w :: lt) (.ref x :: st) I J E := by
  obtain ⟨p, l, e, R, s, m, args, below, meth, c, Q⟩ := X
  intro H locs arr hl hn hR hS
  refine lv_astore C.1 C.2.1 (i := 5) hd (lv := zAl G.2.2.1 (u0 :: u1 :: u2 :: u3 :: u4 :: w :: lt)) (zHas.has hl) (by simp) rfl (fun ls h => ?_)
  exact k H locs ls (zHas.set (i := 5) (v := .ref x) h hl.1 (by simp) (fun u hu2 => by cases hu2; exact hu)) hn hR hS
theorem sw_fstore_5 {G : zG} {X : zX} {M : zM} {d mc ms a b pc : Nat} {lt : List (Option Value)} {st : List Value} {I : zI} {J : Int64} {E : UInt64} (C : zOK G X M d mc ms) {u0 u1 u2 u3 u4 : Option Value} {w : Option Value} {x : UInt32} (hu : zC1 u4 = true) (hd : decode M.2.1 pc = .ok (.fstore 5, 2)) (k : SW G X a b (pc + 2) (u0 :: u1 :: u2 :: u3 :: u4 :: some (.float x) :: lt) st I J E) : SW G X a b pc (u0 :: u1 :: u2 :: u3 :: u4 :: w :: lt) (.float x :: st) I J E := by
  obtain ⟨p, l, e, R, s, m, args, below, meth, c, Q⟩ := X
  intro H locs arr hl hn hR hS
  refine lv_fstore C.1 C.2.1 (i := 5) hd (lv := zAl G.2.2.1 (u0 :: u1 :: u2 :: u3 :: u4 :: w :: lt)) (zHas.has hl) (by simp) rfl (fun ls h => ?_)
  exact k H locs ls (zHas.set (i := 5) (v := .float x) h hl.1 (by simp) (fun u hu2 => by cases hu2; exact hu)) hn hR hS
theorem sw_iinc_5 {G : zG} {X : zX} {M : zM} {d mc ms a b pc : Nat} {lt : List (Option Value)} {st : List Value} {I : zI} {J : Int64} {E : UInt64} (C : zOK G X M d mc ms) {u0 u1 u2 u3 u4 : Option Value} {x v : Int32} {n : Int} (hu : zC1 u4 = true) (hv : x + Int32.ofInt n = v) (hd : decode M.2.1 pc = .ok (.iinc 5 n, 3)) (k : SW G X a b (pc + 3) (u0 :: u1 :: u2 :: u3 :: u4 :: some (.int v) :: lt) st I J E) : SW G X a b pc (u0 :: u1 :: u2 :: u3 :: u4 :: some (.int x) :: lt) st I J E := by
  obtain ⟨p, l, e, R, s, m, args, below, meth, c, Q⟩ := X
  intro H locs arr hl hn hR hS
  obtain ⟨q, hq⟩ := List.getElem?_of_mem (zAl.mem (φ := G.2.2.1) (ls := u0 :: u1 :: u2 :: u3 :: u4 :: some (.int x) :: lt) (i := 5) rfl)
  refine lv_iinc C.1 C.2.1 (i := 5) hd (lv := zAl G.2.2.1 (u0 :: u1 :: u2 :: u3 :: u4 :: some (.int x) :: lt)) (zHas.has hl) hq hv (by simp) rfl (fun ls h => ?_)
  exact k H locs ls (zHas.set (i := 5) (v := .int v) h hl.1 (by simp) (fun u hu2 => by cases hu2; exact hu)) hn hR hS
theorem sw_iload_6 {G : zG} {X : zX} {M : zM} {d mc ms a b pc : Nat} {lt : List (Option Value)} {st : List Value} {I : zI} {J : Int64} {E : UInt64} (C : zOK G X M d mc ms) {u0 u1 u2 u3 u4 u5 : Option Value} {x : Int32} (hd : decode M.2.1 pc = .ok (.iload 6, 2)) (k : SW G X a b (pc + 2) (u0 :: u1 :: u2 :: u3 :: u4 :: u5 :: some (.int x) :: lt) (.int x :: st) I J E) : SW G X a b pc (u0 :: u1 :: u2 :: u3 :: u4 :: u5 :: some (.int x) :: lt) st I J E := by
  obtain ⟨p, l, e, R, s, m, args, below, meth, c, Q⟩ := X
  intro H locs arr hl hn hR hS
  exact lv_iload C.1 C.2.1 (i := 6) hd (hl.2.2 6 _ rfl) (k H locs arr hl hn hR hS)
theorem sw_aload_6 {G : zG} {X : zX} {M : zM} {d mc ms a b pc : Nat} {lt : List (Option Value)} {st : List Value} {I : zI} {J : Int64} {E : UInt64} (C : zOK G X M d mc ms) {u0 u1 u2 u3 u4 u5 : Option Value} {x : Nat} (hd : decode M.2.1 pc = .ok (.aload 6, 2)) (k : SW G X a b (pc + 2) (u0 :: u1 :: u2 :: u3 :: u4 :: u5 :: some (.ref x) :: lt) (.ref x :: st) I J E) : SW G X a b pc (u0 :: u1 :: u2 :: u3 :: u4 :: u5 :: some (.ref x) :: lt) st I J E := by
  obtain ⟨p, l, e, R, s, m, args, below, meth, c, Q⟩ := X
  intro H locs arr hl hn hR hS
  exact lv_aload C.1 C.2.1 (i := 6) hd (hl.2.2 6 _ rfl) (k H locs arr hl hn hR hS)
theorem sw_fload_6 {G : zG} {X : zX} {M : zM} {d mc ms a b pc : Nat} {lt : List (Option Value)} {st : List Value} {I : zI} {J : Int64} {E : UInt64} (C : zOK G X M d mc ms) {u0 u1 u2 u3 u4 u5 : Option Value} {x : UInt32} (hd : decode M.2.1 pc = .ok (.fload 6, 2)) (k : SW G X a b (pc + 2) (u0 :: u1 :: u2 :: u3 :: u4 :: u5 :: some (.float x) :: lt) (.float x :: st) I J E) : SW G X a b pc (u0 :: u1 :: u2 :: u3 :: u4 :: u5 :: some (.float x) :: lt) st I J E := by
  obtain ⟨p, l, e, R, s, m, args, below, meth, c, Q⟩ := X
  intro H locs arr hl hn hR hS
  exact lv_fload C.1 C.2.1 (i := 6) hd (hl.2.2 6 _ rfl) (k H locs arr hl hn hR hS)
theorem sw_dload_6 {G : zG} {X : zX} {M : zM} {d mc ms a b pc : Nat} {lt : List (Option Value)} {st : List Value} {I : zI} {J : Int64} {E : UInt64} (C : zOK G X M d mc ms) {u0 u1 u2 u3 u4 u5 : Option Value} {x : UInt64} (hd : decode M.2.1 pc = .ok (.dload 6, 2)) (k : SW G X a b (pc + 2) (u0 :: u1 :: u2 :: u3 :: u4 :: u5 :: some (.double x) :: lt) (.double x :: st) I J E) : SW G X a b pc (u0 :: u1 :: u2 :: u3 :: u4 :: u5 :: some (.double x) :: lt) st I J E := by
  obtain ⟨p, l, e, R, s, m, args, below, meth, c, Q⟩ := X
  intro H locs arr hl hn hR hS
  exact lv_dload C.1 C.2.1 (i := 6) hd (hl.2.2 6 _ rfl) (k H locs arr hl hn hR hS)
theorem sw_istore_6 {G : zG} {X : zX} {M : zM} {d mc ms a b pc : Nat} {lt : List (Option Value)} {st : List Value} {I : zI} {J : Int64} {E : UInt64} (C : zOK G X M d mc ms) {u0 u1 u2 u3 u4 u5 : Option Value} {w : Option Value} {x : Int32} (hu : zC1 u5 = true) (hd : decode M.2.1 pc = .ok (.istore 6, 2)) (k : SW G X a b (pc + 2) (u0 :: u1 :: u2 :: u3 :: u4 :: u5 :: some (.int x) :: lt) st I J E) : SW G X a b pc (u0 :: u1 :: u2 :: u3 :: u4 :: u5 :: w :: lt) (.int x :: st) I J E := by
  obtain ⟨p, l, e, R, s, m, args, below, meth, c, Q⟩ := X
  intro H locs arr hl hn hR hS
  refine lv_istore C.1 C.2.1 (i := 6) hd (lv := zAl G.2.2.1 (u0 :: u1 :: u2 :: u3 :: u4 :: u5 :: w :: lt)) (zHas.has hl) (by simp) rfl (fun ls h => ?_)
  exact k H locs ls (zHas.set (i := 6) (v := .int x) h hl.1 (by simp) (fun u hu2 => by cases hu2; exact hu)) hn hR hS
theorem sw_astore_6 {G : zG} {X : zX} {M : zM} {d mc ms a b pc : Nat} {lt : List (Option Value)} {st : List Value} {I : zI} {J : Int64} {E : UInt64} (C : zOK G X M d mc ms) {u0 u1 u2 u3 u4 u5 : Option Value} {w : Option Value} {x : Nat} (hu : zC1 u5 = true) (hd : decode M.2.1 pc = .ok (.astore 6, 2)) (k : SW G X a b (pc + 2) (u0 :: u1 :: u2 :: u3 :: u4 :: u5 :: some (.ref x) :: lt) st I J E) : SW G X a b pc (u0 :: u1 :: u2 :: u3 :: u4 :: u5 :: w :: lt) (.ref x :: st) I J E := by
  obtain ⟨p, l, e, R, s, m, args, below, meth, c, Q⟩ := X
  intro H locs arr hl hn hR hS
  refine lv_astore C.1 C.2.1 (i := 6) hd (lv := zAl G.2.2.1 (u0 :: u1 :: u2 :: u3 :: u4 :: u5 :: w :: lt)) (zHas.has hl) (by simp) rfl (fun ls h => ?_)
  exact k H locs ls (zHas.set (i := 6) (v := .ref x) h hl.1 (by simp) (fun u hu2 => by cases hu2; exact hu)) hn hR hS
theorem sw_fstore_6 {G : zG} {X : zX} {M : zM} {d mc ms a b pc : Nat} {lt : List (Option Value)} {st : List Value} {I : zI} {J : Int64} {E : UInt64} (C : zOK G X M d mc ms) {u0 u1 u2 u3 u4 u5 : Option Value} {w : Option Value} {x : UInt32} (hu : zC1 u5 = true) (hd : decode M.2.1 pc = .ok (.fstore 6, 2)) (k : SW G X a b (pc + 2) (u0 :: u1 :: u2 :: u3 :: u4 :: u5 :: some (.float x) :: lt) st I J E) : SW G X a b pc (u0 :: u1 :: u2 :: u3 :: u4 :: u5 :: w :: lt) (.float x :: st) I J E := by
  obtain ⟨p, l, e, R, s, m, args, below, meth, c, Q⟩ := X
  intro H locs arr hl hn hR hS
  refine lv_fstore C.1 C.2.1 (i := 6) hd (lv := zAl G.2.2.1 (u0 :: u1 :: u2 :: u3 :: u4 :: u5 :: w :: lt)) (zHas.has hl) (by simp) rfl (fun ls h => ?_)
  exact k H locs ls (zHas.set (i := 6) (v := .float x) h hl.1 (by simp) (fun u hu2 => by cases hu2; exact hu)) hn hR hS
theorem sw_iinc_6 {G : zG} {X : zX} {M : zM} {d mc ms a b pc : Nat} {lt : List (Option Value)} {st : List Value} {I : zI} {J : Int64} {E : UInt64} (C : zOK G X M d mc ms) {u0 u1 u2 u3 u4 u5 : Option Value} {x v : Int32} {n : Int} (hu : zC1 u5 = true) (hv : x + Int32.ofInt n = v) (hd : decode M.2.1 pc = .ok (.iinc 6 n, 3)) (k : SW G X a b (pc + 3) (u0 :: u1 :: u2 :: u3 :: u4 :: u5 :: some (.int v) :: lt) st I J E) : SW G X a b pc (u0 :: u1 :: u2 :: u3 :: u4 :: u5 :: some (.int x) :: lt) st I J E := by
  obtain ⟨p, l, e, R, s, m, args, below, meth, c, Q⟩ := X
  intro H locs arr hl hn hR hS
  obtain ⟨q, hq⟩ := List.getElem?_of_mem (zAl.mem (φ := G.2.2.1) (ls := u0 :: u1 :: u2 :: u3 :: u4 :: u5 :: some (.int x) :: lt) (i := 6) rfl)
  refine lv_iinc C.1 C.2.1 (i := 6) hd (lv := zAl G.2.2.1 (u0 :: u1 :: u2 :: u3 :: u4 :: u5 :: some (.int x) :: lt)) (zHas.has hl) hq hv (by simp) rfl (fun ls h => ?_)
  exact k H locs ls (zHas.set (i := 6) (v := .int v) h hl.1 (by simp) (fun u hu2 => by cases hu2; exact hu)) hn hR hS
theorem sw_iload_7 {G : zG} {X : zX} {M : zM} {d mc ms a b pc : Nat} {lt : List (Option Value)} {st : List Value} {I : zI} {J : Int64} {E : UInt64} (C : zOK G X M d mc ms) {u0 u1 u2 u3 u4 u5 u6 : Option Value} {x : Int32} (hd : decode M.2.1 pc = .ok (.iload 7, 2)) (k : SW G X a b (pc + 2) (u0 :: u1 :: u2 :: u3 :: u4 :: u5 :: u6 :: some (.int x) :: lt) (.int x :: st) I J E) : SW G X a b pc (u0 :: u1 :: u2 :: u3 :: u4 :: u5 :: u6 :: some (.int x) :: lt) st I J E := by
  obtain ⟨p, l, e, R, s, m, args, below, meth, c, Q⟩ := X
  intro H locs arr hl hn hR hS
  exact lv_iload C.1 C.2.1 (i := 7) hd (hl.2.2 7 _ rfl) (k H locs arr hl hn hR hS)
theorem sw_aload_7 {G : zG} {X : zX} {M : zM} {d mc ms a b pc : Nat} {lt : List (Option Value)} {st : List Value} {I : zI} {J : Int64} {E : UInt64} (C : zOK G X M d mc ms) {u0 u1 u2 u3 u4 u5 u6 : Option Value} {x : Nat} (hd : decode M.2.1 pc = .ok (.aload 7, 2)) (k : SW G X a b (pc + 2) (u0 :: u1 :: u2 :: u3 :: u4 :: u5 :: u6 :: some (.ref x) :: lt) (.ref x :: st) I J E) : SW G X a b pc (u0 :: u1 :: u2 :: u3 :: u4 :: u5 :: u6 :: some (.ref x) :: lt) st I J E := by
  obtain ⟨p, l, e, R, s, m, args, below, meth, c, Q⟩ := X
  intro H locs arr hl hn hR hS
  exact lv_aload C.1 C.2.1 (i := 7) hd (hl.2.2 7 _ rfl) (k H locs arr hl hn hR hS)
theorem sw_fload_7 {G : zG} {X : zX} {M : zM} {d mc ms a b pc : Nat} {lt : List (Option Value)} {st : List Value} {I : zI} {J : Int64} {E : UInt64} (C : zOK G X M d mc ms) {u0 u1 u2 u3 u4 u5 u6 : Option Value} {x : UInt32} (hd : decode M.2.1 pc = .ok (.fload 7, 2)) (k : SW G X a b (pc + 2) (u0 :: u1 :: u2 :: u3 :: u4 :: u5 :: u6 :: some (.float x) :: lt) (.float x :: st) I J E) : SW G X a b pc (u0 :: u1 :: u2 :: u3 :: u4 :: u5 :: u6 :: some (.float x) :: lt) st I J E := by
  obtain ⟨p, l, e, R, s, m, args, below, meth, c, Q⟩ := X
  intro H locs arr hl hn hR hS
  exact lv_fload C.1 C.2.1 (i := 7) hd (hl.2.2 7 _ rfl) (k H locs arr hl hn hR hS)
theorem sw_dload_7 {G : zG} {X : zX} {M : zM} {d mc ms a b pc : Nat} {lt : List (Option Value)} {st : List Value} {I : zI} {J : Int64} {E : UInt64} (C : zOK G X M d mc ms) {u0 u1 u2 u3 u4 u5 u6 : Option Value} {x : UInt64} (hd : decode M.2.1 pc = .ok (.dload 7, 2)) (k : SW G X a b (pc + 2) (u0 :: u1 :: u2 :: u3 :: u4 :: u5 :: u6 :: some (.double x) :: lt) (.double x :: st) I J E) : SW G X a b pc (u0 :: u1 :: u2 :: u3 :: u4 :: u5 :: u6 :: some (.double x) :: lt) st I J E := by
  obtain ⟨p, l, e, R, s, m, args, below, meth, c, Q⟩ := X
  intro H locs arr hl hn hR hS
  exact lv_dload C.1 C.2.1 (i := 7) hd (hl.2.2 7 _ rfl) (k H locs arr hl hn hR hS)
theorem sw_istore_7 {G : zG} {X : zX} {M : zM} {d mc ms a b pc : Nat} {lt : List (Option Value)} {st : List Value} {I : zI} {J : Int64} {E : UInt64} (C : zOK G X M d mc ms) {u0 u1 u2 u3 u4 u5 u6 : Option Value} {w : Option Value} {x : Int32} (hu : zC1 u6 = true) (hd : decode M.2.1 pc = .ok (.istore 7, 2)) (k : SW G X a b (pc + 2) (u0 :: u1 :: u2 :: u3 :: u4 :: u5 :: u6 :: some (.int x) :: lt) st I J E) : SW G X a b pc (u0 :: u1 :: u2 :: u3 :: u4 :: u5 :: u6 :: w :: lt) (.int x :: st) I J E := by
  obtain ⟨p, l, e, R, s, m, args, below, meth, c, Q⟩ := X
  intro H locs arr hl hn hR hS
  refine lv_istore C.1 C.2.1 (i := 7) hd (lv := zAl G.2.2.1 (u0 :: u1 :: u2 :: u3 :: u4 :: u5 :: u6 :: w :: lt)) (zHas.has hl) (by simp) rfl (fun ls h => ?_)
  exact k H locs ls (zHas.set (i := 7) (v := .int x) h hl.1 (by simp) (fun u hu2 => by cases hu2; exact hu)) hn hR hS
theorem sw_astore_7 {G : zG} {X : zX} {M : zM} {d mc ms a b pc : Nat} {lt : List (Option Value)} {st : List Value} {I : zI} {J : Int64} {E : UInt64} (C : zOK G X M d mc ms) {u0 u1 u2 u3 u4 u5 u6 : Option Value} {w : Option Value} {x : Nat} (hu : zC1 u6 = true) (hd : decode M.2.1 pc = .ok (.astore 7, 2)) (k : SW G X a b (pc + 2) (u0 :: u1 :: u2 :: u3 :: u4 :: u5 :: u6 :: some (.ref x) :: lt) st I J E) : SW G X a b pc (u0 :: u1 :: u2 :: u3 :: u4 :: u5 :: u6 :: w :: lt) (.ref x :: st) I J E := by
  obtain ⟨p, l, e, R, s, m, args, below, meth, c, Q⟩ := X
  intro H locs arr hl hn hR hS
  refine lv_astore C.1 C.2.1 (i := 7) hd (lv := zAl G.2.2.1 (u0 :: u1 :: u2 :: u3 :: u4 :: u5 :: u6 :: w :: lt)) (zHas.has hl) (by simp) rfl (fun ls h => ?_)
  exact k H locs ls (zHas.set (i := 7) (v := .ref x) h hl.1 (by simp) (fun u hu2 => by cases hu2; exact hu)) hn hR hS
theorem sw_fstore_7 {G : zG} {X : zX} {M : zM} {d mc ms a b pc : Nat} {lt : List (Option Value)} {st : List Value} {I : zI} {J : Int64} {E : UInt64} (C : zOK G X M d mc ms) {u0 u1 u2 u3 u4 u5 u6 : Option Value} {w : Option Value} {x : UInt32} (hu : zC1 u6 = true) (hd : decode M.2.1 pc = .ok (.fstore 7, 2)) (k : SW G X a b (pc + 2) (u0 :: u1 :: u2 :: u3 :: u4 :: u5 :: u6 :: some (.float x) :: lt) st I J E) : SW G X a b pc (u0 :: u1 :: u2 :: u3 :: u4 :: u5 :: u6 :: w :: lt) (.float x :: st) I J E := by
  obtain ⟨p, l, e, R, s, m, args, below, meth, c, Q⟩ := X
  intro H locs arr hl hn hR hS
  refine lv_fstore C.1 C.2.1 (i := 7) hd (lv := zAl G.2.2.1 (u0 :: u1 :: u2 :: u3 :: u4 :: u5 :: u6 :: w :: lt)) (zHas.has hl) (by simp) rfl (fun ls h => ?_)
  exact k H locs ls (zHas.set (i := 7) (v := .float x) h hl.1 (by simp) (fun u hu2 => by cases hu2; exact hu)) hn hR hS
theorem sw_iinc_7 {G : zG} {X : zX} {M : zM} {d mc ms a b pc : Nat} {lt : List (Option Value)} {st : List Value} {I : zI} {J : Int64} {E : UInt64} (C : zOK G X M d mc ms) {u0 u1 u2 u3 u4 u5 u6 : Option Value} {x v : Int32} {n : Int} (hu : zC1 u6 = true) (hv : x + Int32.ofInt n = v) (hd : decode M.2.1 pc = .ok (.iinc 7 n, 3)) (k : SW G X a b (pc + 3) (u0 :: u1 :: u2 :: u3 :: u4 :: u5 :: u6 :: some (.int v) :: lt) st I J E) : SW G X a b pc (u0 :: u1 :: u2 :: u3 :: u4 :: u5 :: u6 :: some (.int x) :: lt) st I J E := by
  obtain ⟨p, l, e, R, s, m, args, below, meth, c, Q⟩ := X
  intro H locs arr hl hn hR hS
  obtain ⟨q, hq⟩ := List.getElem?_of_mem (zAl.mem (φ := G.2.2.1) (ls := u0 :: u1 :: u2 :: u3 :: u4 :: u5 :: u6 :: some (.int x) :: lt) (i := 7) rfl)
  refine lv_iinc C.1 C.2.1 (i := 7) hd (lv := zAl G.2.2.1 (u0 :: u1 :: u2 :: u3 :: u4 :: u5 :: u6 :: some (.int x) :: lt)) (zHas.has hl) hq hv (by simp) rfl (fun ls h => ?_)
  exact k H locs ls (zHas.set (i := 7) (v := .int v) h hl.1 (by simp) (fun u hu2 => by cases hu2; exact hu)) hn hR hS
theorem sw_iload_8 {G : zG} {X : zX} {M : zM} {d mc ms a b pc : Nat} {lt : List (Option Value)} {st : List Value} {I : zI} {J : Int64} {E : UInt64} (C : zOK G X M d mc ms) {u0 u1 u2 u3 u4 u5 u6 u7 : Option Value} {x : Int32} (hd : decode M.2.1 pc = .ok (.iload 8, 2)) (k : SW G X a b (pc + 2) (u0 :: u1 :: u2 :: u3 :: u4 :: u5 :: u6 :: u7 :: some (.int x) :: lt) (.int x :: st) I J E) : SW G X a b pc (u0 :: u1 :: u2 :: u3 :: u4 :: u5 :: u6 :: u7 :: some (.int x) :: lt) st I J E := by
  obtain ⟨p, l, e, R, s, m, args, below, meth, c, Q⟩ := X
  intro H locs arr hl hn hR hS
  exact lv_iload C.1 C.2.1 (i := 8) hd (hl.2.2 8 _ rfl) (k H locs arr hl hn hR hS)
theorem sw_aload_8 {G : zG} {X : zX} {M : zM} {d mc ms a b pc : Nat} {lt : List (Option Value)} {st : List Value} {I : zI} {J : Int64} {E : UInt64} (C : zOK G X M d mc ms) {u0 u1 u2 u3 u4 u5 u6 u7 : Option Value} {x : Nat} (hd : decode M.2.1 pc = .ok (.aload 8, 2)) (k : SW G X a b (pc + 2) (u0 :: u1 :: u2 :: u3 :: u4 :: u5 :: u6 :: u7 :: some (.ref x) :: lt) (.ref x :: st) I J E) : SW G X a b pc (u0 :: u1 :: u2 :: u3 :: u4 :: u5 :: u6 :: u7 :: some (.ref x) :: lt) st I J E := by
  obtain ⟨p, l, e, R, s, m, args, below, meth, c, Q⟩ := X
  intro H locs arr hl hn hR hS
  exact lv_aload C.1 C.2.1 (i := 8) hd (hl.2.2 8 _ rfl) (k H locs arr hl hn hR hS)
theorem sw_fload_8 {G : zG} {X : zX} {M : zM} {d mc ms a b pc : Nat} {lt : List (Option Value)} {st : List Value} {I : zI} {J : Int64} {E : UInt64} (C : zOK G X M d mc ms) {u0 u1 u2 u3 u4 u5 u6 u7 : Option Value} {x : UInt32} (hd : decode M.2.1 pc = .ok (.fload 8, 2)) (k : SW G X a b (pc + 2) (u0 :: u1 :: u2 :: u3 :: u4 :: u5 :: u6 :: u7 :: some (.float x) :: lt) (.float x :: st) I J E) : SW G X a b pc (u0 :: u1 :: u2 :: u3 :: u4 :: u5 :: u6 :: u7 :: some (.float x) :: lt) st I J E := by
  obtain ⟨p, l, e, R, s, m, args, below, meth, c, Q⟩ := X
  intro H locs arr hl hn hR hS
  exact lv_fload C.1 C.2.1 (i := 8) hd (hl.2.2 8 _ rfl) (k H locs arr hl hn hR hS)
theorem sw_dload_8 {G : zG} {X : zX} {M : zM} {d mc ms a b pc : Nat} {lt : List (Option Value)} {st : List Value} {I : zI} {J : Int64} {E : UInt64} (C : zOK G X M d mc ms) {u0 u1 u2 u3 u4 u5 u6 u7 : Option Value} {x : UInt64} (hd : decode M.2.1 pc = .ok (.dload 8, 2)) (k : SW G X a b (pc + 2) (u0 :: u1 :: u2 :: u3 :: u4 :: u5 :: u6 :: u7 :: some (.double x) :: lt) (.double x :: st) I J E) : SW G X a b pc (u0 :: u1 :: u2 :: u3 :: u4 :: u5 :: u6 :: u7 :: some (.double x) :: lt) st I J E := by
  obtain ⟨p, l, e, R, s, m, args, below, meth, c, Q⟩ := X
  intro H locs arr hl hn hR hS
  exact lv_dload C.1 C.2.1 (i := 8) hd (hl.2.2 8 _ rfl) (k H locs arr hl hn hR hS)
theorem sw_istore_8 {G : zG} {X : zX} {M : zM} {d mc ms a b pc : Nat} {lt : List (Option Value)} {st : List Value} {I : zI} {J : Int64} {E : UInt64} (C : zOK G X M d mc ms) {u0 u1 u2 u3 u4 u5 u6 u7 : Option Value} {w : Option Value} {x : Int32} (hu : zC1 u7 = true) (hd : decode M.2.1 pc = .ok (.istore 8, 2)) (k : SW G X a b (pc + 2) (u0 :: u1 :: u2 :: u3 :: u4 :: u5 :: u6 :: u7 :: some (.int x) :: lt) st I J E) : SW G X a b pc (u0 :: u1 :: u2 :: u3 :: u4 :: u5 :: u6 :: u7 :: w :: lt) (.int x :: st) I J E := by
  obtain ⟨p, l, e, R, s, m, args, below, meth, c, Q⟩ := X
  intro H locs arr hl hn hR hS
  refine lv_istore C.1 C.2.1 (i := 8) hd (lv := zAl G.2.2.1 (u0 :: u1 :: u2 :: u3 :: u4 :: u5 :: u6 :: u7 :: w :: lt)) (zHas.has hl) (by simp) rfl (fun ls h => ?_)
  exact k H locs ls (zHas.set (i := 8) (v := .int x) h hl.1 (by simp) (fun u hu2 => by cases hu2; exact hu)) hn hR hS
theorem sw_astore_8 {G : zG} {X : zX} {M : zM} {d mc ms a b pc : Nat} {lt : List (Option Value)} {st : List Value} {I : zI} {J : Int64} {E : UInt64} (C : zOK G X M d mc ms) {u0 u1 u2 u3 u4 u5 u6 u7 : Option Value} {w : Option Value} {x : Nat} (hu : zC1 u7 = true) (hd : decode M.2.1 pc = .ok (.astore 8, 2)) (k : SW G X a b (pc + 2) (u0 :: u1 :: u2 :: u3 :: u4 :: u5 :: u6 :: u7 :: some (.ref x) :: lt) st I J E) : SW G X a b pc (u0 :: u1 :: u2 :: u3 :: u4 :: u5 :: u6 :: u7 :: w :: lt) (.ref x :: st) I J E := by
  obtain ⟨p, l, e, R, s, m, args, below, meth, c, Q⟩ := X
  intro H locs arr hl hn hR hS
  refine lv_astore C.1 C.2.1 (i := 8) hd (lv := zAl G.2.2.1 (u0 :: u1 :: u2 :: u3 :: u4 :: u5 :: u6 :: u7 :: w :: lt)) (zHas.has hl) (by simp) rfl (fun ls h => ?_)
  exact k H locs ls (zHas.set (i := 8) (v := .ref x) h hl.1 (by simp) (fun u hu2 => by cases hu2; exact hu)) hn hR hS
theorem sw_fstore_8 {G : zG} {X : zX} {M : zM} {d mc ms a b pc : Nat} {lt : List (Option Value)} {st : List Value} {I : zI} {J : Int64} {E : UInt64} (C : zOK G X M d mc ms) {u0 u1 u2 u3 u4 u5 u6 u7 : Option Value} {w : Option Value} {x : UInt32} (hu : zC1 u7 = true) (hd : decode M.2.1 pc = .ok (.fstore 8, 2)) (k : SW G X a b (pc + 2) (u0 :: u1 :: u2 :: u3 :: u4 :: u5 :: u6 :: u7 :: some (.float x) :: lt) st I J E) : SW G X a b pc (u0 :: u1 :: u2 :: u3 :: u4 :: u5 :: u6 :: u7 :: w :: lt) (.float x :: st) I J E := by
  obtain ⟨p, l, e, R, s, m, args, below, meth, c, Q⟩ := X
  intro H locs arr hl hn hR hS
  refine lv_fstore C.1 C.2.1 (i := 8) hd (lv := zAl G.2.2.1 (u0 :: u1 :: u2 :: u3 :: u4 :: u5 :: u6 :: u7 :: w :: lt)) (zHas.has hl) (by simp) rfl (fun ls h => ?_)
  exact k H locs ls (zHas.set (i := 8) (v := .float x) h hl.1 (by simp) (fun u hu2 => by cases hu2; exact hu)) hn hR hS
theorem sw_iinc_8 {G : zG} {X : zX} {M : zM} {d mc ms a b pc : Nat} {lt : List (Option Value)} {st : List Value} {I : zI} {J : Int64} {E : UInt64} (C : zOK G X M d mc ms) {u0 u1 u2 u3 u4 u5 u6 u7 : Option Value} {x v : Int32} {n : Int} (hu : zC1 u7 = true) (hv : x + Int32.ofInt n = v) (hd : decode M.2.1 pc = .ok (.iinc 8 n, 3)) (k : SW G X a b (pc + 3) (u0 :: u1 :: u2 :: u3 :: u4 :: u5 :: u6 :: u7 :: some (.int v) :: lt) st I J E) : SW G X a b pc (u0 :: u1 :: u2 :: u3 :: u4 :: u5 :: u6 :: u7 :: some (.int x) :: lt) st I J E := by
  obtain ⟨p, l, e, R, s, m, args, below, meth, c, Q⟩ := X
  intro H locs arr hl hn hR hS
  obtain ⟨q, hq⟩ := List.getElem?_of_mem (zAl.mem (φ := G.2.2.1) (ls := u0 :: u1 :: u2 :: u3 :: u4 :: u5 :: u6 :: u7 :: some (.int x) :: lt) (i := 8) rfl)
  refine lv_iinc C.1 C.2.1 (i := 8) hd (lv := zAl G.2.2.1 (u0 :: u1 :: u2 :: u3 :: u4 :: u5 :: u6 :: u7 :: some (.int x) :: lt)) (zHas.has hl) hq hv (by simp) rfl (fun ls h => ?_)
  exact k H locs ls (zHas.set (i := 8) (v := .int v) h hl.1 (by simp) (fun u hu2 => by cases hu2; exact hu)) hn hR hS
theorem sw_iload_9 {G : zG} {X : zX} {M : zM} {d mc ms a b pc : Nat} {lt : List (Option Value)} {st : List Value} {I : zI} {J : Int64} {E : UInt64} (C : zOK G X M d mc ms) {u0 u1 u2 u3 u4 u5 u6 u7 u8 : Option Value} {x : Int32} (hd : decode M.2.1 pc = .ok (.iload 9, 2)) (k : SW G X a b (pc + 2) (u0 :: u1 :: u2 :: u3 :: u4 :: u5 :: u6 :: u7 :: u8 :: some (.int x) :: lt) (.int x :: st) I J E) : SW G X a b pc (u0 :: u1 :: u2 :: u3 :: u4 :: u5 :: u6 :: u7 :: u8 :: some (.int x) :: lt) st I J E := by
  obtain ⟨p, l, e, R, s, m, args, below, meth, c, Q⟩ := X
  intro H locs arr hl hn hR hS
  exact lv_iload C.1 C.2.1 (i := 9) hd (hl.2.2 9 _ rfl) (k H locs arr hl hn hR hS)
theorem sw_aload_9 {G : zG} {X : zX} {M : zM} {d mc ms a b pc : Nat} {lt : List (Option Value)} {st : List Value} {I : zI} {J : Int64} {E : UInt64} (C : zOK G X M d mc ms) {u0 u1 u2 u3 u4 u5 u6 u7 u8 : Option Value} {x : Nat} (hd : decode M.2.1 pc = .ok (.aload 9, 2)) (k : SW G X a b (pc + 2) (u0 :: u1 :: u2 :: u3 :: u4 :: u5 :: u6 :: u7 :: u8 :: some (.ref x) :: lt) (.ref x :: st) I J E) : SW G X a b pc (u0 :: u1 :: u2 :: u3 :: u4 :: u5 :: u6 :: u7 :: u8 :: some (.ref x) :: lt) st I J E := by
  obtain ⟨p, l, e, R, s, m, args, below, meth, c, Q⟩ := X
  intro H locs arr hl hn hR hS
  exact lv_aload C.1 C.2.1 (i := 9) hd (hl.2.2 9 _ rfl) (k H locs arr hl hn hR hS)
theorem sw_fload_9 {G : zG} {X : zX} {M : zM} {d mc ms a b pc : Nat} {lt : List (Option Value)} {st : List Value} {I : zI} {J : Int64} {E : UInt64} (C : zOK G X M d mc ms) {u0 u1 u2 u3 u4 u5 u6 u7 u8 : Option Value} {x : UInt32} (hd : decode M.2.1 pc = .ok (.fload 9, 2)) (k : SW G X a b (pc + 2) (u0 :: u1 :: u2 :: u3 :: u4 :: u5 :: u6 :: u7 :: u8 :: some (.float x) :: lt) (.float x :: st) I J E) : SW G X a b pc (u0 :: u1 :: u2 :: u3 :: u4 :: u5 :: u6 :: u7 :: u8 :: some (.float x) :: lt) st I J E := by
  obtain ⟨p, l, e, R, s, m, args, below, meth, c, Q⟩ := X
  intro H locs arr hl hn hR hS
  exact lv_fload C.1 C.2.1 (i := 9) hd (hl.2.2 9 _ rfl) (k H locs arr hl hn hR hS)
theorem sw_dload_9 {G : zG} {X : zX} {M : zM} {d mc ms a b pc : Nat} {lt : List (Option Value)} {st : List Value} {I : zI} {J : Int64} {E : UInt64} (C : zOK G X M d mc ms) {u0 u1 u2 u3 u4 u5 u6 u7 u8 : Option Value} {x : UInt64} (hd : decode M.2.1 pc = .ok (.dload 9, 2)) (k : SW G X a b (pc + 2) (u0 :: u1 :: u2 :: u3 :: u4 :: u5 :: u6 :: u7 :: u8 :: some (.double x) :: lt) (.double x :: st) I J E) : SW G X a b pc (u0 :: u1 :: u2 :: u3 :: u4 :: u5 :: u6 :: u7 :: u8 :: some (.double x) :: lt) st I J E := by
  obtain ⟨p, l, e, R, s, m, args, below, meth, c, Q⟩ := X
  intro H locs arr hl hn hR hS
  exact lv_dload C.1 C.2.1 (i := 9) hd (hl.2.2 9 _ rfl) (k H locs arr hl hn hR hS)
theorem sw_istore_9 {G : zG} {X : zX} {M : zM} {d mc ms a b pc : Nat} {lt : List (Option Value)} {st : List Value} {I : zI} {J : Int64} {E : UInt64} (C : zOK G X M d mc ms) {u0 u1 u2 u3 u4 u5 u6 u7 u8 : Option Value} {w : Option Value} {x : Int32} (hu : zC1 u8 = true) (hd : decode M.2.1 pc = .ok (.istore 9, 2)) (k : SW G X a b (pc + 2) (u0 :: u1 :: u2 :: u3 :: u4 :: u5 :: u6 :: u7 :: u8 :: some (.int x) :: lt) st I J E) : SW G X a b pc (u0 :: u1 :: u2 :: u3 :: u4 :: u5 :: u6 :: u7 :: u8 :: w :: lt) (.int x :: st) I J E := by
  obtain ⟨p, l, e, R, s, m, args, below, meth, c, Q⟩ := X
  intro H locs arr hl hn hR hS
  refine lv_istore C.1 C.2.1 (i := 9) hd (lv := zAl G.2.2.1 (u0 :: u1 :: u2 :: u3 :: u4 :: u5 :: u6 :: u7 :: u8 :: w :: lt)) (zHas.has hl) (by simp) rfl (fun ls h => ?_)
  exact k H locs ls (zHas.set (i := 9) (v := .int x) h hl.1 (by simp) (fun u hu2 => by cases hu2; exact hu)) hn hR hS
theorem sw_astore_9 {G : zG} {X : zX} {M : zM} {d mc ms a b pc : Nat} {lt : List (Option Value)} {st : List Value} {I : zI} {J : Int64} {E : UInt64} (C : zOK G X M d mc ms) {u0 u1 u2 u3 u4 u5 u6 u7 u8 : Option Value} {w : Option Value} {x : Nat} (hu : zC1 u8 = true) (hd : decode M.2.1 pc = .ok (.astore 9, 2)) (k : SW G X a b (pc + 2) (u0 :: u1 :: u2 :: u3 :: u4 :: u5 :: u6 :: u7 :: u8 :: some (.ref x) :: lt) st I J E) : SW G X a b pc (u0 :: u1 :: u2 :: u3 :: u4 :: u5 :: u6 :: u7 :: u8 :: w :: lt) (.ref x :: st) I J E := by
  obtain ⟨p, l, e, R, s, m, args, below, meth, c, Q⟩ := X
  intro H locs arr hl hn hR hS
  refine lv_astore C.1 C.2.1 (i := 9) hd (lv := zAl G.2.2.1 (u0 :: u1 :: u2 :: u3 :: u4 :: u5 :: u6 :: u7 :: u8 :: w :: lt)) (zHas.has hl) (by simp) rfl (fun ls h => ?_)
  exact k H locs ls (zHas.set (i := 9) (v := .ref x) h hl.1 (by simp) (fun u hu2 => by cases hu2; exact hu)) hn hR hS
theorem sw_fstore_9 {G : zG} {X : zX} {M : zM} {d mc ms a b pc : Nat} {lt : List (Option Value)} {st : List Value} {I : zI} {J : Int64} {E : UInt64} (C : zOK G X M d mc ms) {u0 u1 u2 u3 u4 u5 u6 u7 u8 : Option Value} {w : Option Value} {x : UInt32} (hu : zC1 u8 = true) (hd : decode M.2.1 pc = .ok (.fstore 9, 2)) (k : SW G X a b (pc + 2) (u0 :: u1 :: u2 :: u3 :: u4 :: u5 :: u6 :: u7 :: u8 :: some (.float x) :: lt) st I J E) : SW G X a b pc (u0 :: u1 :: u2 :: u3 :: u4 :: u5 :: u6 :: u7 :: u8 :: w :: lt) (.float x :: st) I J E := by
  obtain ⟨p, l, e, R, s, m, args, below, meth, c, Q⟩ := X
  intro H locs arr hl hn hR hS
  refine lv_fstore C.1 C.2.1 (i := 9) hd (lv := zAl G.2.2.1 (u0 :: u1 :: u2 :: u3 :: u4 :: u5 :: u6 :: u7 :: u8 :: w :: lt)) (zHas.has hl) (by simp) rfl (fun ls h => ?_)
  exact k H locs ls (zHas.set (i := 9) (v := .float x) h hl.1 (by simp) (fun u hu2 => by cases hu2; exact hu)) hn hR hS
theorem sw_iinc_9 {G : zG} {X : zX} {M : zM} {d mc ms a b pc : Nat} {lt : List (Option Value)} {st : List Value} {I : zI} {J : Int64} {E : UInt64} (C : zOK G X M d mc ms) {u0 u1 u2 u3 u4 u5 u6 u7 u8 : Option Value} {x v : Int32} {n : Int} (hu : zC1 u8 = true) (hv : x + Int32.ofInt n = v) (hd : decode M.2.1 pc = .ok (.iinc 9 n, 3)) (k : SW G X a b (pc + 3) (u0 :: u1 :: u2 :: u3 :: u4 :: u5 :: u6 :: u7 :: u8 :: some (.int v) :: lt) st I J E) : SW G X a b pc (u0 :: u1 :: u2 :: u3 :: u4 :: u5 :: u6 :: u7 :: u8 :: some (.int x) :: lt) st I J E := by
  obtain ⟨p, l, e, R, s, m, args, below, meth, c, Q⟩ := X
  intro H locs arr hl hn hR hS
  obtain ⟨q, hq⟩ := List.getElem?_of_mem (zAl.mem (φ := G.2.2.1) (ls := u0 :: u1 :: u2 :: u3 :: u4 :: u5 :: u6 :: u7 :: u8 :: some (.int x) :: lt) (i := 9) rfl)
  refine lv_iinc C.1 C.2.1 (i := 9) hd (lv := zAl G.2.2.1 (u0 :: u1 :: u2 :: u3 :: u4 :: u5 :: u6 :: u7 :: u8 :: some (.int x) :: lt)) (zHas.has hl) hq hv (by simp) rfl (fun ls h => ?_)
  exact k H locs ls (zHas.set (i := 9) (v := .int v) h hl.1 (by simp) (fun u hu2 => by cases hu2; exact hu)) hn hR hS
theorem sw_iload_10 {G : zG} {X : zX} {M : zM} {d mc ms a b pc : Nat} {lt : List (Option Value)} {st : List Value} {I : zI} {J : Int64} {E : UInt64} (C : zOK G X M d mc ms) {u0 u1 u2 u3 u4 u5 u6 u7 u8 u9 : Option Value} {x : Int32} (hd : decode M.2.1 pc = .ok (.iload 10, 2)) (k : SW G X a b (pc + 2) (u0 :: u1 :: u2 :: u3 :: u4 :: u5 :: u6 :: u7 :: u8 :: u9 :: some (.int x) :: lt) (.int x :: st) I J E) : SW G X a b pc (u0 :: u1 :: u2 :: u3 :: u4 :: u5 :: u6 :: u7 :: u8 :: u9 :: some (.int x) :: lt) st I J E := by
  obtain ⟨p, l, e, R, s, m, args, below, meth, c, Q⟩ := X
  intro H locs arr hl hn hR hS
  exact lv_iload C.1 C.2.1 (i := 10) hd (hl.2.2 10 _ rfl) (k H locs arr hl hn hR hS)
theorem sw_aload_10 {G : zG} {X : zX} {M : zM} {d mc ms a b pc : Nat} {lt : List (Option Value)} {st : List Value} {I : zI} {J : Int64} {E : UInt64} (C : zOK G X M d mc ms) {u0 u1 u2 u3 u4 u5 u6 u7 u8 u9 : Option Value} {x : Nat} (hd : decode M.2.1 pc = .ok (.aload 10, 2)) (k : SW G X a b (pc + 2) (u0 :: u1 :: u2 :: u3 :: u4 :: u5 :: u6 :: u7 :: u8 :: u9 :: some (.ref x) :: lt) (.ref x :: st) I J E) : SW G X a b pc (u0 :: u1 :: u2 :: u3 :: u4 :: u5 :: u6 :: u7 :: u8 :: u9 :: some (.ref x) :: lt) st I J E := by
  obtain ⟨p, l, e, R, s, m, args, below, meth, c, Q⟩ := X
  intro H locs arr hl hn hR hS
  exact lv_aload C.1 C.2.1 (i := 10) hd (hl.2.2 10 _ rfl) (k H locs arr hl hn hR hS)
theorem sw_fload_10 {G : zG} {X : zX} {M : zM} {d mc ms a b pc : Nat} {lt : List (Option Value)} {st : List Value} {I : zI} {J : Int64} {E : UInt64} (C : zOK G X M d mc ms) {u0 u1 u2 u3 u4 u5 u6 u7 u8 u9 : Option Value} {x : UInt32} (hd : decode M.2.1 pc = .ok (.fload 10, 2)) (k : SW G X a b (pc + 2) (u0 :: u1 :: u2 :: u3 :: u4 :: u5 :: u6 :: u7 :: u8 :: u9 :: some (.float x) :: lt) (.float x :: st) I J E) : SW G X a b pc (u0 :: u1 :: u2 :: u3 :: u4 :: u5 :: u6 :: u7 :: u8 :: u9 :: some (.float x) :: lt) st I J E := by
  obtain ⟨p, l, e, R, s, m, args, below, meth, c, Q⟩ := X
  intro H locs arr hl hn hR hS
  exact lv_fload C.1 C.2.1 (i := 10) hd (hl.2.2 10 _ rfl) (k H locs arr hl hn hR hS)
theorem sw_dload_10 {G : zG} {X : zX} {M : zM} {d mc ms a b pc : Nat} {lt : List (Option Value)} {st : List Value} {I : zI} {J : Int64} {E : UInt64} (C : zOK G X M d mc ms) {u0 u1 u2 u3 u4 u5 u6 u7 u8 u9 : Option Value} {x : UInt64} (hd : decode M.2.1 pc = .ok (.dload 10, 2)) (k : SW G X a b (pc + 2) (u0 :: u1 :: u2 :: u3 :: u4 :: u5 :: u6 :: u7 :: u8 :: u9 :: some (.double x) :: lt) (.double x :: st) I J E) : SW G X a b pc (u0 :: u1 :: u2 :: u3 :: u4 :: u5 :: u6 :: u7 :: u8 :: u9 :: some (.double x) :: lt) st I J E := by
  obtain ⟨p, l, e, R, s, m, args, below, meth, c, Q⟩ := X
  intro H locs arr hl hn hR hS
  exact lv_dload C.1 C.2.1 (i := 10) hd (hl.2.2 10 _ rfl) (k H locs arr hl hn hR hS)
theorem sw_istore_10 {G : zG} {X : zX} {M : zM} {d mc ms a b pc : Nat} {lt : List (Option Value)} {st : List Value} {I : zI} {J : Int64} {E : UInt64} (C : zOK G X M d mc ms) {u0 u1 u2 u3 u4 u5 u6 u7 u8 u9 : Option Value} {w : Option Value} {x : Int32} (hu : zC1 u9 = true) (hd : decode M.2.1 pc = .ok (.istore 10, 2)) (k : SW G X a b (pc + 2) (u0 :: u1 :: u2 :: u3 :: u4 :: u5 :: u6 :: u7 :: u8 :: u9 :: some (.int x) :: lt) st I J E) : SW G X a b pc (u0 :: u1 :: u2 :: u3 :: u4 :: u5 :: u6 :: u7 :: u8 :: u9 :: w :: lt) (.int x :: st) I J E := by
  obtain ⟨p, l, e, R, s, m, args, below, meth, c, Q⟩ := X
  intro H locs arr hl hn hR hS
  refine lv_istore C.1 C.2.1 (i := 10) hd (lv := zAl G.2.2.1 (u0 :: u1 :: u2 :: u3 :: u4 :: u5 :: u6 :: u7 :: u8 :: u9 :: w :: lt)) (zHas.has hl) (by simp) rfl (fun ls h => ?_)
  exact k H locs ls (zHas.set (i := 10) (v := .int x) h hl.1 (by simp) (fun u hu2 => by cases hu2; exact hu)) hn hR hS
theorem sw_astore_10 {G : zG} {X : zX} {M : zM} {d mc ms a b pc : Nat} {lt : List (Option Value)} {st : List Value} {I : zI} {J : Int64} {E : UInt64} (C : zOK G X M d mc ms) {u0 u1 u2 u3 u4 u5 u6 u7 u8 u9 : Option Value} {w : Option Value} {x : Nat} (hu : zC1 u9 = true) (hd : decode M.2.1 pc = .ok (.astore 10, 2)) (k : SW G X a b (pc + 2) (u0 :: u1 :: u2 :: u3 :: u4 :: u5 :: u6 :: u7 :: u8 :: u9 :: some (.ref x) :: lt) st I J E) : SW G X a b pc (u0 :: u1 :: u2 :: u3 :: u4 :: u5 :: u6 :: u7 :: u8 :: u9 :: w :: lt) (.ref x :: st) I J E := by
  obtain ⟨p, l, e, R, s, m, args, below, meth, c, Q⟩ := X
  intro H locs arr hl hn hR hS
  refine lv_astore C.1 C.2.1 (i := 10) hd (lv := zAl G.2.2.1 (u0 :: u1 :: u2 :: u3 :: u4 :: u5 :: u6 :: u7 :: u8 :: u9 :: w :: lt)) (zHas.has hl) (by simp) rfl (fun ls h => ?_)
  exact k H locs ls (zHas.set (i := 10) (v := .ref x) h hl.1 (by simp) (fun u hu2 => by cases hu2; exact hu)) hn hR hS
theorem sw_fstore_10 {G : zG} {X : zX} {M : zM} {d mc ms a b pc : Nat} {lt : List (Option Value)} {st : List Value} {I : zI} {J : Int64} {E : UInt64} (C : zOK G X M d mc ms) {u0 u1 u2 u3 u4 u5 u6 u7 u8 u9 : Option Value} {w : Option Value} {x : UInt32} (hu : zC1 u9 = true) (hd : decode M.2.1 pc = .ok (.fstore 10, 2)) (k : SW G X a b (pc + 2) (u0 :: u1 :: u2 :: u3 :: u4 :: u5 :: u6 :: u7 :: u8 :: u9 :: some (.float x) :: lt) st I J E) : SW G X a b pc (u0 :: u1 :: u2 :: u3 :: u4 :: u5 :: u6 :: u7 :: u8 :: u9 :: w :: lt) (.float x :: st) I J E := by
  obtain ⟨p, l, e, R, s, m, args, below, meth, c, Q⟩ := X
  intro H locs arr hl hn hR hS
  refine lv_fstore C.1 C.2.1 (i := 10) hd (lv := zAl G.2.2.1 (u0 :: u1 :: u2 :: u3 :: u4 :: u5 :: u6 :: u7 :: u8 :: u9 :: w :: lt)) (zHas.has hl) (by simp) rfl (fun ls h => ?_)
  exact k H locs ls (zHas.set (i := 10) (v := .float x) h hl.1 (by simp) (fun u hu2 => by cases hu2; exact hu)) hn hR hS
theorem sw_iinc_10 {G : zG} {X : zX} {M : zM} {d mc ms a b pc : Nat} {lt : List (Option Value)} {st : List Value} {I : zI} {J : Int64} {E : UInt64} (C : zOK G X M d mc ms) {u0 u1 u2 u3 u4 u5 u6 u7 u8 u9 : Option Value} {x v : Int32} {n : Int} (hu : zC1 u9 = true) (hv : x + Int32.ofInt n = v) (hd : decode M.2.1 pc = .ok (.iinc 10 n, 3)) (k : SW G X a b (pc + 3) (u0 :: u1 :: u2 :: u3 :: u4 :: u5 :: u6 :: u7 :: u8 :: u9 :: some (.int v) :: lt) st I J E) : SW G X a b pc (u0 :: u1 :: u2 :: u3 :: u4 :: u5 :: u6 :: u7 :: u8 :: u9 :: some (.int x) :: lt) st I J E := by
  obtain ⟨p, l, e, R, s, m, args, below, meth, c, Q⟩ := X
  intro H locs arr hl hn hR hS
  obtain ⟨q, hq⟩ := List.getElem?_of_mem (zAl.mem (φ := G.2.2.1) (ls := u0 :: u1 :: u2 :: u3 :: u4 :: u5 :: u6 :: u7 :: u8 :: u9 :: some (.int x) :: lt) (i := 10) rfl)
  refine lv_iinc C.1 C.2.1 (i := 10) hd (lv := zAl G.2.2.1 (u0 :: u1 :: u2 :: u3 :: u4 :: u5 :: u6 :: u7 :: u8 :: u9 :: some (.int x) :: lt)) (zHas.has hl) hq hv (by simp) rfl (fun ls h => ?_)
  exact k H locs ls (zHas.set (i := 10) (v := .int v) h hl.1 (by simp) (fun u hu2 => by cases hu2; exact hu)) hn hR hS
theorem sw_iload_11 {G : zG} {X : zX} {M : zM} {d mc ms a b pc : Nat} {lt : List (Option Value)} {st : List Value} {I : zI} {J : Int64} {E : UInt64} (C : zOK G X M d mc ms) {u0 u1 u2 u3 u4 u5 u6 u7 u8 u9 u10 : Option Value} {x : Int32} (hd : decode M.2.1 pc = .ok (.iload 11, 2)) (k : SW G X a b (pc + 2) (u0 :: u1 :: u2 :: u3 :: u4 :: u5 :: u6 :: u7 :: u8 :: u9 :: u10 :: some (.int x) :: lt) (.int x :: st) I J E) : SW G X a b pc (u0 :: u1 :: u2 :: u3 :: u4 :: u5 :: u6 :: u7 :: u8 :: u9 :: u10 :: some (.int x) :: lt) st I J E := by
  obtain ⟨p, l, e, R, s, m, args, below, meth, c, Q⟩ := X
  intro H locs arr hl hn hR hS
  exact lv_iload C.1 C.2.1 (i := 20) hd (hl.2.2 11 _ rfl) (k H locs arr hl hn hR hS)
theorem sw_aload_11 {G : zG} {X : zX} {M : zM} {d mc ms a b pc : Nat} {lt : List (Option Value)} {st : List Value} {I : zI} {J : Int64} {E : UInt64} (C : zOK G X M d mc ms) {u0 u1 u2 u3 u4 u5 u6 u7 u8 u9 u10 : Option Value} {x : Nat} (hd : decode M.2.1 pc = .ok (.aload 11, 2)) (k : SW G X a b (pc + 2) (u0 :: u1 :: u2 :: u3 :: u4 :: u5 :: u6 :: u7 :: u8 :: u9 :: u10 :: some (.ref x) :: lt) (.ref x :: st) I J E) : SW G X a b pc (u0 :: u1 :: u2 :: u3 :: u4 :: u5 :: u6 :: u7 :: u8 :: u9 :: u10 :: some (.ref x) :: lt) st I J E := by
  obtain ⟨p, l, e, R, s, m, args, below, meth, c, Q⟩ := X
  intro H locs arr hl hn hR hS
  exact lv_aload C.1 C.2.1 (i := 20) hd (hl.2.2 11 _ rfl) (k H locs arr hl hn hR hS)
theorem sw_fload_11 {G : zG} {X : zX} {M : zM} {d mc ms a b pc : Nat} {lt : List (Option Value)} {st : List Value} {I : zI} {J : Int64} {E : UInt64} (C : zOK G X M d mc ms) {u0 u1 u2 u3 u4 u5 u6 u7 u8 u9 u10 : Option Value} {x : UInt32} (hd : decode M.2.1 pc = .ok (.fload 11, 2)) (k : SW G X a b (pc + 2) (u0 :: u1 :: u2 :: u3 :: u4 :: u5 :: u6 :: u7 :: u8 :: u9 :: u10 :: some (.float x) :: lt) (.float x :: st) I J E) : SW G X a b pc (u0 :: u1 :: u2 :: u3 :: u4 :: u5 :: u6 :: u7 :: u8 :: u9 :: u10 :: some (.float x) :: lt) st I J E := by
  obtain ⟨p, l, e, R, s, m, args, below, meth, c, Q⟩ := X
  intro H locs arr hl hn hR hS
  exact lv_fload C.1 C.2.1 (i := 20) hd (hl.2.2 11 _ rfl) (k H locs arr hl hn hR hS)
theorem sw_dload_11 {G : zG} {X : zX} {M : zM} {d mc ms a b pc : Nat} {lt : List (Option Value)} {st : List Value} {I : zI} {J : Int64} {E : UInt64} (C : zOK G X M d mc ms) {u0 u1 u2 u3 u4 u5 u6 u7 u8 u9 u10 : Option Value} {x : UInt64} (hd : decode M.2.1 pc = .ok (.dload 11, 2)) (k : SW G X a b (pc + 2) (u0 :: u1 :: u2 :: u3 :: u4 :: u5 :: u6 :: u7 :: u8 :: u9 :: u10 :: some (.double x) :: lt) (.double x :: st) I J E) : SW G X a b pc (u0 :: u1 :: u2 :: u3 :: u4 :: u5 :: u6 :: u7 :: u8 :: u9 :: u10 :: some (.double x) :: lt) st I J E := by
  obtain ⟨p, l, e, R, s, m, args, below, meth, c, Q⟩ := X
  intro H locs arr hl hn hR hS
  exact lv_dload C.1 C.2.1 (i := 20) hd (hl.2.2 11 _ rfl) (k H locs arr hl hn hR hS)
theorem sw_istore_11 {G : zG} {X : zX} {M : zM} {d mc ms a b pc : Nat} {lt : List (Option Value)} {st : List Value} {I : zI} {J : Int64} {E : UInt64} (C : zOK G X M d mc ms) {u0 u1 u2 u3 u4 u5 u6 u7 u8 u9 u10 : Option Value} {w : Option Value} {x : Int32} (hu : zC1 u10 = true) (hd : decode M.2.1 pc = .ok (.istore 11, 2)) (k : SW G X a b (pc + 2) (u0 :: u1 :: u2 :: u3 :: u4 :: u5 :: u6 :: u7 :: u8 :: u9 :: u10 :: some (.int x) :: lt) st I J E) : SW G X a b pc (u0 :: u1 :: u2 :: u3 :: u4 :: u5 :: u6 :: u7 :: u8 :: u9 :: u10 :: w :: lt) (.int x :: st) I J E := by
  obtain ⟨p, l, e, R, s, m, args, below, meth, c, Q⟩ := X
  intro H locs arr hl hn hR hS
  refine lv_istore C.1 C.2.1 (i := 20) hd (lv := zAl G.2.2.1 (u0 :: u1 :: u2 :: u3 :: u4 :: u5 :: u6 :: u7 :: u8 :: u9 :: u10 :: w :: lt)) (zHas.has hl) (by simp) rfl (fun ls h => ?_)
  exact k H locs ls (zHas.set (i := 20) (v := .int x) h hl.1 (by simp) (fun u hu2 => by cases hu2; exact hu)) hn hR hS
theorem sw_astore_11 {G : zG} {X : zX} {M : zM} {d mc ms a b pc : Nat} {lt : List (Option Value)} {st : List Value} {I : zI} {J : Int64} {E : UInt64} (C : zOK G X M d mc ms) {u0 u1 u2 u3 u4 u5 u6 u7 u8 u9 u10 : Option Value} {w : Option Value} {x : Nat} (hu : zC1 u10 = true) (hd : decode M.2.1 pc = .ok (.astore 11, 2)) (k : SW G X a b (pc + 2) (u0 :: u1 :: u2 :: u3 :: u4 :: u5 :: u6 :: u7 :: u8 :: u9 :: u10 :: some (.ref x) :: lt) st I J E) : SW G X a b pc (u0 :: u1 :: u2 :: u3 :: u4 :: u5 :: u6 :: u7 :: u8 :: u9 :: u10 :: w :: lt) (.ref x :: st) I J E := by
  obtain ⟨p, l, e, R, s, m, args, below, meth, c, Q⟩ := X
  intro H locs arr hl hn hR hS
  refine lv_astore C.1 C.2.1 (i := 20) hd (lv := zAl G.2.2.1 (u0 :: u1 :: u2 :: u3 :: u4 :: u5 :: u6 :: u7 :: u8 :: u9 :: u10 :: w :: lt)) (zHas.has hl) (by simp) rfl (fun ls h => ?_)
  exact k H locs ls (zHas.set (i := 20) (v := .ref x) h hl.1 (by simp) (fun u hu2 => by cases hu2; exact hu)) hn hR hS
theorem sw_fstore_11 {G : zG} {X : zX} {M : zM} {d mc ms a b pc : Nat} {lt : List (Option Value)} {st : List Value} {I : zI} {J : Int64} {E : UInt64} (C : zOK G X M d mc ms) {u0 u1 u2 u3 u4 u5 u6 u7 u8 u9 u10 : Option Value} {w : Option Value} {x : UInt32} (hu : zC1 u10 = true) (hd : decode M.2.1 pc = .ok (.fstore 11, 2)) (k : SW G X a b (pc + 2) (u0 :: u1 :: u2 :: u3 :: u4 :: u5 :: u6 :: u7 :: u8 :: u9 :: u10 :: some (.float x) :: lt) st I J E) : SW G X a b pc (u0 :: u1 :: u2 :: u3 :: u4 :: u5 :: u6 :: u7 :: u8 :: u9 :: u10 :: w :: lt) (.float x :: st) I J E := by
  obtain ⟨p, l, e, R, s, m, args, below, meth, c, Q⟩ := X
  intro H locs arr hl hn hR hS
  refine lv_fstore C.1 C.2.1 (i := 20) hd (lv := zAl G.2.2.1 (u0 :: u1 :: u2 :: u3 :: u4 :: u5 :: u6 :: u7 :: u8 :: u9 :: u10 :: w :: lt)) (zHas.has hl) (by simp) rfl (fun ls h => ?_)
  exact k H locs ls (zHas.set (i := 20) (v := .float x) h hl.1 (by simp) (fun u hu2 => by cases hu2; exact hu)) hn hR hS
theorem sw_iinc_11 {G : zG} {X : zX} {M : zM} {d mc ms a b pc : Nat} {lt : List (Option Value)} {st : List Value} {I : zI} {J : Int64} {E : UInt64} (C : zOK G X M d mc ms) {u0 u1 u2 u3 u4 u5 u6 u7 u8 u9 u10 : Option Value} {x v : Int32} {n : Int} (hu : zC1 u10 = true) (hv : x + Int32.ofInt n = v) (hd : decode M.2.1 pc = .ok (.iinc 11 n, 3)) (k : SW G X a b (pc + 3) (u0 :: u1 :: u2 :: u3 :: u4 :: u5 :: u6 :: u7 :: u8 :: u9 :: u10 :: some (.int v) :: lt) st I J E) : SW G X a b pc (u0 :: u1 :: u2 :: u3 :: u4 :: u5 :: u6 :: u7 :: u8 :: u9 :: u10 :: some (.int x) :: lt) st I J E := by
  obtain ⟨p, l, e, R, s, m, args, below, meth, c, Q⟩ := X
  intro H locs arr hl hn hR hS
  obtain ⟨q, hq⟩ := List.getElem?_of_mem (zAl.mem (φ := G.2.2.1) (ls := u0 :: u1 :: u2 :: u3 :: u4 :: u5 :: u6 :: u7 :: u8 :: u9 :: u10 :: some (.int x) :: lt) (i := 20) rfl)
  refine lv_iinc C.1 C.2.1 (i := 20) hd (lv := zAl G.2.2.1 (u0 :: u1 :: u2 :: u3 :: u4 :: u5 :: u6 :: u7 :: u8 :: u9 :: u10 :: some (.int x) :: lt)) (zHas.has hl) hq hv (by simp) rfl (fun ls h => ?_)
  exact k H locs ls (zHas.set (i := 20) (v := .int v) h hl.1 (by simp) (fun u hu2 => by cases hu2; exact hu)) hn hR hS
