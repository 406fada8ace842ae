/-! the world as a table: objects by number, their shape fixed, their ints a function -/
abbrev zG : Type := va_G × (Nat → ClassId) × (Nat → Nat) × (Nat → Prop)
abbrev zX : Type := Program × Launch × Env × Room × State × MethodId × Array Value × List Frame × Method × Code × (State → Prop)
abbrev zM : Type := MethodName × ByteArray × Nat × Option FieldType
abbrev zI : Type := Nat → Nat → Int32
def zTr (φ : Nat → Nat) (v : Value) : Value := match v with
  | .ref o => .ref (φ o)
  | v => v
abbrev zA (G : zG) : Nat → Prop := G.2.2.2
/-! words -/
def zNestB : Cond → Bool
  | .fieldLinkNest .. => true
  | .methodLinkNest .. => true
  | .declares _ => true
  | .castable .. => true
  | .privateMethod _ => true
  | _ => false
def zGood (w : Cond) : Bool := goodWord w || zNestB w
def zTW (U : State) : Prop := ∀ w ∈ lw_tbl, zGood w = true → ∀ a : Array Value, w.before a U = true
theorem zTW.moved {s U : State} (hW : s.WarmedH U.vm) (h : zTW s) : zTW U := by
  intro w hw hg a
  by_cases hg1 : goodWord w = true
  · exact word_at hW (good_of_word hg1) (h w hw hg #[])
  · have hn : zNestB w = true := by simpa [zGood, hg1] using hg
    cases w <;> first | (exact absurd hn Bool.false_ne_true) | (exact va_Nw.use rfl (va_Nw.warmF hW (va_Nw.of rfl (h _ hw hg #[])))) | (exact va_Nw.use rfl (va_Nw.warmM hW (va_Nw.of rfl (h _ hw hg #[])))) | (exact va_Nw.use rfl (va_Nw.warmD hW (va_Nw.of rfl (h _ hw hg #[])))) | (exact va_Nw.use rfl (va_Nw.warmC hW (va_Nw.of rfl (h _ hw hg #[])))) | (exact Cond.privateMethod_warm hW (h _ hw hg #[]))
/-! shapes -/
def zTy (c : Nat) : Nat → FieldType := match c with
  | 0 => tyJ0 | 1 => tyJ4 | 4 => tyX0 | 5 => tyX1 | 6 => tyX2 | 7 => tyX3 | 8 => tyX4 | 9 => tyX5 | _ => tyX6
def zNf (c : Nat) : Nat := match c with
  | 0 => 4 | 1 => 4 | 4 => 3 | 5 => 5 | 6 => 6 | 7 => 8 | 8 => 11 | 9 => 10 | _ => 1
/-- kinds of arrays: 1 int 2 char 3 byte 4 Rumour 5 Scene 6 long 7 double -/
def zAt (k : Nat) : FieldType := match k with
  | 1 => .int | 2 => .char | 3 => .byte | 4 => .object "RumourHives$Rumour" | 5 => .object "RumourHives$Scene" | 6 => .long | _ => .double
/-- one scene's sixteen: scene, net, neighbours, parents, steps, hiveOf, doubtOf, rumours, four rumours and their rounds -/
def zShS (k : Nat) : Nat × Nat := match k with
  | 0 => (0, 7) | 1 => (0, 5) | 2 => (1, 12) | 3 => (1, 12) | 4 => (1, 12) | 5 => (1, 12) | 6 => (1, 12) | 7 => (4, 4)
  | 8 => (0, 6) | 9 => (1, 12) | 10 => (0, 6) | 11 => (1, 12) | 12 => (0, 6) | 13 => (1, 12) | 14 => (0, 6) | _ => (1, 12)
def zShT (o : Nat) : Nat × Nat := match o with
  | 0 => (0, 9) | 1 => (0, 4) | 2 => (5, 8) | 3 => (0, 6) | 4 => (1, 12) | 5 => (0, 8) | 6 => (2, 60) | 7 => (1, 60) | 8 => (1, 60) | 9 => (1, 60)
  | 10 => (0, 1) | 11 => (3, 0) | _ => (99, 0)
/-- 0..11: x, history, its scenes, forecast and rounds, script and arrays, output and its bytes; 12..24 no object of the heap; then eleven scenes from 25 on -/
def zSh (o : Nat) : Nat × Nat := if o < 25 then zShT o else zShS ((o - 25) % 16)
def zN : Nat := 201
def zB : Nat := 11
/-- the references, which never change once made -/
def zPs (b k j : Nat) : Option Nat := match k, j with
  | 0, 0 => some (b + 1) | 0, 1 => some (b + 5) | 0, 2 => some (b + 6) | 0, 3 => some (b + 7)
  | 1, 2 => some (b + 2) | 1, 3 => some (b + 3) | 1, 4 => some (b + 4)
  | 7, j => some (b + 8 + 2 * j)
  | 8, 5 => some (b + 9) | 10, 5 => some (b + 11) | 12, 5 => some (b + 13) | 14, 5 => some (b + 15)
  | _, _ => none
def zPt (o j : Nat) : Option Nat := match o, j with
  | 0, 0 => some 25 | 0, 1 => some 41 | 0, 2 => some 57 | 0, 3 => some 1 | 0, 4 => some 3 | 0, 5 => some 5 | 0, 6 => some 10
  | 1, 0 => some 2
  | 2, j => some (73 + 16 * j)
  | 3, 5 => some 4
  | 5, 0 => some 6 | 5, 2 => some 7 | 5, 3 => some 8 | 5, 4 => some 9
  | 10, 0 => some 11
  | _, _ => none
def zP (o j : Nat) : Option Nat := if o < 25 then zPt o j else zPs (o - (o - 25) % 16) ((o - 25) % 16) j
def zAd (φ : Nat → Nat) (va : Nat) (o : Nat) : Nat := if o = 11 then va else φ o
def zIsR (t : FieldType) : Bool := match t with
  | .object _ => true
  | .array _ => true
  | _ => false
def zFv (φ : Nat → Nat) (va : Nat) (I : zI) (o c k : Nat) : Value := if zIsR (zTy c k) then va_rf ((zP o k).map (zAd φ va)) else .int (I o k)
def zEnt (G : zG) (va cap : Nat) (I : zI) (J : Int64) (E : UInt64) (o : Nat) : va_E := match (zSh o).1 with
  | 0 => .inr ((zSh o).2, (List.range (zNf (zSh o).2)).map (zFv G.2.2.1 va I o (zSh o).2))
  | 4 => .inl (G.2.1 4, (zSh o).2, .inr (.inr (.inr (.inr (fun k => (zP o k).map (zAd G.2.2.1 va))))))
  | 5 => .inl (G.2.1 5, (zSh o).2, .inr (.inr (.inr (.inr (fun k => (zP o k).map (zAd G.2.2.1 va))))))
  | 6 => .inl (G.2.1 6, (zSh o).2, .inr (.inl (fun _ => J)))
  | 7 => .inl (G.2.1 7, (zSh o).2, .inr (.inr (.inr (.inl (fun _ => E)))))
  | k => .inl (G.2.1 k, if o = 11 then cap else (zSh o).2, .inl (I o))
def zO (k : Nat) : Nat := if k < 12 then k else k + 13
def zIx (o : Nat) : Nat := if o < 12 then o else o - 13
theorem zO_ix {o : Nat} (h : o < 12 ∨ 25 ≤ o) : zO (zIx o) = o := by unfold zO zIx; split <;> split <;> omega
theorem zIx_o {k : Nat} : zIx (zO k) = k := by unfold zO zIx; split <;> split <;> omega
theorem zIx_lt {o : Nat} (h : o < zN) : zIx o < 188 := by unfold zIx; unfold zN at h; split <;> omega
theorem zO_lt {k : Nat} (h : k < 188) : zO k < zN ∧ (zO k < 12 ∨ 25 ≤ zO k) := by unfold zO zN; split <;> omega
theorem zSh_in {o k n : Nat} (h : zSh o = (k, n)) (hk : k ≠ 99) : o < 12 ∨ 25 ≤ o := by
  rcases Nat.lt_or_ge o 12 with h1 | h1
  · exact Or.inl h1
  · rcases Nat.lt_or_ge o 25 with h2 | h2
    · exfalso
      have e : ∀ q : Fin 25, 12 ≤ q.val → zSh q.val = (99, 0) := by decide
      rw [e ⟨o, h2⟩ h1] at h
      injection h with h3 h4
      exact hk h3.symm
    · exact Or.inr h2
def zW (G : zG) (va cap : Nat) (I : zI) (J : Int64) (E : UInt64) : va_W := (List.range 188).map (fun k => (zAd G.2.2.1 va (zO k), zEnt G va cap I J E (zO k)))
/-- the room of the output's bytes is kept as a number of the world; in an opened world their address is known -/
def zCap (I : zI) : Nat := (I 10 99).toNatClampNeg
def zGh (G : zG) (va cap : Nat) (I : zI) : Prop := cap = zCap I ∧ (G.2.2.1 298 = 1 → va = G.2.2.1 11)
def zRep (G : zG) (I : zI) (J : Int64) (E : UInt64) (H : Heap) : Prop := ∃ va cap : Nat, va_P G.1 vwCl (zW G va cap I J E) H ∧ va_D (zA G) (zW G va cap I J E) ∧ zGh G va cap I
def zTys (cA : Nat → ClassId) : List (ClassId × FieldType) := (List.range 5).map (fun k => (cA (k + 1), zAt (k + 1)))
theorem zW_len {G : zG} {va cap : Nat} {I : zI} {J : Int64} {E : UInt64} : (zW G va cap I J E).length = 188 := by simp [zW]
theorem zW_at {G : zG} {va cap : Nat} {I : zI} {J : Int64} {E : UInt64} {k : Nat} (h : k < 188) : (zW G va cap I J E)[k]? = some (zAd G.2.2.1 va (zO k), zEnt G va cap I J E (zO k)) := by
  simp [zW, h]
theorem zW_get {G : zG} {va cap : Nat} {I : zI} {J : Int64} {E : UInt64} {o : Nat} (h : o < zN) (h2 : o < 12 ∨ 25 ≤ o) : (zW G va cap I J E)[zIx o]? = some (zAd G.2.2.1 va o, zEnt G va cap I J E o) := by
  rw [zW_at (zIx_lt h), zO_ix h2]
theorem zTys_get {cA : Nat → ClassId} {k : Nat} (h : k < 5) : (zTys cA)[k]? = some (cA (k + 1), zAt (k + 1)) := by
  simp [zTys, h]
/-! what is known of a state beside the world -/
def zStrs : List (String × Nat × String) := [("RumourHivesLaw", 267, ""), ("RumourHivesLaw", 269, ","), ("RumourHivesLaw", 298, "r"), ("RumourHivesLaw", 300, ":"), ("RumourHivesLaw", 306, "x"), ("RumourHives", 322, "no such index"), ("RumourHives", 324, "an argument is not allowed"), ("RumourHives", 326, "the state does not allow the call"), ("RumourHives", 308, "there is none"), ("RumourHives", 296, "no such listener"), ("RumourHives", 306, "no such hive"), ("RumourHives", 301, "no such rumour"), ("RumourHives", 147, "the listener is unaware of the rumour"), ("RumourHives", 155, "the rumour has no spreaders"), ("RumourHives", 176, "the listener is not unaware of the rumour"), ("RumourHives", 185, "the rounds are not between 0 and 40"), ("RumourHives", 212, "there are no listeners"), ("java/lang/StringIndexOutOfBoundsException", 13, "String index out of range: "), ("java/util/Arrays", 337, " > "), ("java/util/Arrays", 48, "fromIndex("), ("java/util/Arrays", 57, ") > toIndex("), ("java/util/Arrays", 59, ")"), ("java/lang/ArrayIndexOutOfBoundsException", 13, "Array index out of range: "), ("RumourHives", 250, "no such index of the output text"), ("RumourHives", 256, "the character code is not between 32 and 126"), ("RumourHives", 260, "the script buffer is full"), ("RumourHives$Script", 59, "ear # #"), ("RumourHives$Script", 61, "link @ @"), ("RumourHives$Script", 63, "cut @ @"), ("RumourHives$Script", 65, "start @ #"), ("RumourHives$Script", 67, "check # @"), ("RumourHives$Script", 69, "deny #"), ("RumourHives$Script", 71, "answer # #"), ("RumourHives$Script", 73, "move @ #"), ("RumourHives$Script", 75, "round"), ("RumourHives$Script", 77, "round @"), ("RumourHives", 269, "the script does not have the required form"), ("RumourHives", 274, "a command of the script failed"), ("RumourHives", 282, "there is nothing to undo"), ("RumourHives", 290, "there is no snapshot")]
def zStr (U : State) : Prop := ∀ q ∈ zStrs, ∃ a, vk_R q.1 q.2.1 q.2.2 a U
theorem zStr.moved {s U : State} (hW : s.WarmedH U.vm) (h : zStr s) : zStr U := fun q hq => by
  obtain ⟨a, ha⟩ := h q hq
  exact ⟨a, ha.warm hW⟩
/-- the forms of a script's commands: their texts -/
def zFtx (k : Nat) : String := match k with
  | 0 => "ear # #"
  | 1 => "link @ @"
  | 2 => "cut @ @"
  | 3 => "start @ #"
  | 4 => "check # @"
  | 5 => "deny #"
  | 6 => "answer # #"
  | 7 => "move @ #"
  | 8 => "round"
  | _ => "round @"
def zFlen : List Nat := [7, 8, 7, 9, 9, 6, 10, 8, 5, 7]
def zFbyt : List (List Int32) := [[101, 97, 114, 32, 35, 32, 35], [108, 105, 110, 107, 32, 64, 32, 64], [99, 117, 116, 32, 64, 32, 64], [115, 116, 97, 114, 116, 32, 64, 32, 35], [99, 104, 101, 99, 107, 32, 35, 32, 64], [100, 101, 110, 121, 32, 35], [97, 110, 115, 119, 101, 114, 32, 35, 32, 35], [109, 111, 118, 101, 32, 64, 32, 35], [114, 111, 117, 110, 100], [114, 111, 117, 110, 100, 32, 64]]
abbrev zPC : String := "jdk/internal/util/Preconditions"
abbrev zPD : String := "Ljava/util/function/BiFunction;"
/-- the digits' tables -/
def zTen (G : zG) (U : State) (H : Heap) : Prop := (va_Z "java/lang/Integer" "DigitOnes" "[B" (.ref (G.2.2.1 350)) (zA G) U H ∧ va_T .byte (G.2.2.1 350) 100 (fun j => .int (nI (48 + j % 10))) (zA G) U H) ∧ (va_Z "java/lang/Integer" "DigitTens" "[B" (.ref (G.2.2.1 351)) (zA G) U H ∧ va_T .byte (G.2.2.1 351) 100 (fun j => .int (nI (48 + j / 10))) (zA G) U H)
/-- the law's own constants: their numbers, texts, lengths, bytes -/
def zLci (k : Nat) : Nat := [267, 269, 298, 300, 306].getD k 0
def zLtx (k : Nat) : String := match k with
  | 0 => ""
  | 1 => ","
  | 2 => "r"
  | 3 => ":"
  | _ => "x"
def zLlen : List Nat := [0, 1, 1, 1, 1]
def zLbyt : List (List Int32) := [[], [44], [114], [58], [120]]
def zLfm (G : zG) (U : State) (H : Heap) : Prop := (∀ k, k < 5 → vk_R "RumourHivesLaw" (zLci k) (zLtx k) (G.2.2.1 (360 + k)) U) ∧ vk_S 5 zLlen zLbyt (fun k => G.2.2.1 (360 + k)) (fun k => G.2.2.1 (370 + k)) (zA G) U H
def zFrm (G : zG) (U : State) (H : Heap) : Prop := (∀ k, k < 10 → vk_R "RumourHives$Script" (59 + 2 * k) (zFtx k) (G.2.2.1 (300 + k)) U) ∧ vk_S 10 zFlen zFbyt (fun k => G.2.2.1 (300 + k)) (fun k => G.2.2.1 (320 + k)) (zA G) U H ∧ va_Z "java/lang/String" "COMPACT_STRINGS" "Z" (.int 1) (zA G) U H ∧ (va_Z zPC "SIOOBE_FORMATTER" zPD .null (zA G) U H ∨ va_Z zPC "SIOOBE_FORMATTER" zPD (.ref (G.2.2.1 340)) (zA G) U H) ∧ zTen G U H ∧ zLfm G U H
theorem zFrm.to {G : zG} {s U : State} {H0 H : Heap} (h : zFrm G s H0) (hW : s.WarmedH U.vm) (hq : ∀ a : Nat, a < H0.size → ¬ zA G a → H[a]? = H0[a]?) : zFrm G U H := by
  obtain ⟨h1, h2, h3, h4, ⟨⟨h5, h6⟩, ⟨h7, h8⟩⟩, h9, h10⟩ := h
  refine ⟨fun k hk => (h1 k hk).warm hW, (h2.moved hW.alike).kept hq, (h3.moved hW.alike).kept hq, ?_, ⟨⟨(h5.moved hW.alike).kept hq, (h6.moved hW.alike).kept hq⟩, (h7.moved hW.alike).kept hq, (h8.moved hW.alike).kept hq⟩, fun k hk => (h9 k hk).warm hW, (h10.moved hW.alike).kept hq⟩
  rcases h4 with h4 | h4
  · exact Or.inl ((h4.moved hW.alike).kept hq)
  · exact Or.inr ((h4.moved hW.alike).kept hq)
def zFacts (G : zG) (U : State) (H : Heap) : Prop := zTW U ∧ va_K G.1 vwCl (zTys G.2.1) U ∧ vx_Zq Bundle.tN "UNASSIGNED_STACK" Bundle.steD (zA G) U H ∧ vx_Zq Bundle.tN "SUPPRESSED_SENTINEL" Bundle.listD (zA G) U H ∧ zStr U ∧ (∀ q, H.size ≤ q → zA G q) ∧ zFrm G U H
theorem zFacts.to {G : zG} {s U : State} {H : Heap} {locs : List Loc} (h : zFacts G s s.heap) (hW : s.WarmedH U.vm) (hS : va_S (zA G) s.heap H locs) : zFacts G U H := by
  obtain ⟨h1, h2, h3, h4, h5, h6, h7⟩ := h
  refine ⟨h1.moved hW, va_K.moved hW.alike h2, (h3.moved hW.alike).kept hS.2.1, (h4.moved hW.alike).kept hS.2.1, h5.moved hW, fun q hq => h6 q (Nat.le_trans hS.1 hq), h7.to hW hS.2.1⟩
def zRm (d mc ms : Nat) : Room := { frames := 12 + d, cells := mc, slots := ms, locals := 256 + 64 * d }
def zOK (G : zG) (X : zX) (M : zM) (d mc ms : Nat) : Prop :=
  X.1.tables.exec = Jvm.exec ∧ X.2.2.2.2.2.2.2.2.2.1.code = M.2.1 ∧ X.2.2.2.2.2.2.2.2.2.1.maxLocals = M.2.2.1 ∧ X.2.2.2.2.1.vm.findClass M.1.cls = some X.2.2.2.2.2.1.cls ∧ X.2.2.2.2.2.2.2.2.1.locks = false ∧ X.2.2.2.2.2.2.2.2.1.sig.returnType = M.2.2.2 ∧ zFacts G X.2.2.2.2.1 X.2.2.2.2.1.heap ∧ X.2.2.2.1 = zRm d mc ms ∧ X.2.1.stackTraces = false
/-- a list of locals: known ones -/
def zHas (φ : Nat → Nat) (arr : Array Slot) (ls : List (Option Value)) : Prop := arr.size = ls.length ∧ lv_wf arr ∧ ∀ (i : Nat) (v : Value), ls[i]? = some (some v) → arr[i]? = some (.val (zTr φ v))
def SW (G : zG) (X : zX) (cells slots : Nat) (pc : Nat) (ls : List (Option Value)) (st : List Value) (I : zI) (J : Int64) (E : UInt64) : Prop :=
  match X with
  | (p, l, e, R, s, m, args, below, meth, c, Q) => ∀ (H : Heap) (locs : List Loc) (arr : Array Slot), zHas G.2.2.1 arr ls → ls.length = c.maxLocals → zRep G I J E H → va_S (zA G) s.heap H locs → W p l e R s m args below meth c H locs cells slots Q (F0 m pc arr (st.map (zTr G.2.2.1)))
/-! contracts -/
def zPc (G : zG) (as : List Value) (I : zI) (J : Int64) (E : UInt64) : Array Value → State → Prop := fun v U => v = (as.map (zTr G.2.2.1)).toArray ∧ zRep G I J E U.heap ∧ zFacts G U U.heap
def zQc (G : zG) (r : Option Value) (I : zI) (J : Int64) (E : UInt64) : Array Value → State → Outcome → State → Prop := fun _ st oc t => oc = .returned (r.map (zTr G.2.2.1)) ∧ zRep G I J E t.heap ∧ va_F (zA G) st t
def zXc (G : zG) (C : String) (I : zI) (J : Int64) (E : UInt64) : String → State → State → Prop := fun D st t => D = C ∧ zRep G I J E t.heap ∧ va_F (zA G) st t
def zNo : Array Value → State → Outcome → State → Prop := fun _ _ _ _ => False
/-- returns r, and leaves I' J' E' -/
def zCR (l : Launch) (G : zG) (M : zM) (d mc ms : Nat) (as : List Value) (I : zI) (J : Int64) (E : UInt64) (r : Option Value) (I' : zI) (J' : Int64) (E' : UInt64) : Prop :=
  Met l M.1 [Cond.code M.1 M.2.1 M.2.2.1 M.2.2.2] (zRm d mc ms) (zPc G as I J E) (zQc G r I' J' E') mc ms (zA G)
/-- throws C -/
def zCT (l : Launch) (G : zG) (M : zM) (d mc ms : Nat) (as : List Value) (I : zI) (J : Int64) (E : UInt64) (C : String) (I' : zI) (J' : Int64) (E' : UInt64) : Prop :=
  vx_Met l M.1 [Cond.code M.1 M.2.1 M.2.2.1 M.2.2.2] (zRm d mc ms) (zPc G as I J E) zNo (zXc G C I' J' E') mc ms (zA G)
def zFin (G : zG) (X : zX) (mc ms : Nat) (r : Option Value) (I : zI) (J : Int64) (E : UInt64) : Prop :=
  match X with
  | (_, _, _, _, s, _, args, below, _, _, Q) => Q = MQ below (zQc G r I J E) args s mc ms (zA G)
def zFinT (G : zG) (X : zX) (mc ms : Nat) (C : String) (I : zI) (J : Int64) (E : UInt64) : Prop :=
  match X with
  | (_, _, _, _, s, _, args, below, _, c, Q) => Q = vx_MQ below zNo (zXc G C I J E) args s mc ms (zA G) ∧ ∀ x ∈ c.exceptionTable.toList, False
theorem zTr_cat (φ : Nat → Nat) (v : Value) : (zTr φ v).category = v.category := by cases v <;> rfl
theorem zSl {vs : List Value} (h : ∀ v ∈ vs, v.category = 1) : lg_sl vs = vs.map Slot.val := by
  induction vs with
  | nil => rfl
  | cons a l ih =>
    have h1 := h a List.mem_cons_self
    have h2 := ih (fun v hv => h v (List.mem_cons_of_mem _ hv))
    unfold lg_sl at h2 ⊢
    rw [List.flatMap_cons, h2]
    simp [h1]
theorem zEntry {φ : Nat → Nat} {m : MethodId} {as : List Value} {n : Nat} (h1 : ∀ v ∈ as, v.category = 1) (hn : as.length ≤ n) : ∃ arr : Array Slot, entryFrame m (as.map (zTr φ)).toArray n = F0 m 0 arr [] ∧ zHas φ arr (as.map some ++ List.replicate (n - as.length) none) := by
  have h2 : ∀ v ∈ as.map (zTr φ), v.category = 1 := by
    intro v hv
    obtain ⟨w, hw, rfl⟩ := List.mem_map.mp hv
    rw [zTr_cat]; exact h1 w hw
  have hs := zSl h2
  have hlen : (lg_sl (as.map (zTr φ))).length = as.length := by rw [hs]; simp
  have hl := lv_entry (as.map (zTr φ)) (n := n) (by rw [hlen]; exact hn)
  refine ⟨_, lg_entry_eq m _ n, ?_, hl.2.1, ?_⟩
  · rw [hl.1]; simp; omega
  · intro i v hv
    by_cases hi : i < as.length
    · rw [List.getElem?_append_left (by simpa using hi)] at hv
      rw [List.getElem?_toArray, List.getElem?_append_left (by rw [hlen]; exact hi), hs]
      rw [List.getElem?_map] at hv
      rw [List.getElem?_map, List.getElem?_map]
      cases hq : as[i]? with
      | none => rw [hq] at hv; cases hv
      | some w => rw [hq] at hv; cases hv; rfl
    · rw [List.getElem?_append_right (by simpa using Nat.le_of_not_lt hi), List.getElem?_replicate] at hv
      split at hv <;> cases hv
/-! opening a method -/
theorem zCR.of {l : Launch} {G : zG} {M : zM} {d mc ms : Nat} {as : List Value} {I I' : zI} {J J' : Int64} {E E' : UInt64} {r : Option Value} (hl : l.stackTraces = false) (hy : plainName M.1.cls = true) (h1 : ∀ v ∈ as, v.category = 1) (hn : as.length ≤ M.2.2.1) {ls : List (Option Value)} (hls : as.map some ++ List.replicate (M.2.2.1 - as.length) none = ls)
    (body : ∀ X, zOK G X M d mc ms → zFin G X mc ms r I' J' E' → SW G X 0 0 0 ls [] I J E) : zCR l G M d mc ms as I J E r I' J' E' := by
  refine Met.ofW (cc := M.2.1) (maxL := M.2.2.1) (ret := M.2.2.2) hy rfl ?_
  intro p e s m args below meth c s₁ B hml hv
  obtain ⟨rfl, hR, hF⟩ := hv
  obtain ⟨arr, he, hh⟩ := zEntry (φ := G.2.2.1) (m := m) h1 hn
  rw [he]
  rw [hls] at hh
  refine body (p, l, e, _, s, m, _, below, meth, c, _) ⟨B.exec, B.bytes, hml, findClass_of_methodNamed B.named, B.notSynchronized, B.returns, hF, rfl, hl⟩ rfl s.heap [] arr hh ?_ hR va_S.rf
  rw [hml, ← hls]; simp; omega
theorem zCT.of {l : Launch} {G : zG} {M : zM} {d mc ms : Nat} {as : List Value} {I I' : zI} {J J' : Int64} {E E' : UInt64} {r : String} (hl : l.stackTraces = false) (hy : plainName M.1.cls = true) (h1 : ∀ v ∈ as, v.category = 1) (hn : as.length ≤ M.2.2.1) {ls : List (Option Value)} (hls : as.map some ++ List.replicate (M.2.2.1 - as.length) none = ls)
    (body : ∀ X, zOK G X M d mc ms → zFinT G X mc ms r I' J' E' → SW G X 0 0 0 ls [] I J E) : zCT l G M d mc ms as I J E r I' J' E' := by
  refine vx_ofW (cc := M.2.1) (maxL := M.2.2.1) (ret := M.2.2.2) hy rfl ?_
  intro p e s m args below meth c s₁ B hml hex hv
  obtain ⟨rfl, hR, hF⟩ := hv
  obtain ⟨arr, he, hh⟩ := zEntry (φ := G.2.2.1) (m := m) h1 hn
  rw [he]
  rw [hls] at hh
  refine body (p, l, e, _, s, m, _, below, meth, c, _) ⟨B.exec, B.bytes, hml, findClass_of_methodNamed B.named, B.notSynchronized, B.returns, hF, rfl, hl⟩ ⟨rfl, hex⟩ s.heap [] arr hh ?_ hR va_S.rf
  rw [hml, ← hls]; simp; omega
