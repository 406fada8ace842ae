/-! what holds at the law's start -/
abbrev zSC : String := "RumourHives$Script"
theorem zTW_start {s : State} {b : Nat} (hts : ∀ w ∈ lw_tbl, w.before #[Value.ref b] s = true) : zTW s := by
  intro w hw hg a
  by_cases hg1 : goodWord w = true
  · exact word_at (State.WarmedH.refl s) (good_of_word hg1) (h := hts w hw)
  · have hn : zNestB w = true := by simpa [zGood, hg1] using hg
    cases w <;> first | (exact absurd hn Bool.false_ne_true) | (exact va_Nw.use rfl (va_Nw.of rfl (hts _ hw))) | (exact Cond.privateMethod_warm (State.WarmedH.refl s) (hts _ hw))
set_option maxRecDepth 100000 in
theorem in_J0 : ∀ w ∈ u_ws RJ0 TJ0 4, w ∈ lw_tbl := by decide +kernel
set_option maxRecDepth 100000 in
theorem in_J60 : ∀ w ∈ u_ws RJx00060 TJx00060 6, w ∈ lw_tbl := by decide +kernel
set_option maxRecDepth 100000 in
theorem in_J73 : ∀ w ∈ u_ws RJx7c733 TJx7c733 6, w ∈ lw_tbl := by decide +kernel
theorem is_J0 : Cond.instantiable RJ0 4 ∈ lw_tbl := List.mem_of_getElem? (i := 739) (by decide +kernel)
theorem is_J60 : Cond.instantiable RJx00060 6 ∈ lw_tbl := List.mem_of_getElem? (i := 724) (by decide +kernel)
theorem is_J73 : Cond.instantiable RJx7c733 6 ∈ lw_tbl := List.mem_of_getElem? (i := 1071) (by decide +kernel)
theorem zKn1 {s : State} {b : Nat} (hts : ∀ w ∈ lw_tbl, w.before #[Value.ref b] s = true) {C : String} {T : u_T} {N k : Nat} (hin : ∀ w ∈ u_ws C T N, w ∈ lw_tbl) (hi : Cond.instantiable C N ∈ lw_tbl) (hk : vwCl[k]? = some (C, T, N)) : ∃ ci : ClassId × (Nat → Nat), ∀ q : vw_C, vwCl[k]? = some q → u_Kn s q.1 q.2.1 q.2.2 ci.1 ci.2 := by
  obtain ⟨c, i, h⟩ := u_known (n := N) hts hin (hts _ hi)
  exact ⟨(c, i), fun q hq => by rw [hk] at hq; cases hq; exact h⟩
theorem zKn {s : State} {b : Nat} (hts : ∀ w ∈ lw_tbl, w.before #[Value.ref b] s = true) : ∃ D : va_G, ∀ (k : Nat) (q : vw_C), vwCl[k]? = some q → u_Kn s q.1 q.2.1 q.2.2 (D.1 k) (D.2 k) := by
  have h : ∀ k : Nat, ∃ ci : ClassId × (Nat → Nat), ∀ q : vw_C, vwCl[k]? = some q → u_Kn s q.1 q.2.1 q.2.2 ci.1 ci.2 := by
    intro k
    match k with
    | 0 => exact zKn1 hts in_J0 is_J0 rfl
    | 1 => exact zKn1 hts (fun w hw => (zck1.2.2.1 w hw).1) iI_J4 rfl
    | 2 => exact zKn1 hts in_J60 is_J60 rfl
    | 3 => exact zKn1 hts in_J73 is_J73 rfl
    | 4 => exact zKn1 hts (fun w hw => (zck4.2.2.1 w hw).1) iI_X0 rfl
    | 5 => exact zKn1 hts (fun w hw => (zck5.2.2.1 w hw).1) iI_X1 rfl
    | 6 => exact zKn1 hts (fun w hw => (zck6.2.2.1 w hw).1) iI_X2 rfl
    | 7 => exact zKn1 hts (fun w hw => (zck7.2.2.1 w hw).1) iI_X3 rfl
    | 8 => exact zKn1 hts (fun w hw => (zck8.2.2.1 w hw).1) iI_X4 rfl
    | 9 => exact zKn1 hts (fun w hw => (zck9.2.2.1 w hw).1) iI_X5 rfl
    | 10 => exact zKn1 hts (fun w hw => (zck10.2.2.1 w hw).1) iI_X6 rfl
    | n + 11 => exact ⟨((0 : Nat), fun _ => 0), fun q hq => by cases hq⟩
  obtain ⟨f, hf⟩ := Classical.axiomOfChoice h
  exact ⟨(fun k => (f k).1, fun k => (f k).2), hf⟩
theorem zArr {s : State} {b : Nat} (hts : ∀ w ∈ lw_tbl, w.before #[Value.ref b] s = true) (hAO : cAO s) : ∃ cA : Nat → ClassId, ∀ (k : Nat) (q : ClassId × FieldType), (zTys cA)[k]? = some q → ArrOfT s q.1 q.2 ∧ va_RA s q.1 q.2 := by
  have prim : ∀ t : FieldType, Cond.arrayClass t ∈ lw_tbl → (∀ n, t ≠ .object n) → ∃ c : ClassId, ArrOfT s c t ∧ va_RA s c t := by
    intro t ht hno
    obtain ⟨c, k, comp, h1, h2, h3⟩ := Cond.arrayClass_spec (show (Cond.arrayClass t).holds #[Value.ref b] s none s [] = true from hts _ ht)
    refine ⟨c, fun n z => ⟨(fun k h => by cases h), k, h2, comp, h3⟩, ?_⟩
    cases t <;> first | exact h1 | exact absurd rfl (hno _)
  have obj : ∀ n : String, va_AO n s → ∃ c : ClassId, ArrOfT s c (.object n) ∧ va_RA s c (.object n) := by
    intro n hn
    obtain ⟨comp, c, k, h1, -, h3, h4, h5⟩ := Cond.arrayOver_spec (show (Cond.arrayOver (.object n)).holds #[] s none s [] = true from hn)
    exact ⟨c, fun N z => ⟨(fun k h => by cases h), k, h3, comp, h4⟩, k, comp, h3, h4, h1, h5⟩
  have h : ∀ k, ∃ c : ClassId, k < 7 → ArrOfT s c (zAt (k + 1)) ∧ va_RA s c (zAt (k + 1)) := by
    intro k
    match k with
    | 0 => obtain ⟨c, h⟩ := prim .int wArI (fun n h => by cases h); exact ⟨c, fun _ => h⟩
    | 1 => obtain ⟨c, h⟩ := prim .char wArC (fun n h => by cases h); exact ⟨c, fun _ => h⟩
    | 2 => obtain ⟨c, h⟩ := prim .byte wArB (fun n h => by cases h); exact ⟨c, fun _ => h⟩
    | 3 => obtain ⟨c, h⟩ := obj _ hAO.1; exact ⟨c, fun _ => h⟩
    | 4 => obtain ⟨c, h⟩ := obj _ hAO.2; exact ⟨c, fun _ => h⟩
    | 5 => obtain ⟨c, h⟩ := prim .long wArL (fun n h => by cases h); exact ⟨c, fun _ => h⟩
    | 6 => obtain ⟨c, h⟩ := prim .double wArD (fun n h => by cases h); exact ⟨c, fun _ => h⟩
    | n + 7 => exact ⟨(0 : Nat), fun h => absurd h (by omega)⟩
  obtain ⟨f, hf⟩ := Classical.axiomOfChoice h
  refine ⟨fun j => f (j - 1), fun k q hk => ?_⟩
  have hk7 : k < 7 := by
    have := (List.getElem?_eq_some_iff.mp hk).1
    simpa [zTys] using this
  rw [zTys_get hk7] at hk
  cases hk
  exact hf k hk7
/-- the premises' atoms, in a row -/
def zGf : Cond → List Cond → List Cond
  | .and a b, acc => zGf a (zGf b acc)
  | c, acc => c :: acc
theorem zGf_mem {w : Cond} : ∀ (c : Cond) (acc : List Cond), w ∈ zGf c acc → w ∈ flatC c ∨ w ∈ acc := by
  intro c
  induction c with
  | and a b iha ihb =>
    intro acc h
    rcases iha _ h with h1 | h1
    · exact Or.inl (List.mem_append_left _ h1)
    · rcases ihb _ h1 with h2 | h2
      · exact Or.inl (List.mem_append_right _ h2)
      · exact Or.inr h2
  | _ => intro acc h; rcases List.mem_cons.mp h with h1 | h1 <;> first | exact Or.inl (by rw [h1]; exact List.mem_singleton.mpr rfl) | exact Or.inr h1
def zGvn : List Cond := zGf (Cond.and given_1 narrow_1) []
theorem zGvn_ok {args : Array Value} {s : State} (h : (Cond.and given_1 narrow_1).before args s = true) : ∀ w ∈ zGvn, w.before args s = true := fun w hw => by
  rcases zGf_mem _ _ hw with h1 | h1
  · exact flat_of_before _ h w h1
  · cases h1
theorem zBlk {l : List Cond} {p n : Nat} {f : Nat → Cond} (h : (l.drop p).take n = (List.range n).map f) {j : Nat} (hj : j < n) : f j ∈ l := by
  have h1 : f j ∈ (List.range n).map f := List.mem_map.mpr ⟨j, List.mem_range.mpr hj, rfl⟩
  rw [← h] at h1
  exact List.mem_of_mem_drop (List.mem_of_mem_take h1)
def zI1 : List Nat := [572, 607, 623, 639, 810, 845, 859, 897, 919, 968, 982, 1039, 1077, 1256, 1297, 1298, 1299, 1306, 1357, 1375, 1376, 1403, 1404, 1405, 1406, 1407, 1408, 1409, 1410, 1411, 1412, 1445, 1450, 1472, 1484]
def zI2 : List Nat := [322, 339, 369, 406, 423, 443, 459, 477, 518, 549, 594, 633, 659, 690, 697, 711, 727, 732, 762, 798, 846, 875, 886, 898, 909, 922, 935, 945, 959, 971, 980, 991, 1037, 1071, 1099]
set_option maxRecDepth 100000 in
theorem zStrs_1 : ∀ j : Fin 35, lw_tbl[zI1.getD j.val 0]? = some (Cond.stringRef (zStrs.getD j.val ("", 0, "")).1 (zStrs.getD j.val ("", 0, "")).2.1 (zStrs.getD j.val ("", 0, "")).2.2) := by decide +kernel
set_option maxRecDepth 100000 in
theorem zStrs_2 : ∀ j : Fin 35, zGvn[zI2.getD j.val 0]? = some (Cond.exactly (.string (zStrs.getD j.val ("", 0, "")).1 (zStrs.getD j.val ("", 0, "")).2.1) "java/lang/String") := by decide +kernel
theorem zStrs_ok (q : String × Nat × String) (hq : q ∈ zStrs) : Cond.stringRef q.1 q.2.1 q.2.2 ∈ lw_tbl ∧ Cond.exactly (.string q.1 q.2.1) "java/lang/String" ∈ zGvn := by
  obtain ⟨j, hj⟩ := List.mem_iff_getElem?.mp hq
  have hn : j < 35 := (List.getElem?_eq_some_iff.mp hj).1
  have e : zStrs.getD j ("", 0, "") = q := by rw [List.getD_eq_getElem?_getD, hj]; rfl
  have h1 := zStrs_1 ⟨j, hn⟩
  have h2 := zStrs_2 ⟨j, hn⟩
  simp only [e] at h1 h2
  exact ⟨List.mem_of_getElem? h1, List.mem_of_getElem? h2⟩
def zJ0 : List Nat := [875, 886, 898, 909, 922, 935, 945, 959, 971, 980]
def zJ1 : List Nat := [876, 887, 899, 910, 923, 936, 946, 960, 972, 981]
def zJ2 : List Nat := [877, 888, 900, 911, 924, 937, 947, 961, 973, 982]
def zJ3 : List Nat := [878, 889, 901, 912, 925, 938, 948, 962, 974, 983]
def zJs : List Nat := [1403, 1404, 1405, 1406, 1407, 1408, 1409, 1410, 1411, 1412]
def zJb : List Nat := [879, 890, 902, 913, 926, 939, 949, 963, 975, 984]
set_option maxRecDepth 100000 in
theorem zFrm_1 : ∀ k : Fin 10, lw_tbl[zJs.getD k.val 0]? = some (Cond.stringRef zSC (59 + 2 * k.val) (zFtx k.val)) ∧ zGvn[zJ0.getD k.val 0]? = some (Cond.exactly (.string zSC (59 + 2 * k.val)) "java/lang/String") ∧ zGvn[zJ1.getD k.val 0]? = some (Cond.eq (.field (.string zSC (59 + 2 * k.val)) "java/lang/String" "coder" "B") (.int 0)) ∧ zGvn[zJ2.getD k.val 0]? = some (Cond.arrayOf (.field (.string zSC (59 + 2 * k.val)) "java/lang/String" "value" "[B") .byte) ∧ zGvn[zJ3.getD k.val 0]? = some (Cond.eq (.length (.field (.string zSC (59 + 2 * k.val)) "java/lang/String" "value" "[B")) (.int (Int32.ofNat (zFlen.getD k.val 0)))) := by decide +kernel
theorem zFrm_ok1 (k : Fin 10) : Cond.stringRef zSC (59 + 2 * k.val) (zFtx k.val) ∈ lw_tbl ∧ Cond.exactly (.string zSC (59 + 2 * k.val)) "java/lang/String" ∈ zGvn ∧ Cond.eq (.field (.string zSC (59 + 2 * k.val)) "java/lang/String" "coder" "B") (.int 0) ∈ zGvn ∧ Cond.arrayOf (.field (.string zSC (59 + 2 * k.val)) "java/lang/String" "value" "[B") .byte ∈ zGvn ∧ Cond.eq (.length (.field (.string zSC (59 + 2 * k.val)) "java/lang/String" "value" "[B")) (.int (Int32.ofNat (zFlen.getD k.val 0))) ∈ zGvn := by
  obtain ⟨h1, h2, h3, h4, h5⟩ := zFrm_1 k
  exact ⟨List.mem_of_getElem? h1, List.mem_of_getElem? h2, List.mem_of_getElem? h3, List.mem_of_getElem? h4, List.mem_of_getElem? h5⟩
set_option maxRecDepth 100000 in
theorem zFrm_2 : ∀ k : Fin 10, (zGvn.drop (zJb.getD k.val 0)).take (zFlen.getD k.val 0) = (List.range (zFlen.getD k.val 0)).map (fun j => Cond.eq (.elem (.field (.string zSC (59 + 2 * k.val)) "java/lang/String" "value" "[B") (.int (Int32.ofNat j))) (.int ((zFbyt.getD k.val []).getD j 0))) := by decide +kernel
theorem zFrm_ok2 (k : Fin 10) (j : Fin 10) (hj : j.val < zFlen.getD k.val 0) : Cond.eq (.elem (.field (.string zSC (59 + 2 * k.val)) "java/lang/String" "value" "[B") (.int (Int32.ofNat j.val))) (.int ((zFbyt.getD k.val []).getD j.val 0)) ∈ zGvn := zBlk (zFrm_2 k) hj
set_option maxRecDepth 100000 in
theorem zDigitOnes : (zGvn.drop 14).take 100 = (List.range 100).map (fun j => Cond.eq (.elem (.static "java/lang/Integer" "DigitOnes" "[B") (.int (Int32.ofNat j))) (.int (nI (48 + j % 10)))) := by decide +kernel
set_option maxRecDepth 100000 in
theorem zDigitTens : (zGvn.drop 117).take 100 = (List.range 100).map (fun j => Cond.eq (.elem (.static "java/lang/Integer" "DigitTens" "[B") (.int (Int32.ofNat j))) (.int (nI (48 + j / 10)))) := by decide +kernel
theorem zDig_ok (j : Fin 100) : Cond.eq (.elem (.static "java/lang/Integer" "DigitOnes" "[B") (.int (Int32.ofNat j.val))) (.int (nI (48 + j.val % 10))) ∈ zGvn ∧ Cond.eq (.elem (.static "java/lang/Integer" "DigitTens" "[B") (.int (Int32.ofNat j.val))) (.int (nI (48 + j.val / 10))) ∈ zGvn := ⟨zBlk zDigitOnes j.isLt, zBlk zDigitTens j.isLt⟩
set_option maxRecDepth 100000 in
theorem zFl_ok : (Cond.arrayOf (.static "java/lang/Integer" "DigitOnes" "[B") .byte ∈ zGvn ∧ Cond.eq (.length (.static "java/lang/Integer" "DigitOnes" "[B")) (.int (Int32.ofNat 100)) ∈ zGvn) ∧ (Cond.arrayOf (.static "java/lang/Integer" "DigitTens" "[B") .byte ∈ zGvn ∧ Cond.eq (.length (.static "java/lang/Integer" "DigitTens" "[B")) (.int (Int32.ofNat 100)) ∈ zGvn) ∧ Cond.eq (.static "java/lang/String" "COMPACT_STRINGS" "Z") (.int 1) ∈ zGvn ∧ Cond.isRef (.static Bundle.tN "UNASSIGNED_STACK" Bundle.steD) ∈ zGvn ∧ Cond.isRef (.static Bundle.tN "SUPPRESSED_SENTINEL" Bundle.listD) ∈ zGvn ∧ Cond.isRef (.static zPC "SIOOBE_FORMATTER" zPD) ∈ zGvn := ⟨⟨(List.mem_of_getElem? (i := 12) (by decide +kernel)), (List.mem_of_getElem? (i := 13) (by decide +kernel))⟩, ⟨(List.mem_of_getElem? (i := 115) (by decide +kernel)), (List.mem_of_getElem? (i := 116) (by decide +kernel))⟩, (List.mem_of_getElem? (i := 4) (by decide +kernel)), (List.mem_of_getElem? (i := 5) (by decide +kernel)), (List.mem_of_getElem? (i := 6) (by decide +kernel)), (List.mem_of_getElem? (i := 7) (by decide +kernel))⟩
set_option maxRecDepth 100000 in
theorem zNcs_ok (q : String × String) (hq : q ∈ zNcs) : Cond.not (Cond.castable q.1 q.2) ∈ zGvn := by
  unfold zNcs at hq
  simp only [List.mem_cons, List.not_mem_nil, or_false] at hq
  rcases hq with rfl | rfl | rfl | rfl | rfl
  · exact (List.mem_of_getElem? (i := 255) (by decide +kernel))
  · exact (List.mem_of_getElem? (i := 256) (by decide +kernel))
  · exact (List.mem_of_getElem? (i := 226) (by decide +kernel))
  · exact (List.mem_of_getElem? (i := 257) (by decide +kernel))
  · exact (List.mem_of_getElem? (i := 242) (by decide +kernel))
theorem zFrm_ok3 : ∀ i j : Fin 10, Int32.ofNat (zFlen.getD i.val 0) = Int32.ofNat (zFlen.getD j.val 0) → (zFbyt.getD i.val []).getD 0 0 = (zFbyt.getD j.val []).getD 0 0 → i = j := by decide +kernel
theorem zFrm_ok4 : ∀ i : Fin 10, 0 < zFlen.getD i.val 0 ∧ zFlen.getD i.val 0 < 11 := by decide
theorem wLs1 : Cond.laysStatic "java/lang/String" "COMPACT_STRINGS" "Z" ∈ lw_tbl := List.mem_of_getElem? (i := 280) (by decide +kernel)
theorem wLs2 : Cond.laysStatic Bundle.tN "UNASSIGNED_STACK" Bundle.steD ∈ lw_tbl := List.mem_of_getElem? (i := 554) (by decide +kernel)
theorem wLs3 : Cond.laysStatic Bundle.tN "SUPPRESSED_SENTINEL" Bundle.listD ∈ lw_tbl := List.mem_of_getElem? (i := 556) (by decide +kernel)
theorem wLs4 : Cond.laysStatic zPC "SIOOBE_FORMATTER" zPD ∈ lw_tbl := List.mem_of_getElem? (i := 1136) (by decide +kernel)
theorem wLs5 : Cond.laysStatic "java/lang/Integer" "DigitOnes" "[B" ∈ lw_tbl := List.mem_of_getElem? (i := 1206) (by decide +kernel)
theorem wLs6 : Cond.laysStatic "java/lang/Integer" "DigitTens" "[B" ∈ lw_tbl := List.mem_of_getElem? (i := 1208) (by decide +kernel)
theorem wIn1 : Cond.initialized "java/lang/String" ∈ lw_tbl := List.mem_of_getElem? (i := 69) (by decide +kernel)
theorem wIn2 : Cond.initialized Bundle.tN ∈ lw_tbl := List.mem_of_getElem? (i := 72) (by decide +kernel)
theorem wIn4 : Cond.initialized zPC ∈ lw_tbl := List.mem_of_getElem? (i := 88) (by decide +kernel)
theorem wIn5 : Cond.initialized "java/lang/Integer" ∈ lw_tbl := List.mem_of_getElem? (i := 82) (by decide +kernel)
theorem wAo1 : Cond.arrayOver (.object "RumourHives$Rumour") ∈ lw_tbl := List.mem_of_getElem? (i := 133) (by decide +kernel)
theorem wAo2 : Cond.arrayOver (.object "RumourHives$Scene") ∈ lw_tbl := List.mem_of_getElem? (i := 209) (by decide +kernel)
section ST
variable {s : State} {b : Nat} {A : Nat → Prop}
theorem zStr_start (hts : ∀ w ∈ lw_tbl, w.before #[Value.ref b] s = true) (hgv : ∀ w ∈ zGvn, w.before #[Value.ref b] s = true) : zStr s := by
  intro q hq
  obtain ⟨h1, h2⟩ := zStrs_ok q hq
  obtain ⟨a, c, cA, kA, q1, -⟩ := Cond.exactly_spec (args := #[Value.ref b]) (first := s) (o := none) (s := s) (idx := []) (t := .string q.1 q.2.1) (cls := "java/lang/String") (hgv _ h2)
  exact ⟨a, vk_R.of (hts _ h1) q1⟩
/-- one form's text -/
theorem zFrm1 (hts : ∀ w ∈ lw_tbl, w.before #[Value.ref b] s = true) (hgv : ∀ w ∈ zGvn, w.before #[Value.ref b] s = true) (hA : ∀ a : Nat, a < s.heap.size → ¬ A a) (k : Fin 10) : ∃ p : Nat × Nat, vk_R zSC (59 + 2 * k.val) (zFtx k.val) p.1 s ∧ va_O "java/lang/String" p.1 A s s.heap ∧ va_OF "java/lang/String" "coder" "B" (.int 0) p.1 A s s.heap ∧ va_OF "java/lang/String" "value" "[B" (.ref p.2) p.1 A s s.heap ∧ va_T .byte p.2 (zFlen.getD k.val 0) (fun j => .int ((zFbyt.getD k.val []).getD j 0)) A s s.heap := by
  obtain ⟨g1, g2, g3, g4, g5⟩ := zFrm_ok1 k
  have h10 := zFrm_ok4 k
  obtain ⟨adK, adV, h1, h2⟩ := vk_Sof (args := #[Value.ref b]) (s := s) (N := 1) (tm := fun _ => .string zSC (59 + 2 * k.val)) (len := [zFlen.getD k.val 0]) (byt := [zFbyt.getD k.val []]) (A := A) (fun i hi => by
    rw [show i = 0 by omega]; show zFlen.getD k.val 0 < 2 ^ 31; omega) (fun i hi => hgv _ g2) (fun i hi => hgv _ g3) (fun i hi => hgv _ g4) (fun i hi => by
    rw [show i = 0 by omega]; exact hgv _ g5) (fun i hi j hj => by
    obtain rfl : i = 0 := by omega
    have hj : j < zFlen.getD k.val 0 := hj
    exact hgv _ (zFrm_ok2 k ⟨j, by omega⟩ hj)) (fun i j hi hj hij => absurd (show i = j by omega) hij) hA
  obtain ⟨h3, h4, h5, h6⟩ := h1.1 0 (by decide)
  exact ⟨(adK 0, adV 0), vk_R.of (hts _ g1) (h2 0 (by decide)), h3, h4, h5, h6⟩
theorem zFrmS (hts : ∀ w ∈ lw_tbl, w.before #[Value.ref b] s = true) (hgv : ∀ w ∈ zGvn, w.before #[Value.ref b] s = true) (hA : ∀ a : Nat, a < s.heap.size → ¬ A a) : ∃ aK aV : Nat → Nat, (∀ k, k < 10 → vk_R zSC (59 + 2 * k) (zFtx k) (aK k) s) ∧ vk_S 10 zFlen zFbyt aK aV A s s.heap := by
  have h : ∀ k : Nat, ∃ p : Nat × Nat, k < 10 → vk_R zSC (59 + 2 * k) (zFtx k) p.1 s ∧ va_O "java/lang/String" p.1 A s s.heap ∧ va_OF "java/lang/String" "coder" "B" (.int 0) p.1 A s s.heap ∧ va_OF "java/lang/String" "value" "[B" (.ref p.2) p.1 A s s.heap ∧ va_T .byte p.2 (zFlen.getD k 0) (fun j => .int ((zFbyt.getD k []).getD j 0)) A s s.heap := by
    intro k
    by_cases hk : k < 10
    · obtain ⟨p, hp⟩ := zFrm1 hts hgv hA ⟨k, hk⟩
      exact ⟨p, fun _ => hp⟩
    · exact ⟨(0, 0), fun h => absurd h hk⟩
  obtain ⟨f, hf⟩ := Classical.axiomOfChoice h
  refine ⟨fun k => (f k).1, fun k => (f k).2, fun k hk => (hf k hk).1, fun i hi => (hf i hi).2, fun i j hi hj e => ?_⟩
  obtain ⟨-, -, -, ⟨cf, k1, n1, f1, c1, o1, -, o3, -, o5, -⟩, ⟨t1, u1, -, -, -, u5, u6, -⟩⟩ := hf i hi
  obtain ⟨-, -, -, ⟨cf2, k2, n2, f2, c2, p1, -, p3, -, p5, -⟩, ⟨t2, v1, -, -, -, v5, v6, -⟩⟩ := hf j hj
  have e : (f i).1 = (f j).1 := e
  rw [e, p3] at o3
  cases o3
  cases p1.symm.trans o1
  have e2 : (f j).2 = (f i).2 := by
    have := p5.symm.trans o5
    injection this with h1
    injection h1
  rw [e2, u1] at v1
  cases v1
  have b1 := u6 0 (zFrm_ok4 ⟨i, hi⟩).1
  have b2 := v6 0 (zFrm_ok4 ⟨j, hj⟩).1
  have b3 : (zFbyt.getD i []).getD 0 0 = (zFbyt.getD j []).getD 0 0 := by
    have := b1.symm.trans b2
    injection this with h1
    injection h1
  exact congrArg Fin.val (zFrm_ok3 ⟨i, hi⟩ ⟨j, hj⟩ (u5.symm.trans v5) b3)
theorem zDigS (hts : ∀ w ∈ lw_tbl, w.before #[Value.ref b] s = true) (hgv : ∀ w ∈ zGvn, w.before #[Value.ref b] s = true) (hA : ∀ a : Nat, a < s.heap.size → ¬ A a) : ∃ t1 t2 : Nat, (va_Z "java/lang/Integer" "DigitOnes" "[B" (.ref t1) A s s.heap ∧ va_T .byte t1 100 (fun j => .int (nI (48 + j % 10))) A s s.heap) ∧ (va_Z "java/lang/Integer" "DigitTens" "[B" (.ref t2) A s s.heap ∧ va_T .byte t2 100 (fun j => .int (nI (48 + j / 10))) A s s.heap) := by
  obtain ⟨⟨g1, g2⟩, ⟨g3, g4⟩, -⟩ := zFl_ok
  obtain ⟨t1, h1, h2⟩ := va_Tof (args := #[Value.ref b]) (s := s) (tm := .static "java/lang/Integer" "DigitOnes" "[B") (ty := .byte) (N := 100) (f := fun j => .int (nI (48 + j % 10))) (A := A) (by decide) (hgv _ g1) (va_eqt (hgv _ g2)) (fun j hj => va_eqt (hgv _ (zDig_ok ⟨j, hj⟩).1)) hA
  obtain ⟨t2, h3, h4⟩ := va_Tof (args := #[Value.ref b]) (s := s) (tm := .static "java/lang/Integer" "DigitTens" "[B") (ty := .byte) (N := 100) (f := fun j => .int (nI (48 + j / 10))) (A := A) (by decide) (hgv _ g3) (va_eqt (hgv _ g4)) (fun j hj => va_eqt (hgv _ (zDig_ok ⟨j, hj⟩).2)) hA
  exact ⟨t1, t2, ⟨va_Zof (hts _ wLs5) (hts _ wIn5) h1 hA, h2⟩, va_Zof (hts _ wLs6) (hts _ wIn5) h3 hA, h4⟩
def phi0 (aK aV : Nat → Nat) (t t1 t2 b : Nat) : Nat → Nat := fun o => if o < 300 then 0 else if o < 310 then aK (o - 300) else if o < 330 then aV (o - 320) else if o = 340 then t else if o = 350 then t1 else if o = 351 then t2 else if o = 400 then b else 0
/-- the law's own start -/
theorem zStart (hts : ∀ w ∈ lw_tbl, w.before #[Value.ref b] s = true) (hgv : ∀ w ∈ zGvn, w.before #[Value.ref b] s = true) : ∃ (D : va_G) (cA : Nat → ClassId) (φ0 : Nat → Nat), φ0 400 = b ∧ φ0 298 = 0 ∧ zFacts (D, cA, φ0, s.heap.size) s s.heap ∧ cAO s ∧ zNcF s := by
  have hAO : cAO s := ⟨va_AO.of (hts _ wAo1), va_AO.of (hts _ wAo2)⟩
  have hA : ∀ a : Nat, a < s.heap.size → ¬ (fun q : Nat => s.heap.size ≤ q) a := fun a h => Nat.not_le.mpr h
  obtain ⟨D, hD⟩ := zKn hts
  obtain ⟨cA, hcA⟩ := zArr hts hAO
  obtain ⟨aK, aV, hK, hS⟩ := zFrmS (A := fun q : Nat => s.heap.size ≤ q) hts hgv hA
  obtain ⟨t1, t2, hd1, hd2⟩ := zDigS (A := fun q : Nat => s.heap.size ≤ q) hts hgv hA
  obtain ⟨-, -, g5, g6, g7, g8⟩ := zFl_ok
  have hC : va_Z "java/lang/String" "COMPACT_STRINGS" "Z" (.int 1) (fun q : Nat => s.heap.size ≤ q) s s.heap := va_Zof (hts _ wLs1) (hts _ wIn1) (va_eqt (hgv _ g5)) hA
  obtain ⟨t, hF⟩ : ∃ t : Nat, va_Z zPC "SIOOBE_FORMATTER" zPD .null (fun q : Nat => s.heap.size ≤ q) s s.heap ∨ va_Z zPC "SIOOBE_FORMATTER" zPD (.ref t) (fun q : Nat => s.heap.size ≤ q) s s.heap := by
    rcases va_Zqof (A := fun q : Nat => s.heap.size ≤ q) (hts _ wLs4) (hts _ wIn4) (hgv _ g8) hA with h | ⟨t, h⟩
    · exact ⟨0, Or.inl h⟩
    · exact ⟨t, Or.inr h⟩
  refine ⟨D, cA, phi0 aK aV t t1 t2 b, rfl, rfl, ⟨zTW_start hts, ⟨hD, hcA⟩, vx_Zqof (hts _ wLs2) (hts _ wIn2) (hgv _ g6) hA, vx_Zqof (hts _ wLs3) (hts _ wIn2) (hgv _ g7) hA, zStr_start hts hgv, Nat.le_refl _, ?_, ?_, hC, hF, hd1, hd2⟩, hAO, fun q hq => va_Nc.of (hgv _ (zNcs_ok q hq))⟩
  · intro k hk
    have e : phi0 aK aV t t1 t2 b (300 + k) = aK k := by unfold phi0; rw [if_neg (by omega), if_pos (by omega), show 300 + k - 300 = k by omega]
    show vk_R zSC (59 + 2 * k) (zFtx k) (phi0 aK aV t t1 t2 b (300 + k)) s
    rw [e]; exact hK k hk
  · refine ⟨fun i hi => ?_, fun i j hi hj e => ?_⟩
    · have e1 : phi0 aK aV t t1 t2 b (300 + i) = aK i := by unfold phi0; rw [if_neg (by omega), if_pos (by omega), show 300 + i - 300 = i by omega]
      have e2 : phi0 aK aV t t1 t2 b (320 + i) = aV i := by unfold phi0; rw [if_neg (by omega), if_neg (by omega), if_pos (by omega), show 320 + i - 320 = i by omega]
      show va_O "java/lang/String" (phi0 aK aV t t1 t2 b (300 + i)) _ s s.heap ∧ va_OF "java/lang/String" "coder" "B" (.int 0) (phi0 aK aV t t1 t2 b (300 + i)) _ s s.heap ∧ va_OF "java/lang/String" "value" "[B" (.ref (phi0 aK aV t t1 t2 b (320 + i))) (phi0 aK aV t t1 t2 b (300 + i)) _ s s.heap ∧ va_T .byte (phi0 aK aV t t1 t2 b (320 + i)) _ _ _ s s.heap
      rw [e1, e2]; exact hS.1 i hi
    · have e1 : ∀ i, i < 10 → phi0 aK aV t t1 t2 b (300 + i) = aK i := fun i hi => by unfold phi0; rw [if_neg (by omega), if_pos (by omega), show 300 + i - 300 = i by omega]
      have e : phi0 aK aV t t1 t2 b (300 + i) = phi0 aK aV t t1 t2 b (300 + j) := e
      rw [e1 i hi, e1 j hj] at e
      exact hS.2 i j hi hj e
/-- other addresses for what is made -/
theorem zFacts.phi {D : va_G} {cA : Nat → ClassId} {φ0 φ1 : Nat → Nat} {base : Nat} {U : State} {H : Heap} (e : ∀ o, 201 ≤ o → φ1 o = φ0 o) (h : zFacts (D, cA, φ0, base) U H) : zFacts (D, cA, φ1, base) U H := by
  obtain ⟨h1, h2, h3, h4, h5, h6, ⟨f1, f2, f3, f4, ⟨f5, f6⟩, f7, f8⟩⟩ := h
  have eK : (fun k => φ1 (300 + k)) = (fun k => φ0 (300 + k)) := funext (fun k => e _ (by omega))
  have eV : (fun k => φ1 (320 + k)) = (fun k => φ0 (320 + k)) := funext (fun k => e _ (by omega))
  refine ⟨h1, h2, h3, h4, h5, h6, ⟨fun k hk => ?_, ?_, f3, ?_, ⟨?_, ?_⟩, ?_, ?_⟩⟩
  · show vk_R _ _ _ (φ1 (300 + k)) U
    rw [e _ (by omega)]; exact f1 k hk
  · show vk_S 10 zFlen zFbyt (fun k => φ1 (300 + k)) (fun k => φ1 (320 + k)) _ U H
    rw [eK, eV]; exact f2
  · show _ ∨ va_Z zPC "SIOOBE_FORMATTER" zPD (.ref (φ1 340)) _ U H
    rw [e _ (by decide)]; exact f4
  · show va_Z _ _ _ (.ref (φ1 350)) _ U H
    rw [e _ (by decide)]; exact f5
  · show va_T _ (φ1 350) _ _ _ U H
    rw [e _ (by decide)]; exact f6
  · show va_Z _ _ _ (.ref (φ1 351)) _ U H
    rw [e _ (by decide)]; exact f7
  · show va_T _ (φ1 351) _ _ _ U H
    rw [e _ (by decide)]; exact f8
end ST
