/-! one call, of both sides: the changes, the means, the plain answers -/
set_option maxRecDepth 100000 in
theorem zDeq_ok : ∀ s : Fin 109, ∀ n : Fin 12, FP.dcmp (FP.ddiv (FP.i2d (nI s.val)) (FP.i2d (nI (n.val + 1)))) (FP.ddiv (FP.i2d (nI s.val)) (FP.i2d (nI (n.val + 1)))) = some .eq := by decide +kernel
set_option maxRecDepth 100000 in
theorem zFeq_ok : ∀ s : Fin 13, ∀ n : Fin 12, FP.dcmp (FP.f2d (FP.fdiv (FP.i2f (nI s.val)) (FP.i2f (nI (n.val + 1))))) (FP.f2d (FP.fdiv (FP.i2f (nI s.val)) (FP.i2f (nI (n.val + 1))))) = some .eq := by decide +kernel
theorem mean_n64 {S : zS} {n t : Nat} (hm : mNow S n t) (h : ¬ n = 0) : FP.dcmp (FP.ddiv (FP.i2d (nI (mDsum (S 13) n))) (FP.i2d (nI n))) (FP.ddiv (FP.i2d (nI (mDsum (S 13) n))) (FP.i2d (nI n))) = some .eq := by
  obtain ⟨h0, hz, h1, h4, hls, hru⟩ := hm
  have h9 := mDsum_le (V := S 13) hz (fun e he => (hls e he).2.1)
  have h8 := zDeq_ok ⟨mDsum (S 13) n, by omega⟩ ⟨n - 1, by omega⟩
  simpa [show n - 1 + 1 = n by omega] using h8
theorem share_n64 {S : zS} {n t : Nat} (hm : mNow S n t) (h : ¬ n = 0) : vf_n64 (FP.f2d (FP.fdiv (FP.i2f (nI (mGsp (S 13) n t))) (FP.i2f (nI n)))) ∧ FP.dcmp (FP.f2d (FP.fdiv (FP.i2f (nI (mGsp (S 13) n t))) (FP.i2f (nI n)))) (FP.f2d (FP.fdiv (FP.i2f (nI (mGsp (S 13) n t))) (FP.i2f (nI n)))) = some .eq := by
  have hz := hm.2.1
  have h9 : mGsp (S 13) n t ≤ n := zcnt_le n _
  have h8 := zFeq_ok ⟨mGsp (S 13) n t, by omega⟩ ⟨n - 1, by omega⟩
  have h7 := zF2d_ok ⟨mGsp (S 13) n t, by omega⟩ ⟨n - 1, by omega⟩
  exact ⟨by simpa [show n - 1 + 1 = n by omega] using h7, by simpa [show n - 1 + 1 = n by omega] using h8⟩
theorem zRef9 {S : zS} {n t x y : Nat} : zRef S n t 9 x y = 0 ∨ zRef S n t 9 x y = 2 := by
  show (if 1 ≤ x ∧ x ≤ 20 then 0 else 2) = 0 ∨ (if 1 ≤ x ∧ x ≤ 20 then 0 else 2) = 2
  split <;> omega

section OS
variable {l : Launch} {G : zG} {S : zS} {J : Int64} {E : UInt64}
set_option maxHeartbeats 2000000 in
theorem op_addListener (hl : l.stackTraces = false) (H : zInv S S) {x : Nat} (hx : x < 2 ^ 32) {y : Nat} (hy : y < 2 ^ 32) : zOpW l G S J E mL_addListener hhL_addListener [.ref 0, zi x, zi y, .ref 23] mX6_addListener [.ref 12, zi x, zi y] := by
  have hw := H.1.2.1.now
  have hh := H.1.2.2.1.hist
  have hc : zRef S (S 26 0) (S 25 4) 0 x y = 0 ∨ zRef S (S 26 0) (S 25 4) 0 x y = 2 ∨ zRef S (S 26 0) (S 25 4) 0 x y = 3 := by
    show zrAdd (S 26 0) x y = 0 ∨ zrAdd (S 26 0) x y = 2 ∨ zrAdd (S 26 0) x y = 3
    unfold zrAdd
    (repeat' split) <;> omega
  refine zOpW.chg H (k := 0) (x := x) (y := y) (fun h0 => rL_addListener hl (c_X5_addListener hl hw hh hx hy h0)) (fun h0 => ?_) (fun Q J1 hm hc8 => c_X6_addListener hl hm hc8 hx hy) ⟨by decide, by decide⟩
  · rcases hc with e | e | e
    · exact absurd e h0
    · rw [e]; exact ⟨tL_addListener_1 hl (t2_X5_addListener hl hw hx hy e), by decide⟩
    · rw [e]; exact ⟨tL_addListener_2 hl (t3_X5_addListener hl hw hx hy e), by decide⟩
set_option maxHeartbeats 2000000 in
theorem op_link (hl : l.stackTraces = false) (H : zInv S S) {x : Nat} (hx : x < 2 ^ 32) {y : Nat} (hy : y < 2 ^ 32) : zOpW l G S J E mL_link hhL_link [.ref 0, zi x, zi y, .ref 23] mX6_link [.ref 12, zi x, zi y] := by
  have hw := H.1.2.1.now
  have hh := H.1.2.2.1.hist
  have hc : zRef S (S 26 0) (S 25 4) 1 x y = 0 ∨ zRef S (S 26 0) (S 25 4) 1 x y = 1 ∨ zRef S (S 26 0) (S 25 4) 1 x y = 2 ∨ zRef S (S 26 0) (S 25 4) 1 x y = 3 := by
    show zrJoin S (S 26 0) x y = 0 ∨ zrJoin S (S 26 0) x y = 1 ∨ zrJoin S (S 26 0) x y = 2 ∨ zrJoin S (S 26 0) x y = 3
    unfold zrJoin
    (repeat' split) <;> omega
  refine zOpW.chg H (k := 1) (x := x) (y := y) (fun h0 => rL_link hl (c_X5_link hl hw hh hx hy h0)) (fun h0 => ?_) (fun Q J1 hm hc8 => c_X6_link hl hm hc8 hx hy) ⟨by decide, by decide⟩
  · rcases hc with e | e | e | e
    · exact absurd e h0
    · rw [e]; exact ⟨tL_link_1 hl (t1_X5_link hl hw hx hy e), by decide⟩
    · rw [e]; exact ⟨tL_link_2 hl (t2_X5_link hl hw hx hy e), by decide⟩
    · rw [e]; exact ⟨tL_link_3 hl (t3_X5_link hl hw hx hy e), by decide⟩
set_option maxHeartbeats 2000000 in
theorem op_unlink (hl : l.stackTraces = false) (H : zInv S S) {x : Nat} (hx : x < 2 ^ 32) {y : Nat} (hy : y < 2 ^ 32) : zOpW l G S J E mL_unlink hhL_unlink [.ref 0, zi x, zi y, .ref 23] mX6_unlink [.ref 12, zi x, zi y] := by
  have hw := H.1.2.1.now
  have hh := H.1.2.2.1.hist
  have hc : zRef S (S 26 0) (S 25 4) 2 x y = 0 ∨ zRef S (S 26 0) (S 25 4) 2 x y = 1 ∨ zRef S (S 26 0) (S 25 4) 2 x y = 4 := by
    show zrCut S (S 26 0) x y = 0 ∨ zrCut S (S 26 0) x y = 1 ∨ zrCut S (S 26 0) x y = 4
    unfold zrCut
    (repeat' split) <;> omega
  refine zOpW.chg H (k := 2) (x := x) (y := y) (fun h0 => rL_unlink hl (c_X5_unlink hl hw hh hx hy h0)) (fun h0 => ?_) (fun Q J1 hm hc8 => c_X6_unlink hl hm hc8 hx hy) ⟨by decide, by decide⟩
  · rcases hc with e | e | e
    · exact absurd e h0
    · rw [e]; exact ⟨tL_unlink_1 hl (t1_X5_unlink hl hw hx hy e), by decide⟩
    · rw [e]; exact ⟨tL_unlink_2 hl (t4_X5_unlink hl hw hx hy e), by decide⟩
set_option maxHeartbeats 2000000 in
theorem op_startRumour (hl : l.stackTraces = false) (H : zInv S S) {x : Nat} (hx : x < 2 ^ 32) {y : Nat} (hy : y < 2 ^ 32) : zOpW l G S J E mL_startRumour hhL_startRumour [.ref 0, zi x, zi y, .ref 23] mX6_startRumour [.ref 12, zi x, zi y] := by
  have hw := H.1.2.1.now
  have hh := H.1.2.2.1.hist
  have hc : zRef S (S 26 0) (S 25 4) 3 x y = 0 ∨ zRef S (S 26 0) (S 25 4) 3 x y = 1 ∨ zRef S (S 26 0) (S 25 4) 3 x y = 2 ∨ zRef S (S 26 0) (S 25 4) 3 x y = 3 := by
    show zrStart (S 26 0) (S 25 4) x y = 0 ∨ zrStart (S 26 0) (S 25 4) x y = 1 ∨ zrStart (S 26 0) (S 25 4) x y = 2 ∨ zrStart (S 26 0) (S 25 4) x y = 3
    unfold zrStart
    (repeat' split) <;> omega
  refine zOpW.chg H (k := 3) (x := x) (y := y) (fun h0 => rL_startRumour hl (c_X5_startRumour hl hw hh hx hy h0)) (fun h0 => ?_) (fun Q J1 hm hc8 => c_X6_startRumour hl hm hc8 hx hy) ⟨by decide, by decide⟩
  · rcases hc with e | e | e | e
    · exact absurd e h0
    · rw [e]; exact ⟨tL_startRumour_1 hl (t1_X5_startRumour hl hw hx hy e), by decide⟩
    · rw [e]; exact ⟨tL_startRumour_2 hl (t2_X5_startRumour hl hw hx hy e), by decide⟩
    · rw [e]; exact ⟨tL_startRumour_3 hl (t3_X5_startRumour hl hw hx hy e), by decide⟩
set_option maxHeartbeats 2000000 in
theorem op_deny (hl : l.stackTraces = false) (H : zInv S S) {x : Nat} (hx : x < 2 ^ 32) : zOpW l G S J E mL_deny hhL_deny [.ref 0, zi x, .ref 23] mX6_deny [.ref 12, zi x] := by
  have hw := H.1.2.1.now
  have hh := H.1.2.2.1.hist
  have hc : zRef S (S 26 0) (S 25 4) 5 x 0 = 0 ∨ zRef S (S 26 0) (S 25 4) 5 x 0 = 1 ∨ zRef S (S 26 0) (S 25 4) 5 x 0 = 3 := by
    show zrSil S (S 25 4) x = 0 ∨ zrSil S (S 25 4) x = 1 ∨ zrSil S (S 25 4) x = 3
    unfold zrSil
    (repeat' split) <;> omega
  refine zOpW.chg H (k := 5) (x := x) (y := 0) (fun h0 => rL_deny hl (c_X5_deny hl hw hh hx h0)) (fun h0 => ?_) (fun Q J1 hm hc8 => c_X6_deny hl hm hc8 hx) ⟨by decide, by decide⟩
  · rcases hc with e | e | e
    · exact absurd e h0
    · rw [e]; exact ⟨tL_deny_1 hl (t1_X5_deny hl hw hx e), by decide⟩
    · rw [e]; exact ⟨tL_deny_2 hl (t3_X5_deny hl hw hx e), by decide⟩
set_option maxHeartbeats 2000000 in
theorem op_answer (hl : l.stackTraces = false) (H : zInv S S) {x : Nat} (hx : x < 2 ^ 32) {y : Nat} (hy : y < 2 ^ 32) : zOpW l G S J E mL_answer hhL_answer [.ref 0, zi x, zi y, .ref 23] mX6_answer [.ref 12, zi x, zi y] := by
  have hw := H.1.2.1.now
  have hh := H.1.2.2.1.hist
  have hc : zRef S (S 26 0) (S 25 4) 6 x y = 0 ∨ zRef S (S 26 0) (S 25 4) 6 x y = 1 ∨ zRef S (S 26 0) (S 25 4) 6 x y = 2 ∨ zRef S (S 26 0) (S 25 4) 6 x y = 3 := by
    show zrRev S (S 25 4) x y = 0 ∨ zrRev S (S 25 4) x y = 1 ∨ zrRev S (S 25 4) x y = 2 ∨ zrRev S (S 25 4) x y = 3
    unfold zrRev
    (repeat' split) <;> omega
  refine zOpW.chg H (k := 6) (x := x) (y := y) (fun h0 => rL_answer hl (c_X5_answer hl hw hh hx hy h0)) (fun h0 => ?_) (fun Q J1 hm hc8 => c_X6_answer hl hm hc8 hx hy) ⟨by decide, by decide⟩
  · rcases hc with e | e | e | e
    · exact absurd e h0
    · rw [e]; exact ⟨tL_answer_1 hl (t1_X5_answer hl hw hx hy e), by decide⟩
    · rw [e]; exact ⟨tL_answer_2 hl (t2_X5_answer hl hw hx hy e), by decide⟩
    · rw [e]; exact ⟨tL_answer_3 hl (t3_X5_answer hl hw hx hy e), by decide⟩
set_option maxHeartbeats 2000000 in
theorem op_moveListener (hl : l.stackTraces = false) (H : zInv S S) {x : Nat} (hx : x < 2 ^ 32) {y : Nat} (hy : y < 2 ^ 32) : zOpW l G S J E mL_moveListener hhL_moveListener [.ref 0, zi x, zi y, .ref 23] mX6_moveListener [.ref 12, zi x, zi y] := by
  have hw := H.1.2.1.now
  have hh := H.1.2.2.1.hist
  have hc : zRef S (S 26 0) (S 25 4) 7 x y = 0 ∨ zRef S (S 26 0) (S 25 4) 7 x y = 1 ∨ zRef S (S 26 0) (S 25 4) 7 x y = 2 ∨ zRef S (S 26 0) (S 25 4) 7 x y = 3 := by
    show zrMove S (S 26 0) x y = 0 ∨ zrMove S (S 26 0) x y = 1 ∨ zrMove S (S 26 0) x y = 2 ∨ zrMove S (S 26 0) x y = 3
    unfold zrMove
    (repeat' split) <;> omega
  refine zOpW.chg H (k := 7) (x := x) (y := y) (fun h0 => rL_moveListener hl (c_X5_moveListener hl hw hh hx hy h0)) (fun h0 => ?_) (fun Q J1 hm hc8 => c_X6_moveListener hl hm hc8 hx hy) ⟨by decide, by decide⟩
  · rcases hc with e | e | e | e
    · exact absurd e h0
    · rw [e]; exact ⟨tL_moveListener_1 hl (t1_X5_moveListener hl hw hx hy e), by decide⟩
    · rw [e]; exact ⟨tL_moveListener_2 hl (t2_X5_moveListener hl hw hx hy e), by decide⟩
    · rw [e]; exact ⟨tL_moveListener_3 hl (t3_X5_moveListener hl hw hx hy e), by decide⟩
set_option maxHeartbeats 2000000 in
theorem op_advance (hl : l.stackTraces = false) (H : zInv S S) {x : Nat} (hx : x < 2 ^ 32) : zOpW l G S J E mL_advance hhL_advance [.ref 0, zi x, .ref 23] mX6_advance [.ref 12, zi x] := by
  have hw := H.1.2.1.now
  have hh := H.1.2.2.1.hist
  have hc : zRef S (S 26 0) (S 25 4) 9 x 0 = 0 ∨ zRef S (S 26 0) (S 25 4) 9 x 0 = 2 := zRef9
  refine zOpW.chg H (k := 9) (x := x) (y := 0) (fun h0 => rL_advance hl (c_X5_advance hl hw hh hx h0)) (fun h0 => ?_) (fun Q J1 hm hc8 => c_X6_advance hl hm hc8 hx) ⟨by decide, by decide⟩
  · rcases hc with e | e
    · exact absurd e h0
    · rw [e]; exact ⟨tL_advance_1 hl (t2_X5_advance hl hw hx e), by decide⟩
set_option maxHeartbeats 2000000 in
theorem op_check (hl : l.stackTraces = false) (H : zInv S S) {x : Nat} (hx : x < 2 ^ 32) {y : Nat} (hy : y < 2 ^ 32) : zOpB l G S J E mL_check hhL_check [.ref 0, zi x, zi y, .ref 23] mX6_check [.ref 12, zi x, zi y] := by
  have hw := H.1.2.1.now
  have hh := H.1.2.2.1.hist
  have hc : zRef S (S 26 0) (S 25 4) 4 x y = 0 ∨ zRef S (S 26 0) (S 25 4) 4 x y = 1 ∨ zRef S (S 26 0) (S 25 4) 4 x y = 3 := by
    show zrConv S (S 26 0) (S 25 4) x y = 0 ∨ zrConv S (S 26 0) (S 25 4) x y = 1 ∨ zrConv S (S 26 0) (S 25 4) x y = 3
    unfold zrConv
    (repeat' split) <;> omega
  refine zOpB.chg H (k := 4) (x := x) (y := y) (fun h0 => rL_check hl (c_X5_check hl hw hh hx hy h0)) (fun h0 => ?_) (fun Q J1 hm hc8 => c_X6_check hl hm hc8 hx hy) (fun Q => ⟨?_, ?_⟩) ⟨by decide, by decide⟩
  · rcases hc with e | e | e
    · exact absurd e h0
    · rw [e]; exact ⟨tL_check_1 hl (t1_X5_check hl hw hx hy e), by decide⟩
    · rw [e]; exact ⟨tL_check_2 hl (t3_X5_check hl hw hx hy e), by decide⟩
  · unfold zChg
    show (zConvert _ x y).1 ≤ 1
    unfold zConvert; split
    · exact Nat.zero_le _
    · exact Nat.le_refl _
  · unfold mChg mEnd
    split
    · show (mDoes _ _ _ 4 x y).1 ≤ 1
      show (mChecks _ _ _ x y).1 ≤ 1
      unfold mChecks
      (repeat' split) <;> first | exact Nat.zero_le _ | exact Nat.le_refl _
    · exact Nat.zero_le _
theorem op_listenerCount (hl : l.stackTraces = false) (H : zInv S S) : zOpS l G S J E mX5_listenerCount mX6_listenerCount := by
  obtain ⟨T, Gd, Hh, Dd, Pp⟩ := id H.1
  exact zOpS.ret H (fun _ _ _ _ _ _ => rfl) (c_X5_listenerCount hl Gd.now) (c_X6_listenerCount hl H.1.mn) ⟨by decide, by decide⟩ (rfl)
theorem op_rumourCount (hl : l.stackTraces = false) (H : zInv S S) : zOpS l G S J E mX5_rumourCount mX6_rumourCount := by
  obtain ⟨T, Gd, Hh, Dd, Pp⟩ := id H.1
  exact zOpS.ret H (fun _ _ _ _ _ _ => rfl) (c_X5_rumourCount hl Gd.now) (c_X6_rumourCount hl H.1.mn) ⟨by decide, by decide⟩ (rfl)
theorem op_round (hl : l.stackTraces = false) (H : zInv S S) : zOpS l G S J E mX5_round mX6_round := by
  obtain ⟨T, Gd, Hh, Dd, Pp⟩ := id H.1
  exact zOpS.ret H (fun _ _ _ _ _ _ => rfl) (c_X5_round hl Gd.now) (c_X6_round hl H.1.mn) ⟨by decide, by decide⟩ (by rw [T.2.2.1])
theorem op_heardTotal (hl : l.stackTraces = false) (H : zInv S S) : zOpS l G S J E mX5_heardTotal mX6_heardTotal := by
  obtain ⟨T, Gd, Hh, Dd, Pp⟩ := id H.1
  exact zOpS.ret H (fun _ _ _ _ _ _ => rfl) (c_X5_heardTotal hl Gd.now) (c_X6_heardTotal hl H.1.mn) ⟨by decide, by decide⟩ (by rw [T.2.2.2.1])
theorem op_successfulChecks (hl : l.stackTraces = false) (H : zInv S S) : zOpS l G S J E mX5_successfulChecks mX6_successfulChecks := by
  obtain ⟨T, Gd, Hh, Dd, Pp⟩ := id H.1
  exact zOpS.ret H (fun _ _ _ _ _ _ => rfl) (c_X5_successfulChecks hl Gd.now) (c_X6_successfulChecks hl H.1.mn) ⟨by decide, by decide⟩ (by rw [T.2.2.2.2.1])
theorem op_linkCount (hl : l.stackTraces = false) (H : zInv S S) : zOpS l G S J E mX5_linkCount mX6_linkCount := by
  obtain ⟨T, Gd, Hh, Dd, Pp⟩ := id H.1
  exact zOpS.ret H (fun _ _ _ _ _ _ => rfl) (c_X5_linkCount hl Gd.now) (c_X6_linkCount hl H.1.mn) ⟨by decide, by decide⟩ (by rw [tie_links T Gd rfl]; exact nI_mod (by omega))
theorem op_componentCount (hl : l.stackTraces = false) (H : zInv S S) : zOpS l G S J E mX5_componentCount mX6_componentCount := by
  obtain ⟨T, Gd, Hh, Dd, Pp⟩ := id H.1
  exact zOpS.ret H (fun _ _ _ _ _ _ => rfl) (c_X5_componentCount hl Gd.now) (c_X6_componentCount hl H.1.mn) ⟨by decide, by decide⟩ (by rw [tie_search T Gd rfl])
theorem op_componentCountByUnion (hl : l.stackTraces = false) (H : zInv S S) : zOpS l G S J E mX5_componentCountByUnion mX6_componentCountByUnion := by
  obtain ⟨T, Gd, Hh, Dd, Pp⟩ := id H.1
  have hA : ∀ a b, a ≠ 3 → a ≠ 4 → a ≠ 28 → a ≠ 29 → (zUnion S (S 26 0)).2 a b = S a b := fun a b _ _ h28 _ => zUnion_off h28
  have e13 : (zUnion S (S 26 0)).2 13 = S 13 := funext (fun b => zUnion_off (by decide))
  exact zOpS.ret H hA (c_X5_componentCountByUnion hl Gd.now) (c_X6_componentCountByUnion hl (H.q hA).1.1.mn) ⟨by decide, by decide⟩ (by rw [e13]; exact tie_union T Gd rfl)
theorem op_isConsistent (hl : l.stackTraces = false) (H : zInv S S) : zOpS l G S J E mX5_isConsistent mX6_isConsistent := by
  obtain ⟨T, Gd, Hh, Dd, Pp⟩ := id H.1
  have ht4 : S 25 4 ≤ 4 := Gd.2.1
  have hA : ∀ a b, a ≠ 3 → a ≠ 4 → a ≠ 28 → a ≠ 29 → zDag (zUnion S (S 26 0)).2 (S 26 0) (S 25 4) a b = S a b := fun a b _ _ h28 h29 => (zDag_off h29).trans (zUnion_off h28)
  have H1 := (H.q hA).1
  have cl : ∀ r, r < S 25 4 → S (33 + 2 * r) 3 &&& S (33 + 2 * r) 4 = 0 := fun r hr => (Gd.rt hr).1
  exact zOpS.ret H hA (c_X5_isConsistent hl Gd.now ((congrArg nI (tie_search T Gd rfl)).trans (tie_union T Gd rfl).symm) (tie_agree T Gd rfl) cl (tie_hsum Gd rfl)) (c_X6_isConsistent hl H1.1.mn (fun r hr => by
    obtain ⟨-, -, -, r3, r4⟩ := H1.1.1.r (show r < 4 by omega)
    rw [r3, r4]; exact cl r hr)) ⟨by decide, by decide⟩ rfl
def zOpD (l : Launch) (G : zG) (S : zS) (J : Int64) (E : UInt64) : Prop := ∃ (k d1 d2 mc ms : Nat) (S1 S2 : zS) (E1 v : UInt64), (d1 ≤ 30 ∧ d2 ≤ 30 ∧ mc ≤ 25 ∧ ms ≤ 850) ∧ wCR l G mL_meanDoubt hhL_meanDoubt d1 mc ms [.ref 0, .ref 24] S J E (some (zi k)) S1 J E1 ∧ nCR l G mX6_meanDoubt d2 0 0 [.ref 12] S1 J E1 (some (.double v)) S2 J E1 ∧ S2 12 0 = k ∧ k < 5 ∧ (k = 0 → E1 = v ∧ FP.dcmp v v = some .eq) ∧ zInv S2 S2
def zOpF (l : Launch) (G : zG) (S : zS) (J : Int64) (E : UInt64) : Prop := ∃ (k d1 d2 mc ms : Nat) (S1 S2 : zS) (E1 : UInt64) (v : UInt32), (d1 ≤ 30 ∧ d2 ≤ 30 ∧ mc ≤ 25 ∧ ms ≤ 850) ∧ wCR l G mL_gossipShare hhL_gossipShare d1 mc ms [.ref 0, .ref 24] S J E (some (zi k)) S1 J E1 ∧ nCR l G mX6_gossipShare d2 0 0 [.ref 12] S1 J E1 (some (.float v)) S2 J E1 ∧ S2 12 0 = k ∧ k < 5 ∧ (k = 0 → E1 = FP.f2d v ∧ vf_n64 (FP.f2d v) ∧ FP.dcmp (FP.f2d v) (FP.f2d v) = some .eq) ∧ zInv S2 S2
theorem op_meanDoubt (hl : l.stackTraces = false) (H : zInv S S) : zOpD l G S J E := by
  obtain ⟨T, Gd, Hh, Dd, Pp⟩ := id H.1
  have hm := H.1.mn
  have q := (H.q (fun _ _ _ _ _ _ => rfl)).2
  by_cases h : S 26 0 = 0
  · exact ⟨1, _, _, 1, 6, S, _, _, _, ⟨by decide, by decide, by decide, by decide⟩, tL_meanDoubt_1 hl (t1_X5_meanDoubt hl Gd.now h), c0_X6_meanDoubt hl hm h, zU_s, by decide, fun e => absurd e (by decide), q 1⟩
  · exact ⟨0, _, _, 0, 0, S, _, _, _, ⟨by decide, by decide, by decide, by decide⟩, rL_meanDoubt hl (c_X5_meanDoubt hl Gd.now h), c_X6_meanDoubt hl hm h, zU_s, by decide, fun _ => ⟨by rw [tie_dsum T Gd rfl], (mean_n64 hm h)⟩, q 0⟩
theorem op_gossipShare (hl : l.stackTraces = false) (H : zInv S S) : zOpF l G S J E := by
  obtain ⟨T, Gd, Hh, Dd, Pp⟩ := id H.1
  have hm := H.1.mn
  have q := (H.q (fun _ _ _ _ _ _ => rfl)).2
  by_cases h : S 26 0 = 0
  · exact ⟨1, _, _, 1, 6, S, _, _, _, ⟨by decide, by decide, by decide, by decide⟩, tL_gossipShare_1 hl (t1_X5_gossipShare hl Gd.now h), c0_X6_gossipShare hl hm h, zU_s, by decide, fun e => absurd e (by decide), q 1⟩
  · have hf := share_n64 (S := S) hm h
    have e := tie_gsp T Gd rfl rfl
    exact ⟨0, _, _, 0, 0, S, _, _, _, ⟨by decide, by decide, by decide, by decide⟩, rL_gossipShare hl (by rw [e]; exact hf.1) (c_X5_gossipShare hl Gd.now h), c_X6_gossipShare hl hm h, zU_s, by decide, fun _ => ⟨by rw [e], hf⟩, q 0⟩
end OS
