/-! the commands' places -/
section RD2
variable {A Q : zS}
/-- where the commands begin; their forms; what is matched -/
def zSq (A : zS) (P K : Nat → Nat) (M : Nat → Bool × Nat × Nat × Nat × Nat) : Prop := P 0 = 0 ∧ ∀ i, K i = (zFur A (P i)).1 ∧ M i = zMatch A (K i) (P i) ∧ P (i + 1) = (M i).2.1 + 1
theorem zSq_is : ∃ P K M, zSq A P K M := by
  obtain ⟨f, hf⟩ : ∃ f : Nat → Nat, ∀ p, f p = (zFur A p).1 := ⟨fun p => (zFur A p).1, fun p => rfl⟩
  obtain ⟨g, hg⟩ : ∃ g : Nat → Nat → Bool × Nat × Nat × Nat × Nat, ∀ k p, g k p = zMatch A k p := ⟨fun k p => zMatch A k p, fun k p => rfl⟩
  refine ⟨fun i => zIt (fun _ p => (g (f p) p).2.1 + 1) i 0, fun i => f (zIt (fun _ p => (g (f p) p).2.1 + 1) i 0), fun i => g (f (zIt (fun _ p => (g (f p) p).2.1 + 1) i 0)) (zIt (fun _ p => (g (f p) p).2.1 + 1) i 0), rfl, fun i => ⟨hf _, hg _ _, rfl⟩⟩
theorem zMatch_4 {k p : Nat} (hk : k < 10) (h : (zMatch A k p).1 = true) : p + 4 ≤ (zMatch A k p).2.1 := by
  rcases zMatch_lit (A := A) (p := p) hk with ⟨h3, -⟩ | ⟨j, h3, h4, h5, h6⟩
  · have := (zReach_full hk h3).1
    have hl := (wL_is (show min k 8 < 9 by omega)).1
    rw [zWl_wL] at this
    omega
  · rw [h6] at h; cases h
section SQ
variable {P K : Nat → Nat} {M : Nat → Bool × Nat × Nat × Nat × Nat}
theorem zSq.lt (H : zSq A P K M) {i : Nat} : K i < 10 := by rw [(H.2 i).1]; exact zFur_lt A _
theorem zSq.four (H : zSq A P K M) {i : Nat} (h : (M i).1 = true) : P i + 4 ≤ (M i).2.1 := by
  rw [(H.2 i).2.1] at h ⊢
  exact zMatch_4 H.lt h
theorem zSq.le (H : zSq A P K M) {i : Nat} (h : P i ≤ A 5 1) : (M i).2.1 ≤ A 5 1 := by
  rw [(H.2 i).2.1]; exact zMatch_len h
end SQ
end RD2
