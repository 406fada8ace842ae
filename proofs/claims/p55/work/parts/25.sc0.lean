/-! a scene's sixteen objects, wherever it stands -/
def zSc (b : Nat) : Prop := (zSh b = (0, 7) ∧ b < zN ∧ zP b 0 = some (b + 1) ∧ zP b 1 = some (b + 5) ∧ zP b 2 = some (b + 6) ∧ zP b 3 = some (b + 7)) ∧
  (zSh (b + 1) = (0, 5) ∧ b + 1 < zN ∧ zP (b + 1) 2 = some (b + 2)) ∧ (zSh (b + 2) = (1, 12) ∧ b + 2 < zN) ∧ (zSh (b + 5) = (1, 12) ∧ b + 5 < zN) ∧ (zSh (b + 6) = (1, 12) ∧ b + 6 < zN) ∧
  (zSh (b + 7) = (4, 4) ∧ b + 7 < zN) ∧ (∀ r, r < 4 → zP (b + 7) r = some (b + 8 + 2 * r) ∧ zRu (b + 8 + 2 * r)) ∧ 25 ≤ b
theorem zSc_of : ∀ j : Fin 11, zSc (25 + 16 * j.val) := by
  unfold zSc zRu
  decide +kernel
theorem zSc25 : zSc 25 := zSc_of 0
theorem zSc41 : zSc 41 := zSc_of 1
theorem zSc57 : zSc 57 := zSc_of 2
theorem zScH {i : Nat} (h : i < 8) : zSc (73 + 16 * i) := by
  have h2 := zSc_of ⟨i + 3, by omega⟩
  rw [show 73 + 16 * i = 25 + 16 * (i + 3) from by omega]
  exact h2
theorem zP2 {i : Nat} (h : i < 8) : zP 2 i = some (73 + 16 * i) := by
  have h2 : ∀ i : Fin 8, zP 2 i.val = some (73 + 16 * i.val) := by decide +kernel
  exact h2 ⟨i, h⟩
/-- a field with its value said -/
theorem sn_getIe {G : zG} {X : zX} {M : zM} {d mc ms a b pc : Nat} {ls : List (Option Value)} {st : List Value} {S : zS} {J : Int64} {E : UInt64} (C : zOK G X M d mc ms) {o ci j idx : Nat} (v : Nat) (he : S o j = v) (hF : zFld M.1.cls idx ci j) (hs : zSh o = (0, ci)) (ho : o < zN) (ht : zIsR (zTy ci j) = false) (hd : decode M.2.1 pc = .ok (.getfield idx, 3)) (k : SN G X a b (pc + 3) ls (zi v :: st) S J E) : SN G X a b pc ls (.ref o :: st) S J E := by
  subst he; exact sn_getI C hF hs ho ht hd k
theorem sn_calde {G : zG} {X : zX} {M : zM} {d mc ms a b pc : Nat} {ls : List (Option Value)} {st : List Value} {S : zS} {J : Int64} {E : UInt64} (C : zOK G X M d mc ms) {o n i : Nat} (v : Nat) (he : S o i = v) (hs : zSh o = (2, n)) (ho : o < zN) (hi : i < n) (hn : n ≤ 2 ^ 30) (hd : decode M.2.1 pc = .ok (.caload, 1)) (k : SN G X a b (pc + 1) ls (zi v :: st) S J E) : SN G X a b pc ls (zi i :: .ref o :: st) S J E := by
  subst he; exact sn_cald C hs ho hi hn hd k
theorem sn_ialde {G : zG} {X : zX} {M : zM} {d mc ms a b pc : Nat} {ls : List (Option Value)} {st : List Value} {S : zS} {J : Int64} {E : UInt64} (C : zOK G X M d mc ms) {o n i : Nat} (v : Nat) (he : S o i = v) (hs : zSh o = (1, n)) (ho : o < zN) (hi : i < n) (hn : n ≤ 2 ^ 30) (hd : decode M.2.1 pc = .ok (.iaload, 1)) (k : SN G X a b (pc + 1) ls (zi v :: st) S J E) : SN G X a b pc ls (zi i :: .ref o :: st) S J E := by
  subst he; exact sn_iald C hs ho hi hn hd k
def zNetCp (S : zS) (b p : Nat) : zS := zCp (zU (zU S (b + 1) 0 (S (p + 1) 0)) (b + 1) 1 (zU S (b + 1) 0 (S (p + 1) 0) (p + 1) 1)) (p + 2) (b + 2) 12
def zRumCp (S : zS) (b p : Nat) : zS := zIt (fun r q => zRcp q (b + 8 + 2 * r) (p + 8 + 2 * r)) 4 (zCp (zCp (zNetCp S b p) (p + 5) (b + 5) 12) (p + 6) (b + 6) 12)
def zScCp (S : zS) (b p : Nat) : zS := zU (zU (zU (zU (zRumCp S b p) b 4 (zRumCp S b p p 4)) b 5 (zU (zRumCp S b p) b 4 (zRumCp S b p p 4) p 5)) b 6 (zU (zU (zRumCp S b p) b 4 (zRumCp S b p p 4)) b 5 (zU (zRumCp S b p) b 4 (zRumCp S b p p 4) p 5) p 6)) b 7 (zU (zU (zU (zRumCp S b p) b 4 (zRumCp S b p p 4)) b 5 (zU (zRumCp S b p) b 4 (zRumCp S b p p 4) p 5)) b 6 (zU (zU (zRumCp S b p) b 4 (zRumCp S b p p 4)) b 5 (zU (zRumCp S b p) b 4 (zRumCp S b p p 4) p 5) p 6) p 7)
theorem zCp_o {S : zS} {o o' n a k : Nat} (h : a ≠ o') : zCp S o o' n a k = S a k := by simp [zCp, h]
theorem zCp_at {S : zS} {o o' n k : Nat} (h : k < n) : zCp S o o' n o' k = S o k := by simp [zCp, h]
theorem zRcp_o {S : zS} {o p a k : Nat} (h : a ≠ o) (h2 : a ≠ o + 1) : zRcp S o p a k = S a k := by
  unfold zRcp
  rw [zCp_o h2, zU_o h, zU_o h, zU_o h, zU_o h, zU_o h]
/-- two scenes stand apart -/
def zAp (b p : Nat) : Prop := b + 16 ≤ p ∨ p + 16 ≤ b
theorem zRcp_is {S : zS} {o p k : Nat} (h : p ≠ o) (hk : k < 5) : zRcp S o p o k = S p k := by
  unfold zRcp
  rw [zCp_o (by omega)]
  simp only [zU_o h]
  rcases (show k = 0 ∨ k = 1 ∨ k = 2 ∨ k = 3 ∨ k = 4 by omega) with rfl | rfl | rfl | rfl | rfl <;> simp [zU]
theorem zRcp_row {S : zS} {o p k : Nat} (h : p ≠ o) (h3 : p + 1 ≠ o) (hk : k < 12) : zRcp S o p (o + 1) k = S (p + 1) k := by
  unfold zRcp
  rw [zCp_at hk]
  simp only [zU_o h3]
theorem zNetCp_o {S : zS} {b p a k : Nat} (h : a ≠ b + 1) (h2 : a ≠ b + 2) : zNetCp S b p a k = S a k := by
  unfold zNetCp
  rw [zCp_o h2, zU_o h, zU_o h]
theorem zRumCp_o {S : zS} {b p a k : Nat} (h : a < b + 1 ∨ b + 16 ≤ a) : zRumCp S b p a k = S a k := by
  unfold zRumCp
  refine zIt_inv (fun q : zS => q a k = S a k) ?_ (fun i q hi hq => ?_)
  · rw [zCp_o (by omega), zCp_o (by omega), zNetCp_o (by omega) (by omega)]
  · rw [zRcp_o (by omega) (by omega)]; exact hq
theorem zScCp_o {S : zS} {b p a k : Nat} (h : a < b ∨ b + 16 ≤ a) : zScCp S b p a k = S a k := by
  unfold zScCp
  rw [zU_o (by omega), zU_o (by omega), zU_o (by omega), zU_o (by omega), zRumCp_o (by omega)]
theorem zRumIt_o {q : zS} {b p m a k : Nat} (h : a < b + 8 ∨ b + 8 + 2 * m ≤ a) : zIt (fun r q => zRcp q (b + 8 + 2 * r) (p + 8 + 2 * r)) m q a k = q a k := by
  refine zIt_inv (fun z : zS => z a k = q a k) rfl (fun i z hi hz => ?_)
  rw [zRcp_o (by omega) (by omega)]; exact hz
theorem zRumIt_is {q : zS} {b p m r k : Nat} (hap : zAp b p) (hm : m ≤ 4) (hr : r < m) (hk : k < 5) : zIt (fun r q => zRcp q (b + 8 + 2 * r) (p + 8 + 2 * r)) m q (b + 8 + 2 * r) k = q (p + 8 + 2 * r) k := by
  unfold zAp at hap
  induction m with
  | zero => omega
  | succ m ih =>
    rw [zIt]
    by_cases h : r = m
    · subst h
      rw [zRcp_is (by omega) hk, zRumIt_o (by omega)]
    · rw [zRcp_o (by omega) (by omega)]
      exact ih (by omega) (by omega)
theorem zRumIt_row {q : zS} {b p m r k : Nat} (hap : zAp b p) (hm : m ≤ 4) (hr : r < m) (hk : k < 12) : zIt (fun r q => zRcp q (b + 8 + 2 * r) (p + 8 + 2 * r)) m q (b + 8 + 2 * r + 1) k = q (p + 8 + 2 * r + 1) k := by
  unfold zAp at hap
  induction m with
  | zero => omega
  | succ m ih =>
    rw [zIt]
    by_cases h : r = m
    · subst h
      rw [zRcp_row (by omega) (by omega) hk, zRumIt_o (by omega)]
    · rw [zRcp_o (by omega) (by omega)]
      exact ih (by omega) (by omega)
/-- what a copied scene holds: size, links, neighbours, hives, doubts, rumours, counters -/
theorem zScCp_is {S : zS} {b p : Nat} (hap : zAp b p) : (∀ k, k < 2 → zScCp S b p (b + 1) k = S (p + 1) k) ∧ (∀ k, k < 12 → zScCp S b p (b + 2) k = S (p + 2) k ∧ zScCp S b p (b + 5) k = S (p + 5) k ∧ zScCp S b p (b + 6) k = S (p + 6) k) ∧ (∀ r, r < 4 → (∀ k, k < 5 → zScCp S b p (b + 8 + 2 * r) k = S (p + 8 + 2 * r) k) ∧ (∀ k, k < 12 → zScCp S b p (b + 8 + 2 * r + 1) k = S (p + 8 + 2 * r + 1) k)) ∧ (∀ k, 4 ≤ k → k < 8 → zScCp S b p b k = S p k) := by
  have hap2 := hap
  unfold zAp at hap
  have e0 : ∀ a k, a ≠ b → zScCp S b p a k = zRumCp S b p a k := fun a k h => by
    unfold zScCp
    rw [zU_o h, zU_o h, zU_o h, zU_o h]
  refine ⟨fun k hk => ?_, fun k hk => ⟨?_, ?_, ?_⟩, fun r hr => ⟨fun k hk => ?_, fun k hk => ?_⟩, fun k h4 h8 => ?_⟩
  · rw [e0 _ _ (by omega)]; unfold zRumCp; rw [zRumIt_o (by omega), zCp_o (by omega), zCp_o (by omega)]; unfold zNetCp; rw [zCp_o (by omega)]
    rcases (show k = 0 ∨ k = 1 by omega) with rfl | rfl
    · rw [zU_j (by decide), zU_s]
    · rw [zU_s, zU_o (by omega)]
  · rw [e0 _ _ (by omega)]; unfold zRumCp; rw [zRumIt_o (by omega), zCp_o (by omega), zCp_o (by omega)]; unfold zNetCp; rw [zCp_at hk, zU_o (by omega), zU_o (by omega)]
  · rw [e0 _ _ (by omega)]; unfold zRumCp; rw [zRumIt_o (by omega), zCp_o (by omega), zCp_at hk, zNetCp_o (by omega) (by omega)]
  · rw [e0 _ _ (by omega)]; unfold zRumCp; rw [zRumIt_o (by omega), zCp_at hk, zCp_o (by omega), zNetCp_o (by omega) (by omega)]
  · rw [e0 _ _ (by omega)]; unfold zRumCp; rw [zRumIt_is hap2 (by omega) hr hk, zCp_o (by omega), zCp_o (by omega), zNetCp_o (by omega) (by omega)]
  · rw [e0 _ _ (by omega)]; unfold zRumCp; rw [zRumIt_row hap2 (by omega) hr hk, zCp_o (by omega), zCp_o (by omega), zNetCp_o (by omega) (by omega)]
  · have hpb : p ≠ b := by omega
    unfold zScCp
    simp only [zU_o hpb]
    rw [show S p k = zRumCp S b p p k from (zRumCp_o (by omega)).symm]
    rcases (show k = 4 ∨ k = 5 ∨ k = 6 ∨ k = 7 by omega) with rfl | rfl | rfl | rfl <;> simp [zU]
theorem zSc_b {b : Nat} (h : zSc b) (h2 : b < 73) : b = 25 ∨ b = 41 ∨ b = 57 := by
  have h3 := h.2.2.2.2.2.2.2
  have h4 : ∀ i : Fin 48, zSh (25 + i.val) = (0, 7) → (25 + i.val = 25 ∨ 25 + i.val = 41 ∨ 25 + i.val = 57) := by decide +kernel
  have h5 := h4 ⟨b - 25, by omega⟩
  rw [show 25 + (b - 25) = b from by omega] at h5
  exact h5 h.1.1
