/-! the made world is the world -/
def ordL : List Nat := [0, 25, 26, 27, 28, 29, 30, 31, 32, 33, 34, 35, 36, 37, 38, 39, 40, 41, 42, 43, 44, 45, 46, 47, 48, 49, 50, 51, 52, 53, 54, 55, 56, 57, 58, 59, 60, 61, 62, 63, 64, 65, 66, 67, 68, 69, 70, 71, 72, 1, 2, 73, 74, 75, 76, 77, 78, 79, 80, 81, 82, 83, 84, 85, 86, 87, 88, 89, 90, 91, 92, 93, 94, 95, 96, 97, 98, 99, 100, 101, 102, 103, 104, 105, 106, 107, 108, 109, 110, 111, 112, 113, 114, 115, 116, 117, 118, 119, 120, 121, 122, 123, 124, 125, 126, 127, 128, 129, 130, 131, 132, 133, 134, 135, 136, 137, 138, 139, 140, 141, 142, 143, 144, 145, 146, 147, 148, 149, 150, 151, 152, 153, 154, 155, 156, 157, 158, 159, 160, 161, 162, 163, 164, 165, 166, 167, 168, 169, 170, 171, 172, 173, 174, 175, 176, 177, 178, 179, 180, 181, 182, 183, 184, 185, 186, 187, 188, 189, 190, 191, 192, 193, 194, 195, 196, 197, 198, 199, 200, 3, 4, 5, 6, 7, 8, 9, 10, 11, 12, 13, 14, 15, 16, 17, 18, 19, 20, 21, 22, 23, 24]
theorem ordL_all : ∀ k : Fin 201, k.val ∈ ordL := by decide +kernel
theorem ordL_lt : ∀ o ∈ ordL, o < 201 := by decide +kernel
def hisF (φ : Nat → Nat) : Nat → Option Nat := va_up (va_up (va_up (va_up (va_up (va_up (va_up (va_up (fun _ => none) 0 (some (φ 73))) 1 (some (φ 89))) 2 (some (φ 105))) 3 (some (φ 121))) 4 (some (φ 137))) 5 (some (φ 153))) 6 (some (φ 169))) 7 (some (φ 185))
def rumF (φ : Nat → Nat) (o : Nat) : Nat → Option Nat := va_up (va_up (va_up (va_up (fun _ => none) 0 (some (φ (o + 1)))) 1 (some (φ (o + 3)))) 2 (some (φ (o + 5)))) 3 (some (φ (o + 7)))
def rawE (G : zG) (o : Nat) : va_E := if o = 21 then .inl (G.2.1 1, 47, .inl (wF 47)) else if o = 22 then .inl (G.2.1 1, 10, .inl (aF 10)) else if o = 2 then .inl (G.2.1 5, 8, .inr (.inr (.inr (.inr (hisF G.2.2.1))))) else if 25 ≤ o ∧ (o - 25) % 16 = 7 then .inl (G.2.1 4, 4, .inr (.inr (.inr (.inr (rumF G.2.2.1 o))))) else zEnt G (G.2.2.1 11) 16 (zIn S0) 0 0 o
theorem arrV_congr {c : ClassId} {n : Nat} {f g : Nat → Value} (h : ∀ j, j < n → f j = g j) : arrV c n f = arrV c n g := by
  have e : (fun j : Fin n => f j.val) = (fun j : Fin n => g j.val) := funext (fun j => h j.val j.isLt)
  unfold arrV
  rw [e]
theorem rawE_at {G : zG} {H : Heap} {a k : Nat} (hk : k < 201) (h : va_at G.1 vwCl (a, rawE G k) H) : va_at G.1 vwCl (a, zEnt G (G.2.2.1 11) 16 (zIn S0) 0 0 k) H := by
  unfold rawE at h
  split at h
  · rename_i e; subst e
    have h : H[a]? = some (vp_cell (G.2.1 1) (47, .inl (wF 47))) := h
    show H[a]? = some (vp_cell (G.2.1 1) (47, .inl (zIn S0 21)))
    rw [h]
    congr 1
  · split at h
    · rename_i e; subst e
      have h : H[a]? = some (vp_cell (G.2.1 1) (10, .inl (aF 10))) := h
      show H[a]? = some (vp_cell (G.2.1 1) (10, .inl (zIn S0 22)))
      rw [h]
      congr 1
    · split at h
      · rename_i e; subst e
        have h : H[a]? = some (vp_cell (G.2.1 5) (8, .inr (.inr (.inr (.inr (hisF G.2.2.1)))))) := h
        show H[a]? = some (vp_cell (G.2.1 5) (8, .inr (.inr (.inr (.inr (fun j => (zP 2 j).map (zAd G.2.2.1 (G.2.2.1 11))))))))
        rw [h]
        congr 1
      · split at h
        · rename_i e
          obtain ⟨e1, e2⟩ := e
          obtain ⟨s, hs⟩ : ∃ s, k = 32 + 16 * s := ⟨(k - 25) / 16, by omega⟩
          have hs11 : s < 11 := by omega
          have hsh : zSh k = (4, 4) := by unfold zSh; rw [if_neg (by omega), e2]; rfl
          have hz : zEnt G (G.2.2.1 11) 16 (zIn S0) 0 0 k = .inl (G.2.1 4, 4, .inr (.inr (.inr (.inr (fun j => (zP k j).map (zAd G.2.2.1 (G.2.2.1 11))))))) := zEnt_ref hsh (Or.inl rfl)
          have h : H[a]? = some (vp_cell (G.2.1 4) (4, .inr (.inr (.inr (.inr (rumF G.2.2.1 k)))))) := h
          rw [hz]
          show H[a]? = some (vp_cell (G.2.1 4) (4, .inr (.inr (.inr (.inr (fun j => (zP k j).map (zAd G.2.2.1 (G.2.2.1 11))))))))
          rw [h]
          congr 1
          show arrV (G.2.1 4) 4 (fun j => va_rf (rumF G.2.2.1 k j)) = arrV (G.2.1 4) 4 (fun j => va_rf ((zP k j).map (zAd G.2.2.1 (G.2.2.1 11))))
          refine arrV_congr (fun j hj => ?_)
          have hp : zP k j = some (k - 7 + 8 + 2 * j) := by unfold zP; rw [if_neg (by omega), e2]; rfl
          rw [hp]
          show va_rf (rumF G.2.2.1 k j) = .ref (zAd G.2.2.1 (G.2.2.1 11) (k - 7 + 8 + 2 * j))
          rw [zAd_ne (by omega)]
          rcases (show j = 0 ∨ j = 1 ∨ j = 2 ∨ j = 3 by omega) with rfl | rfl | rfl | rfl
          · show Value.ref (G.2.2.1 (k + 1)) = _
            rw [show k - 7 + 8 + 2 * 0 = k + 1 by omega]
          · show Value.ref (G.2.2.1 (k + 3)) = _
            rw [show k - 7 + 8 + 2 * 1 = k + 3 by omega]
          · show Value.ref (G.2.2.1 (k + 5)) = _
            rw [show k - 7 + 8 + 2 * 2 = k + 5 by omega]
          · show Value.ref (G.2.2.1 (k + 7)) = _
            rw [show k - 7 + 8 + 2 * 3 = k + 7 by omega]
        · exact h
theorem zAd_11 {φ : Nat → Nat} {o : Nat} : zAd φ (φ 11) o = φ o := by
  unfold zAd
  split
  · rename_i e; rw [e]
  · rfl
theorem ordL_at {k : Nat} (hk : k < 201) : ∃ i : Nat, ordL[i]? = some k := List.mem_iff_getElem?.mp (ordL_all ⟨k, hk⟩)
theorem zRep_of {G : zG} {H : Heap} (hP : va_P G.1 vwCl (ordL.map (fun o => (G.2.2.1 o, rawE G o))) H) (hD : va_D (zA G) (ordL.map (fun o => (G.2.2.1 o, rawE G o)))) (h298 : G.2.2.1 298 ≠ 1) : zRep G (zIn S0) 0 0 H := by
  have at1 : ∀ k, k < 201 → ∃ i : Nat, ordL[i]? = some k ∧ (ordL.map (fun o => (G.2.2.1 o, rawE G o)))[i]? = some (G.2.2.1 k, rawE G k) := fun k hk => by
    obtain ⟨i, hi⟩ := ordL_at hk
    exact ⟨i, hi, by rw [List.getElem?_map, hi]; rfl⟩
  have lt : ∀ (k : Nat) (q : Nat × va_E), (zW G (G.2.2.1 11) 16 (zIn S0) 0 0)[k]? = some q → k < 201 ∧ q = (G.2.2.1 k, zEnt G (G.2.2.1 11) 16 (zIn S0) 0 0 k) := fun k q hk => by
    have h1 : k < 201 := by
      have := (List.getElem?_eq_some_iff.mp hk).1
      simpa [zW, zN] using this
    rw [zW_get h1, zAd_11] at hk
    cases hk
    exact ⟨h1, rfl⟩
  refine ⟨G.2.2.1 11, 16, fun k q hk => ?_, ⟨fun i j p q hi hj hpq => ?_, fun k q hk => ?_⟩, rfl, fun h => absurd h h298⟩
  · obtain ⟨h1, rfl⟩ := lt k q hk
    obtain ⟨i, -, hi⟩ := at1 k h1
    exact rawE_at h1 (hP i _ hi)
  · obtain ⟨h1, rfl⟩ := lt i p hi
    obtain ⟨h2, rfl⟩ := lt j q hj
    obtain ⟨a, ha1, ha2⟩ := at1 i h1
    obtain ⟨b, hb1, hb2⟩ := at1 j h2
    have e := hD.1 a b _ _ ha2 hb2 hpq
    subst e
    exact Option.some.inj (ha1.symm.trans hb1)
  · obtain ⟨h1, rfl⟩ := lt k q hk
    obtain ⟨i, -, hi⟩ := at1 k h1
    exact hD.2 i (G.2.2.1 k, rawE G k) hi
/-- the addresses of all that is made -/
def lawPhi (φ0 : Nat → Nat) (q r7 g8 r17 h18 r19 t20 t21 t22 t23 r24 b25 mA m1 m2 m3 m4 m5 m6 m7 m8 m9 m10 ql qd : Nat) (f2 f4 f6 f9 f10 f11 f12 f13 f14 f15 f16 : Nat → Nat) : Nat → Nat := fun o => if o < 25 then [q, r7, g8, r17, h18, r19, t20, t21, t22, t23, r24, b25, mA, m1, m2, m3, m4, m5, m6, m7, m8, m9, m10, ql, qd].getD o 0 else if o < 41 then f2 (o - 25) else if o < 57 then f4 (o - 41) else if o < 73 then f6 (o - 57) else if o < 89 then f9 (o - 73) else if o < 105 then f10 (o - 89) else if o < 121 then f11 (o - 105) else if o < 137 then f12 (o - 121) else if o < 153 then f13 (o - 137) else if o < 169 then f14 (o - 153) else if o < 185 then f15 (o - 169) else if o < 201 then f16 (o - 185) else φ0 o
set_option maxRecDepth 1000000 in
set_option maxHeartbeats 40000000 in
theorem wsLaw {D : va_G} {cA : Nat → ClassId} {φ0 : Nat → Nat} {base : Nat} {q r7 g8 r17 h18 r19 t20 t21 t22 t23 r24 b25 mA m1 m2 m3 m4 m5 m6 m7 m8 m9 m10 ql qd : Nat} {f2 f4 f6 f9 f10 f11 f12 f13 f14 f15 f16 : Nat → Nat} : let G : zG := (D, cA, φ0, base); ((([] ++ ((q, eO 9 [.ref (f2 0), .ref (f4 0), .ref (f6 0), .ref r7, .ref r17, .ref r19, .ref r24, .int 0, .int (nI 4294967295), .int (nI 4294967295)]) :: scnL G f2 ++ (scnL G f4 ++ (scnL G f6 ++ ((r7, eO 4 [.ref g8, .int 0, .int 0]) :: (g8, eRf G 4 8 (va_up (va_up (va_up (va_up (va_up (va_up (va_up (va_up ((fun _ => none)) 0 (some (f9 0))) 1 (some (f10 0))) 2 (some (f11 0))) 3 (some (f12 0))) 4 (some (f13 0))) 5 (some (f14 0))) 6 (some (f15 0))) 7 (some (f16 0)))) :: scnL G f9 ++ (scnL G f10 ++ (scnL G f11 ++ (scnL G f12 ++ (scnL G f13 ++ (scnL G f14 ++ (scnL G f15 ++ (scnL G f16 ++ ((r17, eO 6 [.int 0, .int 0, .int 0, .int 0, .int 0, .ref h18]) :: (h18, eI G 12) :: (r19, eO 8 [.ref t20, .int 0, .ref t21, .ref t22, .ref t23, .int 0, .int 0, .int 0, .int 0, .int 0, .int 0]) :: (t20, eC G 60) :: (t21, eI G 60) :: (t22, eI G 60) :: (t23, eI G 60) :: (r24, eO 1 [.ref b25, .int 0, .int 0, .int 0]) :: [(b25, eBy G 16)]))))))))))))) ++ ((mA, eO 10 [.int 0, .int 0, .int (nI 4294967295), .int (nI 4294967295), .int 0, .ref m1, .ref m2, .ref m3, .ref m4, .ref m5, .ref m6, .ref m7, .ref m8, .ref m9, .ref m10, .int 0, .int 0, .int 0, .int 0, .int 0, .int 0]) :: (m1, eI G 109) :: (m2, eI G 109) :: (m3, eI G 109) :: (m4, eI G 109) :: (m5, eI G 872) :: (m6, eI G 60) :: (m7, eI G 40) :: (m8, eI G 9) :: (m9, eF G 47 (wF 47)) :: [(m10, eF G 10 (aF 10))])) ++ [(ql, (.inl (G.2.1 6, 1, .inr (.inl (fun _ => 0))) : va_E))]) ++ [(qd, (.inl (G.2.1 7, 1, .inr (.inr (.inr (.inl (fun _ => 0))))) : va_E))] = ordL.map (fun o => ((D, cA, lawPhi φ0 q r7 g8 r17 h18 r19 t20 t21 t22 t23 r24 b25 mA m1 m2 m3 m4 m5 m6 m7 m8 m9 m10 ql qd f2 f4 f6 f9 f10 f11 f12 f13 f14 f15 f16, base) : zG).2.2.1 o |> fun a => (a, rawE ((D, cA, lawPhi φ0 q r7 g8 r17 h18 r19 t20 t21 t22 t23 r24 b25 mA m1 m2 m3 m4 m5 m6 m7 m8 m9 m10 ql qd f2 f4 f6 f9 f10 f11 f12 f13 f14 f15 f16, base) : zG) o)) := by
  intro G
  rfl
