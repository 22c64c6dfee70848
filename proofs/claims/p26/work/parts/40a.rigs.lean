/-! rigs: a bar, a lamp, a place, down, an address, a circuit -/
theorem hcd3I (r : Int32) : hcd [eI, eA, eS] r (some eI) = -101 := by show -101 - nI (List.idxOf eI [eI, eA, eS]) = -101; decide +kernel
theorem hcd3A (r : Int32) : hcd [eI, eA, eS] r (some eA) = -102 := by show -101 - nI (List.idxOf eA [eI, eA, eS]) = -102; decide +kernel
theorem hcd3S (r : Int32) : hcd [eI, eA, eS] r (some eS) = -103 := by show -101 - nI (List.idxOf eS [eI, eA, eS]) = -103; decide +kernel
theorem hcd2A (r : Int32) : hcd [eA, eS] r (some eA) = -101 := by show -101 - nI (List.idxOf eA [eA, eS]) = -101; decide +kernel
theorem hcd2S (r : Int32) : hcd [eA, eS] r (some eS) = -102 := by show -101 - nI (List.idxOf eS [eA, eS]) = -102; decide +kernel
theorem hcd1S (r : Int32) : hcd [eS] r (some eS) = -101 := by show -101 - nI (List.idxOf eS [eS]) = -101; decide +kernel
theorem hcd1A (r : Int32) : hcd [eA] r (some eA) = -101 := by show -101 - nI (List.idxOf eA [eA]) = -101; decide +kernel
theorem hcd1I (r : Int32) : hcd [eI] r (some eI) = -101 := by show -101 - nI (List.idxOf eI [eI]) = -101; decide +kernel
/-- what rigs and plays leave: 1, and the relation -/
def pR (ct : Nat → ClassId) (a : Nat → Nat) (N : Nat) : Option Value → va_W → Prop := fun r w => r = some (.int 1) ∧ ∃ (x : Nat → Nat → Int32) (fc fb fp fq fn fl : Nat → Int32), w = wT ct a x fc fb fp fq fn fl ∧ RE N x fc fb fp fq fn fl
theorem pick_lamp {n k e : Nat} (hn : n ≤ 5) (hk : k < n + 1) (he : e ≤ 1) : (∃ i, i < n ∧ nI k - nI e = nI i) ∨ ¬ (0 ≤ nI k - nI e ∧ nI k - nI e < nI n) := by
  rcases (show e = 0 ∨ (e = 1 ∧ k = 0) ∨ (e = 1 ∧ 0 < k) by omega) with rfl | ⟨rfl, rfl⟩ | ⟨rfl, h⟩
  · have e0 : nI k - nI 0 = nI k := pk_sub (Nat.zero_le k)
    rw [e0]
    by_cases h : k < n
    · exact Or.inl ⟨k, h, rfl⟩
    · exact Or.inr (fun z => absurd z.2 (nI_nlt (by omega) (by omega)))
  · exact Or.inr (fun z => absurd z.1 (by decide))
  · exact Or.inl ⟨k - 1, by omega, pk_sub h⟩
theorem pick_place {k e : Nat} (hk : k < 18) (he : e ≤ 1) : (∃ v, v ≤ 17 ∧ nI k - nI e = nI v) ∨ nI k - nI e = -1 := by
  rcases (show e = 0 ∨ (e = 1 ∧ k = 0) ∨ (e = 1 ∧ 0 < k) by omega) with rfl | ⟨rfl, rfl⟩ | ⟨rfl, h⟩
  · exact Or.inl ⟨k, by omega, pk_sub (Nat.zero_le k)⟩
  · exact Or.inr (by decide)
  · exact Or.inl ⟨k - 1, by omega, pk_sub h⟩

theorem b2_01 (c : Prop) [Decidable c] : b2 c = 0 ∨ b2 c = 1 := by unfold b2; split <;> simp

