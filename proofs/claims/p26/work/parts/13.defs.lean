/-! numbers and small words of the class (out of the proof of whole) -/
theorem fa_le (a b : Int32) : a ≤ b ↔ a.toInt ≤ b.toInt := Int32.le_iff_toInt_le
theorem fa_lt (a b : Int32) : a < b ↔ a.toInt < b.toInt := Int32.lt_iff_toInt_lt
/-- a number that was tested against 0 and k - 1 is an index below k -/
theorem idxN {v : Int32} {k : Nat} (h : 0 ≤ v ∧ v ≤ nI k - 1) (hk : k < 2 ^ 30) : v.toNatClampNeg < k ∧ v = nI v.toNatClampNeg := by
  obtain ⟨j, hj, rfl⟩ := nI_of (Int32.not_lt.mpr h.1)
  rw [nI_clamp hj]
  refine ⟨?_, rfl⟩
  have h2 := (fa_le _ _).mp h.2
  rw [nI_toInt hj, show (1 : Int32) = nI 1 from rfl, pk_sub_toInt hk (by decide)] at h2
  omega
theorem idxL {v : Int32} {k : Nat} (h : 0 ≤ v ∧ v < nI k) (hk : k < 2 ^ 31) : v.toNatClampNeg < k ∧ v = nI v.toNatClampNeg := by
  obtain ⟨j, hj, rfl⟩ := nI_below h hk
  rw [nI_clamp (by omega)]
  exact ⟨hj, rfl⟩
theorem b2_congr {c d : Prop} [Decidable c] [Decidable d] (h : c ↔ d) : b2 c = b2 d := by unfold b2; simp only [h]
def wgh (k : Int32) : Int32 := if k = 0 then 4 else if k = 1 then 9 else if k = 2 then 12 else 25
def drw (k : Int32) : Int32 := if k = 0 then 1000 else if k = 1 then 750 else if k = 2 then 500 else 800
def hasA (k : Int32) : Int32 := if k = 2 then 4 else if k = 3 then 12 else 1
abbrev inR (v lo hi : Int32) : Prop := lo ≤ v ∧ v ≤ hi
def orf (f : Nat → Int32) : Nat → Int32
  | 0 => 0
  | k + 1 => orf f k ||| f k

theorem vp_b2 (c : Prop) [Decidable c] : vp_nar .boolean (b2 c) = b2 c := by unfold b2; split <;> rfl
