/-! the relation -/
def RR (n h q b t : Nat) (x y : Nat → Nat → Int32) : Prop :=
  n ≤ 10 ∧ h < 2 ∧ q ≤ 8 ∧ b ≤ q ∧ x 0 0 = nI n ∧ y 4 0 = nI n ∧ x 4 0 = nI h ∧ y 0 0 = nI h ∧ x 16 0 = nI q ∧ y 18 0 = nI q ∧ x 22 0 + 1 = nI b ∧ y 23 0 = nI b ∧ x 21 0 = nI t ∧ TM y t ∧
  x 1 = y 6 ∧ x 2 = y 12 ∧ x 3 = y 11 ∧ x 5 = y 1 ∧ x 6 = y 2 ∧ x 7 = y 3 ∧ x 11 = y 8 ∧ x 17 = y 19 ∧ x 18 = y 20 ∧ x 19 = y 21 ∧ x 20 = y 22 ∧
  (∀ s, s < 2 → ∃ kb, kb ≤ 4 ∧ y 1 s = nI kb) ∧ (∀ j, j < 8 → ∃ ll, ll ≤ 100 ∧ y 2 j = nI ll) ∧
  (∀ k, k < n → inR (y 5 k) 0 3 ∧ x 8 k = wgh (y 5 k) ∧ x 13 k = hasA (y 5 k) ∧ x 15 k = drw (y 5 k)) ∧
  (∀ k, k < n → x 9 k = y 7 k ∧ x 12 k = y 9 k ∧ x 14 k = y 10 k) ∧
  (∀ k, n ≤ k → k < 10 → x 9 k = -1 ∧ x 12 k = -1 ∧ x 14 k = -1 ∧ x 24 k = -1 ∧ y 13 k = 0 ∧ y 14 k = 0 ∧ y 16 k = 0) ∧
  (∀ k, k < n → inR (y 9 k) (-1) 100) ∧ (∀ k, k < 10 → ∃ p, p ≤ 100 ∧ y 8 k = nI p) ∧
  (∀ c, c < 8 → ∀ k, n ≤ k → k < 10 → y 22 (10 * c + k) = -1) ∧ (∀ c, c < 8 → inR (y 20 c) 0 2) ∧
  (∀ k, k < 10 → (x 24 k = -1 ∧ y 13 k = 0 ∧ y 14 k = 0 ∧ y 16 k = 0) ∨ (∃ c, c < b ∧ x 24 k = nI c ∧ y 15 k = x 23 c ∧ y 16 k = x 17 c ∧ y 17 k = x 18 c ∧ y 13 k = x 25 k ∧ y 14 k = x 26 k)) ∧
  (0 < b → y 24 0 = x 23 (b - 1))
/-- .. with some numbers, the time at most N -/
def RE (N : Nat) (x y : Nat → Nat → Int32) : Prop := ∃ n h q b t, t ≤ N ∧ RR n h q b t x y
theorem RE.mono {N N' : Nat} (h : N ≤ N') {x y : Nat → Nat → Int32} (r : RE N x y) : RE N' x y := by
  obtain ⟨n, h0, q, b, t, ht, hr⟩ := r
  exact ⟨n, h0, q, b, t, Nat.le_trans ht h, hr⟩
theorem RR_0 : RR 0 0 0 0 0 x00 y00 :=
  ⟨by decide, by decide, by decide, by decide, rfl, rfl, rfl, rfl, rfl, rfl, by decide, rfl, rfl, ⟨rfl, fun k _ => ⟨0, Nat.le_refl 0, rfl⟩, fun k _ => ⟨0, Nat.zero_le _, rfl⟩, fun k _ => ⟨0, Nat.zero_le _, rfl⟩⟩,
   rfl, rfl, rfl, rfl, rfl, rfl, rfl, rfl, rfl, rfl, rfl, fun _ _ => ⟨0, Nat.zero_le _, rfl⟩, fun _ _ => ⟨0, Nat.zero_le _, rfl⟩, fun k hk => absurd hk (Nat.not_lt_zero k), fun k hk => absurd hk (Nat.not_lt_zero k),
   fun k _ hk => ⟨if_pos hk, if_pos hk, if_pos hk, if_pos hk, rfl, rfl, rfl⟩, fun k hk => absurd hk (Nat.not_lt_zero k), fun _ _ => ⟨0, Nat.zero_le _, rfl⟩,
   fun c hc k _ hk => if_pos (show 10 * c + k < 80 by omega), fun _ _ => ⟨(by decide : (0 : Int32) ≤ 0), (by decide : (0 : Int32) ≤ 2)⟩, fun k hk => Or.inl ⟨if_pos hk, rfl, rfl, rfl⟩, fun h => absurd h (Nat.lt_irrefl 0)⟩
/-! what follows of it -/
section RELF
variable {n h q b t : Nat} {x y : Nat → Nat → Int32}
theorem wgh_eq {v : Int32} (hv : inR v 0 3) : wdX v = hasA v := by
  obtain ⟨j, hj, rfl⟩ := nI_of2 (x := v) (M := 3) (n := 3) (by decide) (Int32.not_lt.mpr hv.1) hv.2
  rcases (show j = 0 ∨ j = 1 ∨ j = 2 ∨ j = 3 by omega) with rfl | rfl | rfl | rfl <;> decide
theorem fdk (r : RR n h q b t x y) : ∀ c, c < 8 → fadeOk (x 17 c) := by
  obtain ⟨-, -, -, -, -, -, -, -, -, -, -, -, -, hTM, -, -, -, -, -, -, -, e17, -⟩ := r
  intro c hc
  obtain ⟨f, hf, e⟩ := hTM.2.2.2 c hc
  rw [e17, e]
  intro h0 h1
  rcases (show f = 0 ∨ 0 < f by omega) with rfl | h2
  · exact absurd h0 (by decide)
  · have e2 : (nI f * nI f) = nI (f * f) := (Int32.ofNat_mul f f).symm
    rw [e2] at h1
    have : f * f ≤ 50 * 50 := Nat.mul_le_mul hf hf
    exact nI_ne0 (Nat.mul_pos h2 h2) (by omega) h1
/-- weights and clearances -/
theorem won_eq (r : RR n h q b t x y) {bar : Int32} (hb : bar ≠ -1) : wOnX x bar = wOnM y n bar (-1) := by
  obtain ⟨hn10, -, -, -, -, -, -, -, -, -, -, -, -, -, -, -, -, -, -, -, -, -, -, -, -, -, -, hkind, hlow, hhigh, -⟩ := r
  unfold wOnX wOnM
  rw [sumf_ext (n := n) hn10 (fun k h1 h2 => by rw [(hhigh k h1 h2).1, if_neg (fun z => hb z.symm)])]
  refine sumf_congr (fun k hk => ?_)
  rw [(hlow k hk).1, (hkind k hk).2.1]
  by_cases e : y 7 k = bar
  · rw [if_pos e, if_pos ⟨e, nI_m1 (by omega)⟩]
  · rw [if_neg e, if_neg (fun z => e z.1)]
theorem bear_eq (r : RR n h q b t x y) {i j : Nat} (hi : i < n) (hj : j < 4) : wOnX x (nI j) - (if x 9 i = nI j then x 8 i else 0) = wOnM y n (nI j) (nI i) := by
  obtain ⟨hn10, -, -, -, -, -, -, -, -, -, -, -, -, -, -, -, -, -, -, -, -, -, -, -, -, -, -, hkind, hlow, hhigh, -⟩ := r
  unfold wOnX wOnM
  rw [sumf_ext (n := n) hn10 (fun k h1 h2 => by rw [(hhigh k h1 h2).1, if_neg (fun z => nI_m1 (by omega) z.symm)])]
  rw [sumf_out (f := fun k => if x 9 k = nI j then x 8 k else 0) hi]
  refine sumf_congr (fun k hk => ?_)
  by_cases e : k = i
  · subst e; rw [if_pos rfl, if_neg (fun z => z.2 rfl)]
  · rw [if_neg e, (hlow k hk).1, (hkind k hk).2.1]
    by_cases e2 : y 7 k = nI j
    · rw [if_pos e2, if_pos ⟨e2, fun z => e ((nI_eq (by omega) (by omega)).mp z)⟩]
    · rw [if_neg e2, if_neg (fun z => e2 z.1)]
theorem clr_eq (r : RR n h q b t x y) {lm bar place : Int32} (hb : bar ≠ -1) : clrX x lm bar place ↔ ∀ k, k < n → farM y lm bar place k := by
  obtain ⟨hn10, -, -, -, -, -, -, -, -, -, -, -, -, -, -, -, -, -, -, -, e11, -, -, -, -, -, -, hkind, hlow, hhigh, -⟩ := r
  constructor
  · intro z k hk h1 h2
    rw [← e11]
    exact (abs_far _ _).mp (z k (by omega) h1 (by rw [(hlow k hk).1]; exact h2))
  · intro z k hk h1 h2
    by_cases e : k < n
    · rw [(hlow k e).1] at h2
      have := z k e h1 h2
      rw [← e11] at this
      exact (abs_far _ _).mpr this
    · rw [(hhigh k (by omega) hk).1] at h2
      exact absurd h2.symm hb
theorem can_eq (r : RR n h q b t x y) {i j : Nat} (hi : i < n) (hj : j < 4) {place : Int32} : (bearX x h i j ∧ clrX x (nI i) (nI j) place) ↔ canM y n h (nI i) (nI j) place := by
  have h1 := bear_eq r hi hj
  have h2 := clr_eq r (lm := nI i) (bar := nI j) (place := place) (nI_m1 (by omega))
  obtain ⟨hn10, -, -, -, -, -, -, -, -, -, -, -, -, -, -, -, -, -, -, e7, e11, -, -, -, -, -, -, hkind, hlow, hhigh, -⟩ := r
  unfold bearX canM bearM
  rw [h1, h2, e7, (hkind i hi).2.1, nI_clamp (by omega), nI_clamp (by omega)]
/-- addresses -/
theorem at_eq (r : RR n h q b t x y) {k : Nat} (hk : k < 100) : cntH x (nI k) = atM y n (nI k) := by
  obtain ⟨hn10, -, -, -, -, -, -, -, -, -, -, -, -, -, -, -, -, -, -, -, -, -, -, -, -, -, -, hkind, hlow, hhigh, hfst, -⟩ := r
  unfold cntH atM
  rw [sumf_ext (n := n) hn10 (fun j h1 h2 => by rw [(hhigh j h1 h2).2.1, if_neg (fun z => z.1 rfl)])]
  refine sumf_congr (fun j hj => ?_)
  rw [(hlow j hj).2.1, (hkind j hj).2.2.1]
  have hf := hfst j hj
  have hh : 1 ≤ (hasA (y 5 j)).toInt ∧ (hasA (y 5 j)).toInt ≤ 12 := by unfold hasA; split <;> (try split) <;> decide
  generalize y 9 j = f at hf
  generalize hasA (y 5 j) = w at hh
  have f1 := i_le.mp hf.1
  have f2 := i_le.mp hf.2
  have e1 : (-1 : Int32).toInt = -1 := by decide
  have e100 : (100 : Int32).toInt = 100 := by decide
  have e11 : (1 : Int32).toInt = 1 := by decide
  have a1 : (f + w).toInt = f.toInt + w.toInt := i_add (by omega) (by omega)
  have a2 : (f + w - 1).toInt = f.toInt + w.toInt - 1 := by rw [i_sub (by omega) (by omega), a1, e11]
  have hiff : (f ≠ -1 ∧ f ≤ nI k ∧ nI k < f + w) ↔ (f ≠ -1 ∧ inR (nI k) f (f + w - 1)) := by
    unfold inR
    rw [i_lt, i_le, i_le, a1, a2]
    constructor
    · rintro ⟨p1, p2, p3⟩; exact ⟨p1, p2, by omega⟩
    · rintro ⟨p1, p2, p3⟩; exact ⟨p1, p2, by omega⟩
  by_cases e : f ≠ -1 ∧ f ≤ nI k ∧ nI k < f + w
  · rw [if_pos e, if_pos (hiff.mp e)]
  · rw [if_neg e, if_neg (fun z => e (hiff.mpr z))]
end RELF
