/-! the relation between the class's cells and the law's arrays -/
def Rh (h : Nat) (kb : Nat → Nat) (x : Nat → Nat → Int32) (fc fb : Nat → Int32) : Prop :=
  h < 2 ∧ x 4 0 = nI h ∧ fc 0 = nI h ∧ (∀ s, s < 2 → kb s ≤ 2 ∧ x 5 s = nI (kb s) ∧ fc (1 + s) = nI (kb s)) ∧
  (∀ s, s < 2 → ∀ j, j < 2 → x 6 (4 * s + j) = fb (2 * s + j) ∧ x 7 (4 * s + j) = fb (4 + (2 * s + j)) ∧ fb (2 * s + j) ≤ nI 100)
def Rl (n : Nat) (K : Nat → Nat) (x : Nat → Nat → Int32) (fc fp : Nat → Int32) : Prop :=
  n ≤ 5 ∧ x 0 0 = nI n ∧ fc 3 = nI n ∧
  (∀ k, k < n → K k < 4 ∧ fp k = nI (K k) ∧ x 8 k = nI (hvN (K k)) ∧ x 13 k = nI (hsN (K k)) ∧ x 15 k = nI (wtN (K k)) ∧ x 1 k = fp (5 + k) ∧ x 9 k = fp (10 + k) ∧ x 12 k = fp (20 + k) ∧ x 14 k = fp (25 + k)) ∧
  (∀ k, k < 5 → x 11 k = fp (15 + k) ∧ x 3 k = fp (30 + k) ∧ x 2 k = fp (35 + k)) ∧
  (∀ k, n ≤ k → k < 10 → x 9 k = -1 ∧ x 12 k = -1 ∧ x 14 k = -1)
def Rr (n : Nat) (K : Nat → Nat) (fp : Nat → Int32) : Prop :=
  (∀ k, k < n → (∃ m, m ≤ 20 ∧ fp (5 + k) = nI m) ∧ (fp (20 + k) = -1 ∨ ∃ m, m + hsN (K k) ≤ 100 ∧ fp (20 + k) = nI m) ∧ (fp (25 + k) = -1 ∨ ∃ m, m < 4 ∧ fp (25 + k) = nI m)) ∧
  (∀ k, k < 5 → (∃ m, m ≤ 100 ∧ fp (15 + k) = nI m) ∧ (fp (30 + k) = nI 0 ∨ fp (30 + k) = nI 1))
def Rp (n h : Nat) (kb : Nat → Nat) (fp : Nat → Int32) : Prop :=
  (∀ k, k < n → fp (10 + k) = -1 ∨ ∃ j, j < kb h ∧ fp (10 + k) = nI j) ∧
  (∀ k, k < n → ∀ k', k' < n → k ≠ k' → fp (10 + k) = fp (10 + k') → fp (10 + k) ≠ -1 → fp (15 + k) ≠ fp (15 + k'))
def Rc (q : Nat) (F V : Nat → Nat) (x : Nat → Nat → Int32) (fc fq fn : Nat → Int32) : Prop :=
  q ≤ 4 ∧ x 16 0 = nI q ∧ fc 4 = nI q ∧
  (∀ c, c < q → F c ≤ 50 ∧ V c ≤ 2 ∧ fq c = nI (F c) ∧ x 17 c = nI (F c) ∧ fq (4 + c) = nI (V c) ∧ x 18 c = nI (V c) ∧ x 19 c = fq (8 + c)) ∧
  (∀ c, c < 8 → fadeOk (x 17 c)) ∧
  (∀ c, c < 4 → ∀ k, k < 5 → x 20 (10 * c + k) = fn (5 * c + k) ∧ (fn (5 * c + k) = -1 ∨ ∃ m, m ≤ 100 ∧ fn (5 * c + k) = nI m)) ∧
  (∀ c, q ≤ c → c < 4 → ∀ k, k < 5 → fn (5 * c + k) = -1)
def Rs (b t : Nat) (S F V : Nat → Nat) (x : Nat → Nat → Int32) (fc fl : Nat → Int32) : Prop :=
  x 22 0 + 1 = nI b ∧ fc 5 = nI b ∧ x 21 0 = nI t ∧ fc 7 = nI t ∧ (0 < b → fc 6 = nI (S (b - 1))) ∧ (∀ c, c < b → x 23 c = nI (S c)) ∧ flOk fl S F V b t ∧
  (∀ c, c < b → ∀ k, k < 5 → fl (8 * c + 3 + k) = -1 ∨ ∃ m, m ≤ 100 ∧ fl (8 * c + 3 + k) = nI m) ∧
  (∀ k, k < 5 → x 24 k = lstI (wst fl S F V k b).2.2 ∧ (0 < (wst fl S F V k b).2.2 → x 25 k = (wst fl S F V k b).1 ∧ x 26 k = (wst fl S F V k b).2.1))
def RR (n h q b t : Nat) (kb K S F V : Nat → Nat) (x : Nat → Nat → Int32) (fc fb fp fq fn fl : Nat → Int32) : Prop :=
  Rh h kb x fc fb ∧ Rl n K x fc fp ∧ Rr n K fp ∧ Rp n h kb fp ∧ Rc q F V x fc fq fn ∧ Rs b t S F V x fc fl ∧ b ≤ q
def RE (N : Nat) (x : Nat → Nat → Int32) (fc fb fp fq fn fl : Nat → Int32) : Prop := ∃ n h q b t kb K S F V, t ≤ N ∧ RR n h q b t kb K S F V x fc fb fp fq fn fl
theorem RE.mono {N N' : Nat} (h : N ≤ N') {x : Nat → Nat → Int32} {fc fb fp fq fn fl : Nat → Int32} (r : RE N x fc fb fp fq fn fl) : RE N' x fc fb fp fq fn fl := by
  obtain ⟨n, h0, q, b, t, kb, K, S, F, V, ht, r⟩ := r
  exact ⟨n, h0, q, b, t, kb, K, S, F, V, Nat.le_trans ht h, r⟩
def fn00 : Nat → Int32 := fun k => if k < 20 then -1 else 0
theorem RR_0 : RR 0 0 0 0 0 (fun _ => 0) (fun _ => 0) (fun _ => 0) (fun _ => 0) (fun _ => 0) x00 (fun _ => 0) (fun _ => 0) (fun _ => 0) (fun _ => 0) fn00 (fun _ => 0) := by
  refine ⟨⟨by decide, rfl, rfl, fun s _ => ⟨Nat.zero_le 2, rfl, rfl⟩, fun s _ j _ => ⟨rfl, rfl, (show (0 : Int32) ≤ nI 100 by decide)⟩⟩, ⟨by decide, rfl, rfl, fun k hk => absurd hk (Nat.not_lt_zero k), fun k _ => ⟨rfl, rfl, rfl⟩, fun k _ hk => ⟨if_pos hk, if_pos hk, if_pos hk⟩⟩,
    ⟨fun k hk => absurd hk (Nat.not_lt_zero k), fun k _ => ⟨⟨0, Nat.zero_le _, rfl⟩, Or.inl rfl⟩⟩, ⟨fun k hk => absurd hk (Nat.not_lt_zero k), fun k hk => absurd hk (Nat.not_lt_zero k)⟩, ?_, ?_, Nat.le_refl 0⟩
  · refine ⟨by decide, rfl, rfl, fun c hc => absurd hc (Nat.not_lt_zero c), fun c _ h0 => absurd h0 (show ¬ (0 : Int32) < 0 by decide), fun c hc k hk => ?_, fun c _ hc k hk => if_pos (by omega)⟩
    have e1 : x00 20 (10 * c + k) = -1 := if_pos (show 10 * c + k < 80 by omega)
    have e2 : fn00 (5 * c + k) = -1 := if_pos (show 5 * c + k < 20 by omega)
    exact ⟨e1.trans e2.symm, Or.inl e2⟩
  · refine ⟨by decide, rfl, rfl, rfl, fun h => absurd h (Nat.lt_irrefl 0), fun c hc => absurd hc (Nat.not_lt_zero c), ⟨fun c hc => absurd hc (Nat.not_lt_zero c), fun c d _ hd => absurd hd (Nat.not_lt_zero d)⟩, fun c hc => absurd hc (Nat.not_lt_zero c), fun k hk => ⟨if_pos (show k < 10 by omega), fun h => absurd h (Nat.lt_irrefl 0)⟩⟩
/-! what is made of congruent cells -/
theorem Rh_cg {h : Nat} {kb : Nat → Nat} {x x' : Nat → Nat → Int32} {fc fc' fb : Nat → Int32} (r : Rh h kb x fc fb) (e4 : x' 4 = x 4) (e5 : x' 5 = x 5) (e6 : x' 6 = x 6) (e7 : x' 7 = x 7) (c0 : fc' 0 = fc 0) (c1 : fc' 1 = fc 1) (c2 : fc' 2 = fc 2) : Rh h kb x' fc' fb := by
  obtain ⟨a1, a2, a3, a4, a5⟩ := r
  refine ⟨a1, by rw [e4]; exact a2, by rw [c0]; exact a3, fun s hs => ?_, fun s hs j hj => by rw [e6, e7]; exact a5 s hs j hj⟩
  obtain ⟨b1, b2, b3⟩ := a4 s hs
  refine ⟨b1, by rw [e5]; exact b2, ?_⟩
  rcases (show s = 0 ∨ s = 1 by omega) with rfl | rfl
  · rw [c1]; exact b3
  · rw [c2]; exact b3
theorem Rl_cg {n : Nat} {K : Nat → Nat} {x x' : Nat → Nat → Int32} {fc fc' fp : Nat → Int32} (r : Rl n K x fc fp) (e0 : x' 0 = x 0) (e1 : x' 1 = x 1) (e2 : x' 2 = x 2) (e3 : x' 3 = x 3) (e8 : x' 8 = x 8) (e9 : x' 9 = x 9) (e11 : x' 11 = x 11) (e12 : x' 12 = x 12) (e13 : x' 13 = x 13) (e14 : x' 14 = x 14) (e15 : x' 15 = x 15) (c3 : fc' 3 = fc 3) : Rl n K x' fc' fp := by
  unfold Rl
  rw [e0, e1, e2, e3, e8, e9, e11, e12, e13, e14, e15, c3]
  exact r
theorem Rc_cg {q : Nat} {F V : Nat → Nat} {x x' : Nat → Nat → Int32} {fc fc' fq fn : Nat → Int32} (r : Rc q F V x fc fq fn) (e16 : x' 16 = x 16) (e17 : x' 17 = x 17) (e18 : x' 18 = x 18) (e19 : x' 19 = x 19) (e20 : x' 20 = x 20) (c4 : fc' 4 = fc 4) : Rc q F V x' fc' fq fn := by
  unfold Rc
  rw [e16, e17, e18, e19, e20, c4]
  exact r
theorem Rs_cg {b t : Nat} {S F V : Nat → Nat} {x x' : Nat → Nat → Int32} {fc fc' fl : Nat → Int32} (r : Rs b t S F V x fc fl) (e21 : x' 21 = x 21) (e22 : x' 22 = x 22) (e23 : x' 23 = x 23) (e24 : x' 24 = x 24) (e25 : x' 25 = x 25) (e26 : x' 26 = x 26) (c5 : fc' 5 = fc 5) (c6 : fc' 6 = fc 6) (c7 : fc' 7 = fc 7) : Rs b t S F V x' fc' fl := by
  unfold Rs
  rw [e21, e22, e23, e24, e25, e26, c5, c6, c7]
  exact r
/-! numbers -/
theorem wgh_N {k : Nat} (h : k < 4) : wgh (nI k) = nI (hvN k) := by
  rcases (show k = 0 ∨ k = 1 ∨ k = 2 ∨ k = 3 by omega) with rfl | rfl | rfl | rfl <;> decide
theorem wdX_N {k : Nat} (h : k < 4) : wdX (nI k) = nI (hsN k) := by
  rcases (show k = 0 ∨ k = 1 ∨ k = 2 ∨ k = 3 by omega) with rfl | rfl | rfl | rfl <;> decide
theorem drw_N {k : Nat} (h : k < 4) : drw (nI k) = nI (wtN k) := by
  rcases (show k = 0 ∨ k = 1 ∨ k = 2 ∨ k = 3 by omega) with rfl | rfl | rfl | rfl <;> decide
theorem hsN_le (k : Nat) : 1 ≤ hsN k ∧ hsN k ≤ 12 := by unfold hsN; split <;> (try split) <;> omega
theorem hvN_le (k : Nat) : hvN k ≤ 25 := by unfold hvN; split <;> (try split) <;> (try split) <;> omega
theorem wtN_le (k : Nat) : wtN k ≤ 1000 := by unfold wtN; split <;> (try split) <;> (try split) <;> omega
theorem nI_lt0 {k : Nat} (h : k < 2 ^ 31) : ¬ nI k < 0 := nI_pos h
theorem i_msb (u : Int32) : u.toInt < 0 ↔ u.toBitVec.msb = true := by
  show u.toBitVec.toInt < 0 ↔ _
  rw [BitVec.toInt_eq_msb_cond]
  have := u.toBitVec.isLt
  split
  · rename_i h; rw [h]; constructor
    · intro _; rfl
    · intro _; omega
  · rename_i h; constructor
    · intro z; omega
    · intro z; exact absurd z h
theorem fd_xor (u v : Int32) : (u ^^^ v).toInt < 0 ↔ ¬ (u.toInt < 0 ↔ v.toInt < 0) := by
  rw [i_msb, i_msb, i_msb]
  show (u.toBitVec ^^^ v.toBitVec).msb = true ↔ _
  rw [BitVec.msb_xor]
  cases u.toBitVec.msb <;> cases v.toBitVec.msb <;> simp
theorem i_as (u v w : Int32) : u + v - w = u + (v - w) := by rw [Int32.sub_eq_add_neg, Int32.sub_eq_add_neg, Int32.add_assoc]
theorem fd_div {A : Int32} {D : Nat} (hD : 0 < D) (hD2 : D ≤ 2500) (hA1 : -(100 * (D : Int)) ≤ A.toInt) (hA2 : A.toInt ≤ 100 * (D : Int)) : ((A + nI (100 * D)) / nI D).toInt = A.toInt / (D : Int) + 100 ∧ -100 ≤ A.toInt / (D : Int) ∧ A.toInt / (D : Int) ≤ 100 := by
  have eD : (nI D).toInt = (D : Int) := nI_toInt (by omega)
  have eD1 : (nI (100 * D)).toInt = ((100 * D : Nat) : Int) := nI_toInt (by omega)
  have es : (A + nI (100 * D)).toInt = A.toInt + 100 * (D : Int) := by rw [i_add (by omega) (by omega), eD1]; omega
  have hne : nI D ≠ -1 := nI_m1 (by omega)
  have ed : ((A + nI (100 * D)) / nI D).toInt = (A.toInt + 100 * (D : Int)) / (D : Int) := by
    rw [Int32.toInt_div_of_ne_right _ _ hne, es, eD, Int.tdiv_eq_ediv_of_nonneg (by omega)]
  have ed2 : (A.toInt + 100 * (D : Int)) / (D : Int) = A.toInt / (D : Int) + 100 := Int.add_mul_ediv_right _ _ (by omega)
  refine ⟨by rw [ed, ed2], ?_, ?_⟩
  · have b2 : A.toInt < (A.toInt / (D : Int) + 1) * D := Int.lt_ediv_add_one_mul_self _ (by omega)
    rcases Int.lt_or_le (A.toInt / (D : Int)) (-100) with z | z
    · exfalso
      have z1 : A.toInt / (D : Int) + 1 ≤ -100 := by omega
      have := Int.mul_le_mul_of_nonneg_right z1 (show (0 : Int) ≤ D by omega)
      omega
    · exact z
  · have b1 : A.toInt / (D : Int) * D ≤ A.toInt := Int.ediv_mul_le _ (by omega)
    rcases Int.lt_or_le 100 (A.toInt / (D : Int)) with z | z
    · exfalso
      have z1 : (101 : Int) ≤ A.toInt / (D : Int) := by omega
      have := Int.mul_le_mul_of_nonneg_right z1 (show (0 : Int) ≤ D by omega)
      omega
    · exact z
section RELF
variable {n h q b t : Nat} {kb K S F V : Nat → Nat} {x : Nat → Nat → Int32} {fc fb fp fq fn fl : Nat → Int32}
/-- weights -/
theorem won_eq (r : Rl n K x fc fp) {bar : Int32} (hb : bar ≠ -1) : wOnX x bar = wgL fp K bar (-1) n := by
  obtain ⟨hn5, -, -, hlow, -, hhigh⟩ := r
  unfold wOnX wgL
  rw [sumf_ext (n := n) (show n ≤ 10 by omega) (fun k h1 h2 => by rw [(hhigh k h1 h2).1, if_neg (fun z => hb z.symm)])]
  refine sumf_congr (fun k hk => ?_)
  obtain ⟨-, -, h8, -, -, -, h9, -⟩ := hlow k hk
  rw [h8, h9]
  by_cases e : fp (10 + k) = bar
  · rw [if_pos e, if_pos ⟨e, nI_m1 (by omega)⟩]
  · rw [if_neg e, if_neg (fun z => e z.1)]
theorem bear_eq (r : Rl n K x fc fp) {i j : Nat} (hi : i < n) (hj : j < 2 ^ 31) : wOnX x (nI j) - (if x 9 i = nI j then x 8 i else 0) = wgL fp K (nI j) (nI i) n := by
  obtain ⟨hn5, -, -, hlow, -, hhigh⟩ := r
  unfold wOnX wgL
  rw [sumf_ext (n := n) (show n ≤ 10 by omega) (fun k h1 h2 => by rw [(hhigh k h1 h2).1, if_neg (fun z => nI_m1 hj z.symm)])]
  rw [sumf_out (f := fun k => if x 9 k = nI j then x 8 k else 0) hi]
  refine sumf_congr (fun k hk => ?_)
  obtain ⟨-, -, h8, -, -, -, h9, -⟩ := hlow k hk
  by_cases e : k = i
  · subst e; rw [if_pos rfl, if_neg (fun z => z.2 rfl)]
  · rw [if_neg e, h8, h9]
    by_cases e2 : fp (10 + k) = nI j
    · rw [if_pos e2, if_pos ⟨e2, fun z => e ((nI_eq (by omega) (by omega)).mp z)⟩]
    · rw [if_neg e2, if_neg (fun z => e2 z.1)]
theorem far_eq {u v : Int32} (hu : -1000 ≤ u.toInt ∧ u.toInt ≤ 1000) (hv : -1000 ≤ v.toInt ∧ v.toInt ≤ 1000) : ¬ absI (u - v) < 3 ↔ (nI 2 < u - v ∨ u - v < -2) := by
  rw [abs_far]
  have h3 : (3 : Int32).toInt = 3 := by decide
  have h2 : (nI 2).toInt = 2 := by decide
  have hm : (-2 : Int32).toInt = -2 := by decide
  have a1 : (u - v).toInt = u.toInt - v.toInt := i_sub (by omega) (by omega)
  have a2 : (v - u).toInt = v.toInt - u.toInt := i_sub (by omega) (by omega)
  rw [i_le, i_le, i_lt, i_lt, h3, h2, hm, a1, a2]
  omega
theorem clr_eq (r : Rl n K x fc fp) (rr : Rr n K fp) {i j : Nat} (hi : i < n) (hj : j < 2 ^ 31) {v : Int32} (hv : -1000 ≤ v.toInt ∧ v.toInt ≤ 1000) : clrX x (nI i) (nI j) v ↔ ∀ k, k < n → okF fp i j v k := by
  obtain ⟨hn5, -, -, hlow, hall, hhigh⟩ := r
  have key : ∀ k, k < 5 → (¬ absI (x 11 k - v) < 3 ↔ (nI 2 < fp (15 + k) - v ∨ fp (15 + k) - v < -2)) := fun k hk => by
    obtain ⟨m, hm, em⟩ := (rr.2 k hk).1
    have e : (fp (15 + k)).toInt = (m : Int) := by rw [em]; exact nI_toInt (by omega)
    rw [(hall k hk).1]
    exact far_eq ⟨by omega, by omega⟩ hv
  constructor
  · intro z k hk
    by_cases e : k = i
    · exact Or.inl e
    · by_cases e2 : fp (10 + k) = nI j
      · obtain ⟨-, -, -, -, -, -, h9, -⟩ := hlow k hk
        have := z k (by omega) (fun w => e ((nI_eq (by omega) (by omega)).mp w)) (by rw [h9]; exact e2)
        exact Or.inr (Or.inr ((key k (by omega)).mp this))
      · exact Or.inr (Or.inl e2)
  · intro z k hk h1 h2
    by_cases e : k < n
    · obtain ⟨-, -, -, -, -, -, h9, -⟩ := hlow k e
      rcases z k e with w | w | w
      · exact absurd (by rw [w]) h1
      · exact absurd (by rw [← h9]; exact h2) w
      · exact (key k (by omega)).mpr w
    · rw [(hhigh k (by omega) hk).1] at h2
      exact absurd h2.symm (nI_m1 hj)
theorem can_eq (rh : Rh h kb x fc fb) (r : Rl n K x fc fp) (rr : Rr n K fp) {i j : Nat} (hi : i < n) (hj : j < 2) {v : Int32} (hv : -1000 ≤ v.toInt ∧ v.toInt ≤ 1000) : (plcX x h j v ∧ bearX x h i j ∧ clrX x (nI i) (nI j) v) ∧ j < kb h ↔ fitL fb fp K n h (kb h) i j v n := by
  have h1 := bear_eq r hi (j := j) (by omega)
  have h2 := clr_eq r rr hi (j := j) (by omega) hv
  obtain ⟨hh, -, -, -, h67⟩ := rh
  obtain ⟨e6, e7, -⟩ := h67 h hh j hj
  obtain ⟨-, -, -, hlow, -, -⟩ := r
  obtain ⟨-, -, h8, -⟩ := hlow i hi
  have e0 : nI 0 = (0 : Int32) := nI_0
  unfold plcX bearX fitL fit0
  rw [h1, h2, e6, e7, h8, e0]
  constructor
  · rintro ⟨⟨⟨a1, a2⟩, a3, a4⟩, a5⟩; exact ⟨⟨a5, a1, a2, a3⟩, a4⟩
  · rintro ⟨⟨a5, a1, a2, a3⟩, a4⟩; exact ⟨⟨⟨a1, a2⟩, a3, a4⟩, a5⟩
/-- levels -/
theorem fd_eq {U Wn d f cv : Nat} (hU : U ≤ 100) (hW : Wn ≤ 100) (hf : f ≤ 50) (hcv : cv ≤ 2) (hd : d < f) : fdI (nI U) (nI Wn) d f cv = nI U + gain (nI Wn - nI U) (nI d) (nI f) (nI cv) := by
  have hw : (nI Wn - nI U).toInt = (Wn : Int) - U := pk_sub_toInt (by omega) (by omega)
  -- one division
  have key : ∀ (A : Int32) (D : Nat), 0 < D → D ≤ 2500 → -(100 * (D : Int)) ≤ A.toInt → A.toInt ≤ 100 * (D : Int) → (A + nI (100 * D)) / nI D - nI 100 = fdiv A (nI D) := by
    intro A D hD hD2 hA1 hA2
    obtain ⟨ed, c1, c2⟩ := fd_div hD hD2 hA1 hA2
    have eD : (nI D).toInt = (D : Int) := nI_toInt (by omega)
    have e100 : (nI 100).toInt = 100 := by decide
    have e1 : (1 : Int32).toInt = 1 := by decide
    have hne : nI D ≠ -1 := nI_m1 (by omega)
    have b1 : A.toInt / (D : Int) * D ≤ A.toInt := Int.ediv_mul_le _ (by omega)
    have b2 : A.toInt < (A.toInt / (D : Int) + 1) * D := Int.lt_ediv_add_one_mul_self _ (by omega)
    apply Int32.toInt_inj.mp
    rw [i_sub (by rw [ed]; omega) (by rw [ed]; omega), ed, e100]
    have hd0 : (A / nI D).toInt = A.toInt.tdiv (D : Int) := by rw [Int32.toInt_div_of_ne_right _ _ hne, eD]
    have i0 : (0 : Int32).toInt = 0 := by decide
    unfold fdiv
    by_cases hA : 0 ≤ A.toInt
    · have hx : 0 ≤ A ^^^ nI D := by
        rw [i_le, i0]
        have := fd_xor A (nI D)
        have h9 : ¬ (A ^^^ nI D).toInt < 0 := fun z => this.mp z ⟨fun w => by omega, fun w => by omega⟩
        omega
      rw [if_pos hx, hd0, Int.tdiv_eq_ediv_of_nonneg hA]; omega
    · have hx : ¬ 0 ≤ A ^^^ nI D := by
        rw [i_le, i0]
        have h9 : (A ^^^ nI D).toInt < 0 := (fd_xor A (nI D)).mpr (fun w => by have := w.mp (by omega); omega)
        omega
      rw [if_neg hx]
      have e : A.toInt.tdiv (D : Int) = -((-A.toInt).tdiv (D : Int)) := by rw [Int.neg_tdiv, Int.neg_neg]
      have hA' : 0 ≤ -A.toInt := by omega
      have f1 := Int.ediv_mul_le (-A.toInt) (show (D : Int) ≠ 0 by omega)
      have f2 := Int.lt_ediv_add_one_mul_self (-A.toInt) (show (0 : Int) < D by omega)
      have f3 := Int.ediv_nonneg hA' (show (0 : Int) ≤ D by omega)
      have f4 : -A.toInt / (D : Int) ≤ 100 := by
        rcases Int.lt_or_le 100 (-A.toInt / (D : Int)) with z | z
        · exfalso
          have z1 : (101 : Int) ≤ -A.toInt / (D : Int) := by omega
          have := Int.mul_le_mul_of_nonneg_right z1 (show (0 : Int) ≤ D by omega)
          omega
        · exact z
      rw [Int.tdiv_eq_ediv_of_nonneg hA'] at e
      have hm : (A / nI D * nI D).toInt = -((-A.toInt / (D : Int)) * D) := by
        have f5 := Int.mul_nonneg f3 (show (0 : Int) ≤ D by omega)
        rw [Int32.toInt_mul, hd0, e, eD, Int.neg_mul]
        exact i_bm (by omega) (by omega)
      generalize hQ1 : A.toInt / (D : Int) = Q1 at *
      generalize hQ2 : -A.toInt / (D : Int) = Q2 at *
      have hQ1m : Q1 * D ≤ A.toInt := b1
      rw [Int.add_mul] at b2 f2
      by_cases e2 : A / nI D * nI D = A
      · rw [if_pos e2, hd0, e]
        have e3 : -(Q2 * D) = A.toInt := by rw [← hm, e2]
        have : (Q1 + Q2) * D ≤ 0 := by rw [Int.add_mul]; omega
        have g1 : Q1 + Q2 ≤ 0 := by
          rcases Int.lt_or_le 0 (Q1 + Q2) with z | z
          · have := Int.mul_le_mul_of_nonneg_right (show (1 : Int) ≤ Q1 + Q2 by omega) (show (0 : Int) ≤ D by omega)
            omega
          · exact z
        have g2 : 0 ≤ Q1 + Q2 := by
          rcases Int.lt_or_le (Q1 + Q2) 0 with z | z
          · have := Int.mul_le_mul_of_nonneg_right (show Q1 + Q2 ≤ -1 by omega) (show (0 : Int) ≤ D by omega)
            rw [Int.add_mul] at this
            omega
          · exact z
        omega
      · rw [if_neg e2]
        have e3 : -(Q2 * D) ≠ A.toInt := fun z => e2 (Int32.toInt_inj.mp (by rw [hm, z]))
        rw [i_sub (by rw [hd0, e, e1]; omega) (by rw [hd0, e, e1]; omega), hd0, e, e1]
        have g1 : Q1 + Q2 < 0 := by
          rcases Int.lt_or_le (Q1 + Q2) 0 with z | z
          · exact z
          · have := Int.mul_le_mul_of_nonneg_right z (show (0 : Int) ≤ D by omega)
            rw [Int.add_mul] at this
            omega
        have g2 : -1 ≤ Q1 + Q2 := by
          rcases Int.lt_or_le (Q1 + Q2) (-1) with z | z
          · have := Int.mul_le_mul_of_nonneg_right (show Q1 + Q2 ≤ -2 by omega) (show (0 : Int) ≤ D by omega)
            rw [Int.add_mul] at this
            omega
          · exact z
        omega
  have hf0 : ¬ nI f ≤ 0 := nI_nle (by omega) (by omega)
  have ed : (nI d).toInt = (d : Int) := nI_toInt (by omega)
  have e1 : ((nI Wn - nI U) * nI d).toInt = ((Wn : Int) - U) * d := by
    rw [Int32.toInt_mul, hw, ed]
    have a1 : ((Wn : Int) - U) * d ≤ 100 * d := Int.mul_le_mul_of_nonneg_right (by omega) (by omega)
    have a2 : -100 * (d : Int) ≤ ((Wn : Int) - U) * d := Int.mul_le_mul_of_nonneg_right (by omega) (by omega)
    exact i_bm (by omega) (by omega)
  have a1 : ((Wn : Int) - U) * d ≤ 100 * d := Int.mul_le_mul_of_nonneg_right (by omega) (by omega)
  have a2 : -100 * (d : Int) ≤ ((Wn : Int) - U) * d := Int.mul_le_mul_of_nonneg_right (by omega) (by omega)
  unfold fdI gain
  rw [if_neg (by omega)]
  rcases (show cv = 0 ∨ cv = 1 ∨ cv = 2 by omega) with rfl | rfl | rfl
  · rw [if_pos rfl, if_neg (show ¬ nI 0 = 2 by decide), if_neg hf0, if_neg (show ¬ nI 0 = 1 by decide), ← key _ f (by omega) (by omega) (by rw [e1]; omega) (by rw [e1]; omega)]
    exact i_as _ _ _
  · rw [if_neg (show ¬ 1 = 0 by decide), if_pos rfl, if_neg (show ¬ nI 1 = 2 by decide), if_neg hf0, if_pos (show nI 1 = 1 by decide)]
    have f2 : f * f ≤ 2500 := Nat.mul_le_mul hf hf
    have hdd : d * d ≤ f * f := Nat.mul_le_mul (by omega) (by omega)
    have hdd2 : ((d * d : Nat) : Int) = (d : Int) * d := Int.natCast_mul d d
    have a3 : ((Wn : Int) - U) * d * d ≤ 100 * (d * d) := by rw [Int.mul_assoc]; exact Int.mul_le_mul_of_nonneg_right (by omega) (by omega)
    have a4 : -100 * ((d : Int) * d) ≤ ((Wn : Int) - U) * d * d := by rw [Int.mul_assoc]; exact Int.mul_le_mul_of_nonneg_right (by omega) (by omega)
    have e2 : ((nI Wn - nI U) * nI d * nI d).toInt = ((Wn : Int) - U) * d * d := by
      rw [Int32.toInt_mul, e1, ed]
      exact i_bm (by omega) (by omega)
    have e3 : nI f * nI f = nI (f * f) := pk_mul f f
    have e4 : 100 * f * f = 100 * (f * f) := Nat.mul_assoc 100 f f
    have e5 : ((f * f : Nat) : Int) ≤ 2500 := by omega
    rw [e3, e4, ← key _ (f * f) (Nat.mul_pos (by omega) (by omega)) f2 (by rw [e2]; omega) (by rw [e2]; omega)]
    exact i_as _ _ _
  · rw [if_neg (show ¬ 2 = 0 by decide), if_neg (show ¬ 2 = 1 by decide), if_pos (show nI 2 = 2 by decide), Int32.add_zero]
end RELF
