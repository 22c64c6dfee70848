/-! levels of both are one; cues begin alike -/
theorem i_msb (u : Int32) : u.toInt < 0 ↔ u.toBitVec.msb = true := by
  show u.toBitVec.toInt < 0 ↔ _
  rw [BitVec.toInt_eq_msb_cond]
  have := u.toBitVec.isLt
  split
  · rename_i h; rw [h]; constructor
    · intro _; rfl
    · intro _; omega
  · rename_i h; constructor
    · intro z; omega
    · intro z; exact absurd z h
theorem i_xor (u v : Int32) : (u ^^^ v).toInt < 0 ↔ ¬ (u.toInt < 0 ↔ v.toInt < 0) := by
  rw [i_msb, i_msb, i_msb]
  show (u.toBitVec ^^^ v.toBitVec).msb = true ↔ _
  rw [BitVec.msb_xor]
  cases u.toBitVec.msb <;> cases v.toBitVec.msb <;> simp
theorem fdiv_qtn {u v : Int32} (hv : 0 < v) : fdiv u v = qtn u v := by
  have h0 : (0 : Int32).toInt = 0 := by decide
  have v1 : 0 < v.toInt := by have := i_lt.mp hv; omega
  have v2 := Int32.toInt_lt v
  have u1 := Int32.le_toInt u
  have u2 := Int32.toInt_lt u
  have hd : (u / v).toInt = u.toInt.tdiv v.toInt := Int32.toInt_div_of_ne_right u v (fun z => by rw [z] at v1; exact absurd v1 (by decide))
  have hm : (u / v * v).toInt = u.toInt.tdiv v.toInt * v.toInt := by
    rw [Int32.toInt_mul, hd]
    by_cases hu : 0 ≤ u.toInt
    · rw [Int.tdiv_eq_ediv_of_nonneg hu]
      have a1 := Int.ediv_mul_le u.toInt (Int.ne_of_gt v1)
      have a2 := Int.ediv_nonneg hu (Int.le_of_lt v1)
      have a3 := Int.mul_nonneg a2 (Int.le_of_lt v1)
      exact i_bm (by omega) (by omega)
    · have e : u.toInt.tdiv v.toInt = -((-u.toInt).tdiv v.toInt) := by rw [Int.neg_tdiv, Int.neg_neg]
      have hu' : 0 ≤ -u.toInt := by omega
      rw [e, Int.tdiv_eq_ediv_of_nonneg hu', Int.neg_mul]
      have a1 := Int.ediv_mul_le (-u.toInt) (Int.ne_of_gt v1)
      have a2 := Int.ediv_nonneg hu' (Int.le_of_lt v1)
      have a3 := Int.mul_nonneg a2 (Int.le_of_lt v1)
      exact i_bm (by omega) (by omega)
  unfold fdiv qtn
  by_cases hu : 0 ≤ u.toInt
  · have hx : 0 ≤ u ^^^ v := by
      rw [i_le, h0]
      have := (i_xor u v)
      have h9 : ¬ (u ^^^ v).toInt < 0 := fun z => this.mp z ⟨fun w => by omega, fun w => by omega⟩
      omega
    rw [if_pos hx]
    have : u / v * v ≤ u := by
      rw [i_le, hm, Int.tdiv_eq_ediv_of_nonneg hu]
      exact Int.ediv_mul_le u.toInt (Int.ne_of_gt v1)
    rw [if_pos this]
  · have hx : ¬ 0 ≤ u ^^^ v := by
      rw [i_le, h0]
      have h9 : (u ^^^ v).toInt < 0 := (i_xor u v).mpr (fun w => by have := w.mp (by omega); omega)
      omega
    rw [if_neg hx]
    have e : u.toInt.tdiv v.toInt = -((-u.toInt).tdiv v.toInt) := by rw [Int.neg_tdiv, Int.neg_neg]
    have hu' : 0 ≤ -u.toInt := by omega
    have a1 := Int.ediv_mul_le (-u.toInt) (Int.ne_of_gt v1)
    have hge : u.toInt ≤ (u / v * v).toInt := by
      rw [hm, e, Int.tdiv_eq_ediv_of_nonneg hu', Int.neg_mul]; omega
    by_cases e2 : u / v * v = u
    · rw [if_pos e2, if_pos (by rw [i_le, e2]; exact Int.le_refl _)]
    · rw [if_neg e2, if_neg]
      rw [i_le]
      intro z
      exact e2 (Int32.toInt_inj.mp (by omega))
theorem nI_sub {a b : Nat} (h : b ≤ a) : nI a - nI b = nI (a - b) := by
  have : nI a = nI (a - b) + nI b := by rw [nI_add, show a - b + b = a by omega]
  rw [this, Int32.add_sub_cancel]
section RELW
variable {n h q b t : Nat} {x y : Nat → Nat → Int32}
theorem wl_eq (ht : t < 2 ^ 30) (r : RR n h q b t x y) {k : Nat} (hk : k < 10) : wlX x k = wlM y k := by
  obtain ⟨hn10, -, hq8, hbq, -, -, -, -, hq, -, -, -, hti, hTM, -, -, -, -, -, -, -, e17, e18, -, -, -, -, -, -, -, -, -, -, hcur, hrul, -⟩ := r
  obtain ⟨s, hs, es⟩ := hTM.2.1 k hk
  obtain ⟨f, hf, ef⟩ := hTM.2.2.1 k hk
  have hd : y 25 0 - y 15 k = nI (t - s) := by rw [hTM.1, es, nI_sub hs]
  rcases hrul k hk with ⟨r1, r2, r3, r4⟩ | ⟨c, hc, r1, r2, r3, r4, r5, r6⟩
  · unfold wlX wlM
    rw [if_pos (show x 24 k < 0 by rw [r1]; decide), hd, r4, if_pos (by rw [← nI_0]; exact nI_le (Nat.zero_le _) (by omega)), r3]
  · have hx : wlX x k = wlv x k c := by
      unfold wlX
      rw [r1, if_neg (nI_pos (by omega)), hq, if_neg (nI_ge (by omega) (by omega)), nI_clamp (by omega)]
    rw [hx]
    unfold wlv wlM
    have hd2 : x 21 0 - x 23 c = nI (t - s) := by rw [hti, ← r2, es, nI_sub hs]
    rw [hd, hd2, ← r3, ← r4, r5, r6, ef]
    by_cases h0 : f = 0
    · subst h0
      rw [if_pos (show nI 0 ≤ 0 by decide), if_pos (nI_le (Nat.zero_le _) (by omega))]
    · rw [if_neg (nI_nle (by omega) (by omega))]
      by_cases h1 : f ≤ t - s
      · rw [if_pos (nI_le h1 (by omega)), if_pos (nI_le h1 (by omega))]
      · rw [if_neg (nI_ge (by omega) (by omega)), if_neg (nI_ge (by omega) (by omega))]
        have hcu := hcur c (by omega)
        rw [← e18, ← r4] at hcu
        obtain ⟨j, hj, ej⟩ := nI_of2 (x := y 17 k) (M := 2) (n := 2) (by decide) (Int32.not_lt.mpr hcu.1) hcu.2
        unfold gain
        have f1 : (0 : Int32) < nI f := by rw [← nI_0]; exact nI_lt (by omega) (by omega)
        have e2 : (nI f * nI f) = nI (f * f) := (Int32.ofNat_mul f f).symm
        have f3 : f * f ≤ 50 * 50 := Nat.mul_le_mul hf hf
        have f4 : 0 < f * f := Nat.mul_pos (by omega) (by omega)
        have f2 : (0 : Int32) < nI f * nI f := by rw [e2, ← nI_0]; exact nI_lt f4 (by omega)
        rw [ej]
        rcases (show j = 0 ∨ j = 1 ∨ j = 2 by omega) with rfl | rfl | rfl
        · rw [if_neg (show ¬ nI 0 = 2 by decide), if_neg (nI_nle (by omega) (by omega)), if_neg (show ¬ nI 0 = 1 by decide), if_pos (show nI 0 = 0 by decide), fdiv_qtn f1]
        · rw [if_neg (show ¬ nI 1 = 2 by decide), if_neg (nI_nle (by omega) (by omega)), if_pos (show nI 1 = 1 by decide), if_neg (show ¬ nI 1 = 0 by decide), if_pos (show nI 1 = 1 by decide), fdiv_qtn f2]
        · rw [if_pos (show nI 2 = 2 by decide), if_neg (show ¬ nI 2 = 0 by decide), if_neg (show ¬ nI 2 = 1 by decide), Int32.add_zero]
theorem sh_eq (ht : t < 2 ^ 30) (r : RR n h q b t x y) {k : Nat} (hk : k < n) : shX x k = lvM y k := by
  have hn10 := r.1
  have hw := wl_eq ht r (k := k) (by omega)
  obtain ⟨-, -, -, -, -, -, -, -, -, -, -, -, -, -, -, -, e3, -, -, -, -, -, -, -, -, -, -, -, hlow, -⟩ := r
  unfold shX lvM
  rw [hw, e3, (hlow k hk).1]
theorem RR_beg (ht : t < 2 ^ 30) (r : RR n h q b t x y) (hb1 : b < q) : RR n h q (b + 1) t (begS x b) (begM y n b) := by
  have hw := fun k (hk : k < 10) => wl_eq ht r hk
  obtain ⟨hn10, hlt, hq8, hbq, hn, hnM, hh, hhM, hq, hqM, hb, hbM, hti, hTM, e1, e2, e3, e5, e6, e7, e11, e17, e18, e19, e20, hbars, hlen, hkind, hlow, hhigh, hfst, hplc, hnam, hcur, hrul, hbeg⟩ := r
  have hk1 : ∀ k, k < 10 → y 22 (10 * b + k) ≠ -1 → k < n := fun k hk hne => by
    rcases Nat.lt_or_ge k n with h1 | h1
    · exact h1
    · exact absurd (hnam b (by omega) k h1 hk) hne
  refine ⟨hn10, hlt, hq8, hb1, hn, hnM, hh, hhM, hq, hqM, ?_, rfl, hti, TM_beg hTM n b (by omega), e1, e2, e3, e5, e6, e7, e11, e17, e18, e19, e20, hbars, hlen, hkind, hlow, ?_, hfst, hplc, hnam, hcur, ?_, ?_⟩
  · show nI b + 1 = nI (b + 1)
    exact nI_1 b
  · intro k h1 h2
    obtain ⟨g1, g2, g3, g4, g5, g6, g7⟩ := hhigh k h1 h2
    have hno : y 22 (10 * b + k) = -1 := hnam b (by omega) k h1 h2
    refine ⟨g1, g2, g3, ?_, ?_, ?_, ?_⟩
    · show (if k < 10 ∧ x 20 (10 * b + k) ≠ -1 then nI b else x 24 k) = -1
      rw [if_neg (fun z => z.2 (by rw [e20]; exact hno)), g4]
    · show (if k < n ∧ y 22 (10 * b + k) ≠ -1 then wlM y k else y 13 k) = 0
      rw [if_neg (fun z => z.2 hno), g5]
    · show (if k < n ∧ y 22 (10 * b + k) ≠ -1 then y 22 (10 * b + k) else y 14 k) = 0
      rw [if_neg (fun z => z.2 hno), g6]
    · show (if k < n ∧ y 22 (10 * b + k) ≠ -1 then y 19 b else y 16 k) = 0
      rw [if_neg (fun z => z.2 hno), g7]
  · intro k hk
    show ((if k < 10 ∧ x 20 (10 * b + k) ≠ -1 then nI b else x 24 k) = -1 ∧ (if k < n ∧ y 22 (10 * b + k) ≠ -1 then wlM y k else y 13 k) = 0 ∧ (if k < n ∧ y 22 (10 * b + k) ≠ -1 then y 22 (10 * b + k) else y 14 k) = 0 ∧ (if k < n ∧ y 22 (10 * b + k) ≠ -1 then y 19 b else y 16 k) = 0) ∨
      (∃ c, c < b + 1 ∧ (if k < 10 ∧ x 20 (10 * b + k) ≠ -1 then nI b else x 24 k) = nI c ∧ (if k < n ∧ y 22 (10 * b + k) ≠ -1 then y 25 0 else y 15 k) = upd (x 23) b (x 21 0) c ∧ (if k < n ∧ y 22 (10 * b + k) ≠ -1 then y 19 b else y 16 k) = x 17 c ∧ (if k < n ∧ y 22 (10 * b + k) ≠ -1 then y 20 b else y 17 k) = x 18 c ∧ (if k < n ∧ y 22 (10 * b + k) ≠ -1 then wlM y k else y 13 k) = (if k < 10 ∧ x 20 (10 * b + k) ≠ -1 then wlX x k else x 25 k) ∧ (if k < n ∧ y 22 (10 * b + k) ≠ -1 then y 22 (10 * b + k) else y 14 k) = (if k < 10 ∧ x 20 (10 * b + k) ≠ -1 then x 20 (10 * b + k) else x 26 k))
    rw [e20]
    by_cases hne : y 22 (10 * b + k) ≠ -1
    · have hkn := hk1 k hk hne
      right
      refine ⟨b, Nat.lt_succ_self b, ?_⟩
      rw [if_pos ⟨hk, hne⟩, if_pos ⟨hkn, hne⟩, if_pos ⟨hkn, hne⟩, if_pos ⟨hkn, hne⟩, if_pos ⟨hkn, hne⟩, if_pos ⟨hk, hne⟩, if_pos ⟨hkn, hne⟩, if_pos ⟨hk, hne⟩]
      exact ⟨rfl, by rw [upd_s, hti, hTM.1], by rw [e17], by rw [e18], (hw k hk).symm, rfl⟩
    · have z1 : ¬ (k < 10 ∧ y 22 (10 * b + k) ≠ -1) := fun z => hne z.2
      have z2 : ¬ (k < n ∧ y 22 (10 * b + k) ≠ -1) := fun z => hne z.2
      rw [if_neg z1, if_neg z2, if_neg z2, if_neg z2, if_neg z2, if_neg z2, if_neg z1, if_neg z1]
      rcases hrul k hk with hl | ⟨c, hc, r1, r2, r3, r4, r5, r6⟩
      · exact Or.inl hl
      · exact Or.inr ⟨c, by omega, r1, by rw [upd_n (by omega)]; exact r2, r3, r4, r5, r6⟩
  · intro _
    show y 25 0 = upd (x 23) b (x 21 0) (b + 1 - 1)
    rw [show b + 1 - 1 = b by omega, upd_s, hti, hTM.1]
theorem RR_bn (ht : t < 2 ^ 30) : ∀ (k b : Nat) (x y : Nat → Nat → Int32), k + b = q → RR n h q b t x y → ∃ b', b ≤ b' ∧ b' ≤ q ∧ RR n h q b' t (bnS k b x) (bnM n k b y)
  | 0, b, x, y, e, r => ⟨b, Nat.le_refl b, by omega, r⟩
  | k + 1, b, x, y, e, r => by
    have r1 := RR_beg ht r (by omega)
    have e19 : x 19 = y 21 := by obtain ⟨-, -, -, -, -, -, -, -, -, -, -, -, -, -, -, -, -, -, -, -, -, -, -, e19, -⟩ := r; exact e19
    show ∃ b', b ≤ b' ∧ b' ≤ q ∧ RR n h q b' t (if x 19 b = 0 then bnS k (b + 1) (begS x b) else begS x b) (if y 21 b = 0 then bnM n k (b + 1) (begM y n b) else begM y n b)
    rw [e19]
    by_cases hz : y 21 b = 0
    · rw [if_pos hz, if_pos hz]
      obtain ⟨b', h1, h2, h3⟩ := RR_bn ht k (b + 1) (begS x b) (begM y n b) (by omega) r1
      exact ⟨b', by omega, h2, h3⟩
    · rw [if_neg hz, if_neg hz]
      exact ⟨b + 1, by omega, by omega, r1⟩
theorem fixS_eq (x : Nat → Nat → Int32) (k i : Nat) : fixS x (bnS k i x) = bnS k i x := by
  funext j
  unfold fixS set2
  by_cases h26 : j = 26
  · rw [if_pos h26, h26]
  · rw [if_neg h26]
    by_cases h25 : j = 25
    · rw [if_pos h25, h25]
    · rw [if_neg h25]
      by_cases h24 : j = 24
      · rw [if_pos h24, h24]
      · rw [if_neg h24]
        by_cases h23 : j = 23
        · rw [if_pos h23, h23]
        · rw [if_neg h23]
          by_cases h22 : j = 22
          · rw [if_pos h22, h22]
          · rw [if_neg h22, bnS_o k i x j (by omega)]
theorem fixS_self (x : Nat → Nat → Int32) : fixS x x = x := fixS_eq x 0 0
theorem advX_eq (x : Nat → Nat → Int32) (q : Nat) : advX x q = advS x q (bOf x) := by
  unfold advX fixA advS
  split
  · exact fixS_eq _ _ _
  · exact fixS_self _
theorem RR_27 (r : RR n h q b t x y) (g : Nat → Int32) : RR n h q b t x (set2 y 27 g) := r
theorem RR_tkA (r : RR n h q b t x y) : RR n h q b (t + 1) (set2 x 21 (fun _ => x 21 0 + 1)) (tkA y) := by
  obtain ⟨hn10, hlt, hq8, hbq, hn, hnM, hh, hhM, hq, hqM, hb, hbM, hti, hTM, e1, e2, e3, e5, e6, e7, e11, e17, e18, e19, e20, hbars, hlen, hkind, hlow, hhigh, hfst, hplc, hnam, hcur, hrul, hbeg⟩ := r
  exact ⟨hn10, hlt, hq8, hbq, hn, hnM, hh, hhM, hq, hqM, hb, hbM, by show x 21 0 + 1 = nI (t + 1); rw [hti, nI_1], TM_tkA hTM, e1, e2, e3, e5, e6, e7, e11, e17, e18, e19, e20, hbars, hlen, hkind, hlow, hhigh, hfst, hplc, hnam, hcur, hrul, hbeg⟩
theorem last_eq (r : RR n h q b t x y) : (b = 0 ∧ x 22 0 = -1) ∨ (∃ c, b = c + 1 ∧ x 22 0 = nI c ∧ y 23 0 - 1 = nI c) := by
  obtain ⟨-, -, -, -, -, -, -, -, -, -, hb, hbM, -⟩ := r
  have e : x 22 0 = nI b - 1 := by rw [← hb, Int32.add_sub_cancel]
  cases b with
  | zero => exact Or.inl ⟨rfl, by rw [e]; decide⟩
  | succ c => exact Or.inr ⟨c, rfl, by rw [e]; exact nI_pred c, by rw [hbM]; exact nI_pred c⟩
theorem due_eq (r : RR n h q b t x y) : dueX x ↔ dueM y := by
  have hl := last_eq r
  obtain ⟨hn10, hlt, hq8, hbq, hn, hnM, hh, hhM, hq, hqM, hb, hbM, hti, hTM, e1, e2, e3, e5, e6, e7, e11, e17, e18, e19, e20, hbars, hlen, hkind, hlow, hhigh, hfst, hplc, hnam, hcur, hrul, hbeg⟩ := r
  unfold dueX dueM fol
  rcases hl with ⟨rfl, h1⟩ | ⟨c, rfl, h1, h2⟩
  · constructor
    · intro z; exact absurd (show x 22 0 < 0 by rw [h1]; decide) z.1
    · intro z; rw [hbM] at z; exact absurd z.1 (by decide)
  · have hb3 := hbeg (Nat.succ_pos c)
    rw [show c + 1 - 1 = c by omega] at hb3
    rw [h1, h2, nI_clamp (by omega), e19, hb3, hti, hTM.1, hq, hbM]
    constructor
    · rintro ⟨-, -, z3, z4⟩; exact ⟨by rw [← nI_0]; exact nI_lt (Nat.succ_pos c) (by omega), z3, z4⟩
    · rintro ⟨-, z3, z4⟩; exact ⟨nI_pos (by omega), nI_lt (by omega) (by omega), z3, z4⟩
theorem RR_tk1 (ht : t + 1 < 2 ^ 30) (r : RR n h q b t x y) : ∃ b', RR n h q b' (t + 1) (tkX1 x n q) (tk1 y n q) ∧ advR x q (bOf x) = if dueM y then tkB y n q 23 0 - y 23 0 else 0 := by
  have hdue := due_eq r
  have hbo : bOf x = b := by obtain ⟨-, -, hq8, hbq, -, -, -, -, -, -, hb, -⟩ := r; exact bOf_eq hb (by omega)
  have hbM : (y 23 0).toNatClampNeg = b := by obtain ⟨-, -, hq8, hbq, -, -, -, -, -, -, hb, hbM, -⟩ := r; rw [hbM]; exact nI_clamp (by omega)
  have hadd : ∃ b', RR n h q b' (t + 1) (advX x q) (tkB y n q) := by
    rw [advX_eq, hbo]
    unfold advS tkB
    by_cases hd : dueM y
    · rw [if_pos (hdue.mpr hd), if_pos hd, hbM]
      obtain ⟨b', -, -, h3⟩ := RR_bn (q := q) ht (q - b) b _ _ (by have := r.2.2.2.1; omega) (RR_tkA r)
      exact ⟨b', h3⟩
    · rw [if_neg (fun z => hd (hdue.mp z)), if_neg hd]
      exact ⟨b, RR_tkA r⟩
  obtain ⟨b', r'⟩ := hadd
  refine ⟨b', ?_, ?_⟩
  · have hs := fun k (hk : k < n) => sh_eq ht r' hk
    have hsum : brnX (advX x q) n = fun j => if j < n then tkB y n q 12 j + (if 80 < lvM (tkB y n q) j then 1 else 0) else tkB y n q 12 j := by
      have e2 : advX x q 2 = tkB y n q 12 := by obtain ⟨-, -, -, -, -, -, -, -, -, -, -, -, -, -, -, e2, -⟩ := r'; exact e2
      funext j
      show (if j < n then advX x q 2 j + (if 80 < shX (advX x q) j then 1 else 0) else advX x q 2 j) = _
      rw [e2]
      by_cases hj : j < n
      · rw [if_pos hj, if_pos hj, hs j hj]
      · rw [if_neg hj, if_neg hj]
    unfold tkX1 tk1 tkC
    obtain ⟨hn10, hlt, hq8, hbq, hn, hnM, hh, hhM, hq, hqM, hb, hbM2, hti, hTM, e1, e2, e3, e5, e6, e7, e11, e17, e18, e19, e20, hbars, hlen, hkind, hlow, hhigh, hfst, hplc, hnam, hcur, hrul, hbeg⟩ := r'
    exact ⟨hn10, hlt, hq8, hbq, hn, hnM, hh, hhM, hq, hqM, hb, hbM2, hti, hTM, e1, hsum, e3, e5, e6, e7, e11, e17, e18, e19, e20, hbars, hlen, hkind, hlow, hhigh, hfst, hplc, hnam, hcur, hrul, hbeg⟩
  · unfold advR
    by_cases hd : dueM y
    · rw [if_pos (hdue.mpr hd), if_pos hd]
      have e1 : bnS (q - bOf x) (bOf x) (set2 x 21 (fun _ => x 21 0 + 1)) 22 0 = advX x q 22 0 := by
        rw [advX_eq]; unfold advS; rw [if_pos (hdue.mpr hd)]
      have k1 : advX x q 22 0 + 1 = tkB y n q 23 0 := by obtain ⟨-, -, -, -, -, -, -, -, -, -, hb, hbM2, -⟩ := r'; rw [hb, hbM2]
      have k2 : x 22 0 + 1 = y 23 0 := by obtain ⟨-, -, -, -, -, -, -, -, -, -, hb, hbM2, -⟩ := r; rw [hb, hbM2]
      rw [e1, ← k1, ← k2]
      generalize advX x q 22 0 = u
      generalize x 22 0 = v
      rw [Int32.sub_eq_add_neg, Int32.sub_eq_add_neg, Int32.neg_add, Int32.sub_eq_add_neg, Int32.add_assoc, Int32.add_comm (1 : Int32), Int32.add_assoc, Int32.add_left_neg, Int32.add_zero]
    · rw [if_neg (fun z => hd (hdue.mp z)), if_neg hd]
theorem RR_tkS (N : Nat) (hN : N + 50 < 2 ^ 30) (ht : t ≤ N) (r : RR n h q b t x y) : ∀ i, i ≤ 50 → ∃ b', RR n h q b' (t + i) (tkXS x n q i).1 (tkS y n q i).1 ∧ (tkXS x n q i).2 = (tkS y n q i).2
  | 0, _ => ⟨b, r, rfl⟩
  | i + 1, hi => by
    obtain ⟨b1, r1, e1⟩ := RR_tkS N hN ht r i (by omega)
    obtain ⟨b2, r2, e2⟩ := RR_tk1 (by omega) r1
    refine ⟨b2, r2, ?_⟩
    show (tkXS x n q i).2 + advR (tkXS x n q i).1 q (bOf (tkXS x n q i).1) = _
    rw [e1, e2]; rfl
end RELW
