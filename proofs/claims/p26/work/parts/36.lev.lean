/-! levels: of the class and of the law alike; cues begin; ticks -/
theorem fd_rng {U Wn d f cv : Nat} (hU : U ≤ 100) (hW : Wn ≤ 100) (hf : f ≤ 50) : ∃ m, m ≤ 100 ∧ fdI (nI U) (nI Wn) d f cv = nI m := by
  unfold fdI
  by_cases h1 : f ≤ d
  · rw [if_pos h1]; exact ⟨Wn, hW, rfl⟩
  rw [if_neg h1]
  have hw : (nI Wn - nI U).toInt = (Wn : Int) - U := pk_sub_toInt (by omega) (by omega)
  have eU : (nI U).toInt = (U : Int) := nI_toInt (by omega)
  have e100 : (nI 100).toInt = 100 := by decide
  have ed : (nI d).toInt = (d : Int) := nI_toInt (by omega)
  have fin : ∀ (A : Int32) (D : Nat), 0 < D → D ≤ 2500 → -((U : Int) * D) ≤ A.toInt → A.toInt ≤ (100 - (U : Int)) * D → ∃ m, m ≤ 100 ∧ nI U + (A + nI (100 * D)) / nI D - nI 100 = nI m := by
    intro A D hD hD2 hA1 hA2
    have g1 : (U : Int) * D ≤ 100 * D := Int.mul_le_mul_of_nonneg_right (by omega) (by omega)
    have g2 : (100 - (U : Int)) * D ≤ 100 * D := Int.mul_le_mul_of_nonneg_right (by omega) (by omega)
    obtain ⟨c0, c1, c2⟩ := fd_div hD hD2 (A := A) (by omega) (by omega)
    have b1 : A.toInt / (D : Int) * D ≤ A.toInt := Int.ediv_mul_le _ (by omega)
    have b2 : A.toInt < (A.toInt / (D : Int) + 1) * D := Int.lt_ediv_add_one_mul_self _ (by omega)
    generalize hQ : A.toInt / (D : Int) = Q1 at *
    have q1 : -(U : Int) ≤ Q1 := by
      rcases Int.lt_or_le Q1 (-(U : Int)) with z | z
      · exfalso
        have := Int.mul_le_mul_of_nonneg_right (show Q1 + 1 ≤ -(U : Int) by omega) (show (0 : Int) ≤ D by omega)
        rw [Int.neg_mul] at this
        omega
      · exact z
    have q2 : Q1 ≤ 100 - (U : Int) := by
      rcases Int.lt_or_le (100 - (U : Int)) Q1 with z | z
      · exfalso
        have := Int.mul_le_mul_of_nonneg_right (show 100 - (U : Int) + 1 ≤ Q1 by omega) (show (0 : Int) ≤ D by omega)
        rw [Int.add_mul, Int.one_mul] at this
        omega
      · exact z
    refine ⟨(U + Q1).toNat, by omega, Int32.toInt_inj.mp ?_⟩
    have s1 : (nI U + (A + nI (100 * D)) / nI D).toInt = U + (Q1 + 100) := by rw [i_add (by rw [eU, c0]; omega) (by rw [eU, c0]; omega), eU, c0]
    rw [i_sub (by rw [s1, e100]; omega) (by rw [s1, e100]; omega), s1, e100, nI_toInt (by omega)]
    omega
  have a1 : ((Wn : Int) - U) * d ≤ (100 - (U : Int)) * d := Int.mul_le_mul_of_nonneg_right (by omega) (by omega)
  have a2 : (-(U : Int)) * d ≤ ((Wn : Int) - U) * d := Int.mul_le_mul_of_nonneg_right (by omega) (by omega)
  have a3 : (100 - (U : Int)) * d ≤ 100 * d := Int.mul_le_mul_of_nonneg_right (by omega) (by omega)
  have a4 : (U : Int) * d ≤ 100 * d := Int.mul_le_mul_of_nonneg_right (by omega) (by omega)
  have a5 : (100 - (U : Int)) * d ≤ (100 - (U : Int)) * f := Int.mul_le_mul_of_nonneg_left (by omega) (by omega)
  have a6 : (U : Int) * d ≤ (U : Int) * f := Int.mul_le_mul_of_nonneg_left (by omega) (by omega)
  rw [Int.neg_mul] at a2
  have e1 : ((nI Wn - nI U) * nI d).toInt = ((Wn : Int) - U) * d := by
    rw [Int32.toInt_mul, hw, ed]
    exact i_bm (by omega) (by omega)
  by_cases h2 : cv = 0
  · rw [if_pos h2]
    exact fin _ f (by omega) (by omega) (by rw [e1]; omega) (by rw [e1]; omega)
  rw [if_neg h2]
  by_cases h3 : cv = 1
  · rw [if_pos h3]
    have f2 : f * f ≤ 2500 := Nat.mul_le_mul hf hf
    have hdd : d * d ≤ f * f := Nat.mul_le_mul (by omega) (by omega)
    have hdd2 : ((d * d : Nat) : Int) = (d : Int) * d := Int.natCast_mul d d
    have hff2 : ((f * f : Nat) : Int) = (f : Int) * f := Int.natCast_mul f f
    have z1 : ((Wn : Int) - U) * d * d ≤ (100 - (U : Int)) * d * d := Int.mul_le_mul_of_nonneg_right a1 (by omega)
    have z2 : (-((U : Int) * d)) * d ≤ ((Wn : Int) - U) * d * d := Int.mul_le_mul_of_nonneg_right a2 (by omega)
    have z3 : (100 - (U : Int)) * d * d ≤ 100 * (d * d) := by rw [Int.mul_assoc]; exact Int.mul_le_mul_of_nonneg_right (by omega) (by omega)
    have z4 : (U : Int) * d * d ≤ 100 * (d * d) := by rw [Int.mul_assoc]; exact Int.mul_le_mul_of_nonneg_right (by omega) (by omega)
    have z5 : (100 - (U : Int)) * d * d ≤ (100 - (U : Int)) * ((f * f : Nat) : Int) := by rw [Int.mul_assoc]; exact Int.mul_le_mul_of_nonneg_left (by omega) (by omega)
    have z6 : (U : Int) * d * d ≤ (U : Int) * ((f * f : Nat) : Int) := by rw [Int.mul_assoc]; exact Int.mul_le_mul_of_nonneg_left (by omega) (by omega)
    rw [Int.neg_mul] at z2
    have e2 : ((nI Wn - nI U) * nI d * nI d).toInt = ((Wn : Int) - U) * d * d := by
      rw [Int32.toInt_mul, e1, ed]
      exact i_bm (by omega) (by omega)
    have e4 : 100 * f * f = 100 * (f * f) := Nat.mul_assoc 100 f f
    rw [e4]
    exact fin _ (f * f) (Nat.mul_pos (by omega) (by omega)) f2 (by rw [e2]; omega) (by rw [e2]; omega)
  · rw [if_neg h3]; exact ⟨U, hU, rfl⟩
def lvl0 (fl : Nat → Int32) (b : Nat) : Prop := ∀ c, c < b → ∀ k, k < 5 → fl (8 * c + 3 + k) = -1 ∨ ∃ m, m ≤ 100 ∧ fl (8 * c + 3 + k) = nI m
theorem wst_rng {fl : Nat → Int32} {S F V : Nat → Nat} {b T k : Nat} (hfl : flOk fl S F V b T) (hr : lvl0 fl b) (hk : k < 5) : ∀ c, c ≤ b → (∃ U, U ≤ 100 ∧ (wst fl S F V k c).1 = nI U) ∧ (∃ W, W ≤ 100 ∧ (wst fl S F V k c).2.1 = nI W)
  | 0, _ => ⟨⟨0, Nat.zero_le _, rfl⟩, ⟨0, Nat.zero_le _, rfl⟩⟩
  | c + 1, hc => by
    have ih := wst_rng hfl hr hk c (by omega)
    have hle := wst_le fl S F V k c
    rw [wst_s]
    rcases hr c (by omega) k hk with h1 | ⟨m, hm, h1⟩
    · rw [if_pos (by rw [h1]; decide)]; exact ih
    · rw [if_neg (by rw [h1]; exact nI_pos (by omega))]
      obtain ⟨⟨U, hU, eU⟩, ⟨W, hW, eW⟩⟩ := ih
      refine ⟨?_, ⟨m, hm, h1⟩⟩
      show ∃ U, U ≤ 100 ∧ (if (wst fl S F V k c).2.2 = 0 then 0 else fdI (wst fl S F V k c).1 (wst fl S F V k c).2.1 (S c - S ((wst fl S F V k c).2.2 - 1)) (F ((wst fl S F V k c).2.2 - 1)) (V ((wst fl S F V k c).2.2 - 1))) = nI U
      by_cases h2 : (wst fl S F V k c).2.2 = 0
      · rw [if_pos h2]; exact ⟨0, Nat.zero_le _, rfl⟩
      · rw [if_neg h2, eU, eW]
        exact fd_rng hU hW (hfl.1 _ (by omega)).2.2.2.1
theorem wan_rng {fl : Nat → Int32} {S F V : Nat → Nat} {b T k : Nat} (hfl : flOk fl S F V b T) (hr : lvl0 fl b) (hk : k < 5) : ∃ m, m ≤ 100 ∧ wanN fl S F V T k b = nI m := by
  obtain ⟨⟨U, hU, eU⟩, ⟨W, hW, eW⟩⟩ := wst_rng hfl hr hk b (Nat.le_refl b)
  have hle := wst_le fl S F V k b
  unfold wanN wres
  by_cases h2 : (wst fl S F V k b).2.2 = 0
  · rw [if_pos h2]; exact ⟨0, Nat.zero_le _, rfl⟩
  · rw [if_neg h2, eU, eW]
    exact fd_rng hU hW (hfl.1 _ (by omega)).2.2.2.1
theorem lev_rng {fp fl : Nat → Int32} {S F V : Nat → Nat} {b T k : Nat} (hfl : flOk fl S F V b T) (hr : lvl0 fl b) (hk : k < 5) : ∃ m, m ≤ 100 ∧ levN fp fl S F V T k b = nI m := by
  unfold levN
  split
  · exact ⟨0, Nat.zero_le _, rfl⟩
  · exact wan_rng hfl hr hk
theorem wst_cg {fl fl' : Nat → Int32} {S S' F F' V V' : Nat → Nat} {k b : Nat} (h1 : ∀ c, c < b → fl' (8 * c + 3 + k) = fl (8 * c + 3 + k)) (h2 : ∀ c, c < b → S' c = S c ∧ F' c = F c ∧ V' c = V c) : ∀ c, c ≤ b → wst fl' S' F' V' k c = wst fl S F V k c
  | 0, _ => rfl
  | c + 1, hc => by
    have hle := wst_le fl S F V k c
    rw [wst_s, wst_s, wst_cg h1 h2 c (by omega), h1 c (by omega)]
    by_cases h3 : (wst fl S F V k c).2.2 = 0
    · rw [if_pos h3, if_pos h3]
    · obtain ⟨a1, a2, a3⟩ := h2 ((wst fl S F V k c).2.2 - 1) (by omega)
      rw [if_neg h3, if_neg h3, (h2 c (by omega)).1, a1, a2, a3]
section RELG
variable {n h q b t : Nat} {kb K S F V : Nat → Nat} {x : Nat → Nat → Int32} {fc fb fp fq fn fl : Nat → Int32}
theorem wl_eq (rc : Rc q F V x fc fq fn) (r : Rs b t S F V x fc fl) (hbq : b ≤ q) (ht : t < 2 ^ 30) {k : Nat} (hk : k < 5) : wlX x k = wanN fl S F V t k b := by
  obtain ⟨hq4, hq, -, hcue, -⟩ := rc
  obtain ⟨-, -, h21, -, -, h23, hfl, hr, hl⟩ := r
  obtain ⟨e24, e56⟩ := hl k hk
  obtain ⟨⟨U, hU, eU⟩, ⟨W, hW, eW⟩⟩ := wst_rng hfl hr hk b (Nat.le_refl b)
  have hle := wst_le fl S F V k b
  unfold wlX wanN wres
  rcases hm : (wst fl S F V k b).2.2 with _ | m
  · rw [e24, hm, if_pos (show lstI 0 < 0 by decide), if_pos rfl]
  · rw [hm] at hle e56
    obtain ⟨e25, e26⟩ := e56 (Nat.succ_pos m)
    obtain ⟨f1, f2, -, f3, -, f4, -⟩ := hcue m (by omega)
    have hS := (hfl.1 m (by omega)).2.2.2.2.2
    rw [e24, hm, show lstI (m + 1) = nI m from rfl, if_neg (nI_pos (by omega)), hq, if_neg (nI_ge (by omega) (by omega)), nI_clamp (by omega), if_neg (Nat.succ_ne_zero m), show m + 1 - 1 = m from rfl]
    unfold wlv
    rw [f3, f4, e25, e26, h21, h23 m (by omega), pk_sub hS, eU, eW]
    by_cases h0 : F m = 0
    · rw [h0, if_pos (show nI 0 ≤ 0 by decide)]
      unfold fdI
      rw [if_pos (Nat.zero_le _)]
    · rw [if_neg (nI_nle (by omega) (by omega))]
      by_cases h1 : F m ≤ t - S m
      · rw [if_pos (nI_le h1 (by omega))]
        unfold fdI
        rw [if_pos h1]
      · rw [if_neg (nI_ge (by omega) (by omega)), fd_eq hU hW f1 f2 (by omega)]
theorem sh_eq (rl : Rl n K x fc fp) (rr : Rr n K fp) (rp : Rp n h kb fp) (rh : Rh h kb x fc fb) (rc : Rc q F V x fc fq fn) (r : Rs b t S F V x fc fl) (hbq : b ≤ q) (ht : t < 2 ^ 30) {k : Nat} (hk : k < n) : shX x k = levN fp fl S F V t k b := by
  have hn5 := rl.1
  have hw := wl_eq rc r hbq ht (k := k) (by omega)
  obtain ⟨-, -, -, hlow, hall, -⟩ := rl
  obtain ⟨-, -, -, -, -, -, h9, -⟩ := hlow k hk
  have e3 := (hall k (by omega)).2.1
  have hkb := (rh.2.2.2.1 h rh.1).1
  unfold shX levN
  rw [h9, e3, hw]
  rcases rp.1 k hk with h1 | ⟨j, hj, h1⟩
  · rw [h1, if_neg (fun z => z rfl), if_pos (Or.inl (by decide))]
  · rw [h1, if_pos (nI_m1 (by omega))]
    rcases (rr.2 k (by omega)).2 with h2 | h2
    · rw [h2, if_pos (show nI 0 = 0 from rfl), if_neg (fun z => z.elim (nI_pos (by omega)) (fun w => absurd w (by decide)))]
    · rw [h2, if_neg (show ¬ nI 1 = 0 by decide), if_pos (show nI j < 0 ∨ nI 1 = 1 from Or.inr rfl)]
/-- one cue begins -/
def S1 (S : Nat → Nat) (b t : Nat) : Nat → Nat := fun c => if c = b then t else S c
theorem bg1_o {T : Int32} {b j : Nat} (h : j < 8 * b ∨ 8 * b + 8 ≤ j) : bg1 T fq fn b fl j = fl j := by
  unfold bg1
  rw [if_neg (by omega), if_neg (by omega), if_neg (by omega), if_neg (by omega)]
theorem bg1_n {T : Int32} {b k : Nat} (hk : k < 5) : bg1 T fq fn b fl (8 * b + 3 + k) = fn (5 * b + k) := by
  unfold bg1
  rw [if_neg (by omega), if_neg (by omega), if_neg (by omega), if_pos (by omega), show 8 * b + 3 + k - (8 * b + 3) = k by omega]
theorem Rs_beg {fc' : Nat → Int32} (rc : Rc q F V x fc fq fn) (r : Rs b t S F V x fc fl) (hb : b < q) (ht : t < 2 ^ 30) (c5 : fc' 5 = nI (b + 1)) (c6 : fc' 6 = fc 7) (c7 : fc' 7 = fc 7) : Rs (b + 1) t (S1 S b t) F V (begS x b) fc' (bg1 (fc 7) fq fn b fl) := by
  have hw := fun k (hk : k < 5) => wl_eq rc r (by omega) ht hk
  obtain ⟨hq4, hq, -, hcue, -, hnam, -⟩ := rc
  obtain ⟨e22, e5, e21, e7, e6, h23, hfl, hr, hl⟩ := r
  have hS : ∀ c, c < b → S1 S b t c = S c := fun c hc => if_neg (by omega)
  have hSb : S1 S b t b = t := if_pos rfl
  have hlo : ∀ c, c < b → ∀ j, j < 8 → bg1 (fc 7) fq fn b fl (8 * c + j) = fl (8 * c + j) := fun c hc j hj => bg1_o (Or.inl (by omega))
  obtain ⟨g1, g2, g3, -, g4, -⟩ := hcue b hb
  refine ⟨nI_1 b, c5, e21, c7.trans e7, fun _ => ?_, ?_, ⟨?_, ?_⟩, ?_, ?_⟩
  · rw [c6, e7, show b + 1 - 1 = b from rfl, hSb]
  · intro c hc
    show upd (x 23) b (x 21 0) c = nI (S1 S b t c)
    by_cases e : c = b
    · subst e; rw [upd_s, hSb, e21]
    · rw [upd_n e, hS c (by omega)]; exact h23 c (by omega)
  · intro c hc
    by_cases e : c = b
    · subst e
      rw [hSb]
      refine ⟨?_, ?_, ?_, g1, g2, Nat.le_refl t⟩
      · unfold bg1; rw [if_pos rfl]; exact e7
      · unfold bg1; rw [if_neg (by omega), if_pos rfl]; exact g3
      · unfold bg1; rw [if_neg (by omega), if_neg (by omega), if_pos rfl]; exact g4
    · obtain ⟨a1, a2, a3, a4, a5, a6⟩ := hfl.1 c (by omega)
      rw [hS c (by omega)]
      exact ⟨by rw [show 8 * c = 8 * c + 0 from rfl, hlo c (by omega) 0 (by omega)]; exact a1, by rw [hlo c (by omega) 1 (by omega)]; exact a2, by rw [hlo c (by omega) 2 (by omega)]; exact a3, a4, a5, a6⟩
  · intro c d hcd hd
    by_cases e : d = b
    · subst e
      rw [hSb]
      by_cases e2 : c = d
      · rw [e2, hSb]; exact Nat.le_refl t
      · rw [hS c (by omega)]; exact (hfl.1 c (by omega)).2.2.2.2.2
    · rw [hS c (by omega), hS d (by omega)]; exact hfl.2 c d hcd (by omega)
  · intro c hc k hk
    by_cases e : c = b
    · subst e; rw [bg1_n hk]; exact (hnam c (by omega) k hk).2
    · rw [show 8 * c + 3 + k = 8 * c + (3 + k) by omega, hlo c (by omega) (3 + k) (by omega), ← Nat.add_assoc]; exact hr c (by omega) k hk
  · intro k hk
    have hc := wst_cg (fl := fl) (fl' := bg1 (fc 7) fq fn b fl) (S := S) (S' := S1 S b t) (F := F) (F' := F) (V := V) (V' := V) (k := k) (b := b) (fun c hc => by rw [show 8 * c + 3 + k = 8 * c + (3 + k) by omega, hlo c hc (3 + k) (by omega)]) (fun c hc => ⟨hS c hc, rfl, rfl⟩) b (Nat.le_refl b)
    have hle := wst_le fl S F V k b
    obtain ⟨e24, e56⟩ := hl k hk
    obtain ⟨e20, hrg⟩ := hnam b (by omega) k hk
    rw [wst_s, hc, bg1_n hk]
    show (if k < 10 ∧ x 20 (10 * b + k) ≠ -1 then nI b else x 24 k) = _ ∧ (_ → (if k < 10 ∧ x 20 (10 * b + k) ≠ -1 then wlX x k else x 25 k) = _ ∧ (if k < 10 ∧ x 20 (10 * b + k) ≠ -1 then x 20 (10 * b + k) else x 26 k) = _)
    rw [e20]
    rcases hrg with h1 | ⟨m, hm, h1⟩
    · have z : ¬ (k < 10 ∧ fn (5 * b + k) ≠ -1) := fun z => z.2 h1
      rw [if_neg z, if_neg z, if_neg z, if_pos (by rw [h1]; decide)]
      exact ⟨e24, e56⟩
    · have z : k < 10 ∧ fn (5 * b + k) ≠ -1 := ⟨by omega, by rw [h1]; exact nI_m1 (by omega)⟩
      rw [if_pos z, if_pos z, if_pos z, if_neg (by rw [h1]; exact nI_pos (by omega))]
      refine ⟨rfl, fun _ => ⟨?_, rfl⟩⟩
      rw [hw k hk]
      show wanN fl S F V t k b = if (wst fl S F V k b).2.2 = 0 then 0 else fdI (wst fl S F V k b).1 (wst fl S F V k b).2.1 (S1 S b t b - S1 S b t ((wst fl S F V k b).2.2 - 1)) (F ((wst fl S F V k b).2.2 - 1)) (V ((wst fl S F V k b).2.2 - 1))
      unfold wanN wres
      by_cases h2 : (wst fl S F V k b).2.2 = 0
      · rw [if_pos h2, if_pos h2]
      · rw [if_neg h2, if_neg h2, hSb, hS _ (by omega)]
theorem Rs_bn {T : Int32} (hq : b ≤ q) (ht : t < 2 ^ 30) : ∀ (k b : Nat) (x : Nat → Nat → Int32) (S : Nat → Nat) (fl fc : Nat → Int32), b + k = q → fc 7 = T → Rc q F V x fc fq fn → Rs b t S F V x fc fl → ∃ S', Rs (bgR T fq fn k b fl).1 t S' F V (bnS k b x) (fcR fc T b (bgR T fq fn k b fl).1) (bgR T fq fn k b fl).2
  | 0, b, x, S, fl, fc, _, hT, rc, r => ⟨S, Rs_cg r rfl rfl rfl rfl rfl rfl (by rw [fcR_5]; exact r.2.1.symm) (by unfold fcR; rw [if_neg (by decide), if_neg (fun z => Nat.lt_irrefl _ z.2)]) (fcR_o (by decide) (by decide))⟩
  | k + 1, b, x, S, fl, fc, hk, hT, rc, r => by
    have c7 : fcR fc T b (b + 1) 7 = fc 7 := fcR_o (by decide) (by decide)
    have c6 : fcR fc T b (b + 1) 6 = fc 7 := by unfold fcR; rw [if_neg (by decide), if_pos ⟨rfl, Nat.lt_succ_self b⟩, hT]
    have r1 := Rs_beg (fc' := fcR fc T b (b + 1)) rc r (by omega) ht fcR_5 c6 c7
    rw [hT] at r1
    have e19 := (rc.2.2.2.1 b (by omega)).2.2.2.2.2.2
    rw [bgR_s]
    show ∃ S', Rs _ t S' F V (if x 19 b = 0 then bnS k (b + 1) (begS x b) else begS x b) _ _
    rw [e19]
    by_cases hz : fq (8 + b) = 0
    · rw [if_pos hz, if_pos hz]
      have rc1 : Rc q F V (begS x b) (fcR fc T b (b + 1)) fq fn := Rc_cg rc (begS_o x b 16 (by omega)) (begS_o x b 17 (by omega)) (begS_o x b 18 (by omega)) (begS_o x b 19 (by omega)) (begS_o x b 20 (by omega)) (fcR_o (by decide) (by decide))
      obtain ⟨S', r2⟩ := Rs_bn hq ht k (b + 1) (begS x b) (S1 S b t) (bg1 T fq fn b fl) (fcR fc T b (b + 1)) (by omega) (c7.trans hT) rc1 r1
      have hle := (bgR_le T fq fn k (b + 1) (bg1 T fq fn b fl)).1
      refine ⟨S', Rs_cg r2 rfl rfl rfl rfl rfl rfl (by rw [fcR_5, fcR_5]) ?_ ?_⟩
      · have e1 : fcR fc T b (bgR T fq fn k (b + 1) (bg1 T fq fn b fl)).1 6 = T := by unfold fcR; rw [if_neg (by decide), if_pos ⟨rfl, by omega⟩]
        rw [e1]
        unfold fcR
        rw [if_neg (show ¬ (6 : Nat) = 5 by decide), if_neg (show ¬ (6 : Nat) = 5 by decide)]
        by_cases h8 : b + 1 < (bgR T fq fn k (b + 1) (bg1 T fq fn b fl)).1
        · rw [if_pos ⟨rfl, h8⟩]
        · rw [if_neg (fun z => h8 z.2), if_pos ⟨rfl, Nat.lt_succ_self b⟩]
      · rw [fcR_o (by decide) (by decide), fcR_o (by decide) (by decide), fcR_o (by decide) (by decide)]
    · rw [if_neg hz, if_neg hz]
      exact ⟨_, r1⟩
theorem nI_dif {u v : Int32} {a b : Nat} (hu : u + 1 = nI a) (hv : v + 1 = nI b) (h : b ≤ a) : u - v = nI (a - b) := by
  rw [← pk_sub h, ← hu, ← hv, Int32.sub_eq_add_neg, Int32.sub_eq_add_neg, Int32.neg_add, Int32.sub_eq_add_neg, Int32.add_assoc, Int32.add_comm (1 : Int32), Int32.add_assoc, Int32.add_left_neg, Int32.add_zero]
theorem fixS_eq (x : Nat → Nat → Int32) (k i : Nat) : fixS x (bnS k i x) = bnS k i x := by
  funext j
  unfold fixS set2
  by_cases h26 : j = 26
  · rw [if_pos h26, h26]
  · rw [if_neg h26]
    by_cases h25 : j = 25
    · rw [if_pos h25, h25]
    · rw [if_neg h25]
      by_cases h24 : j = 24
      · rw [if_pos h24, h24]
      · rw [if_neg h24]
        by_cases h23 : j = 23
        · rw [if_pos h23, h23]
        · rw [if_neg h23]
          by_cases h22 : j = 22
          · rw [if_pos h22, h22]
          · rw [if_neg h22, bnS_o k i x j (by omega)]
theorem fixS_self (x : Nat → Nat → Int32) : fixS x x = x := fixS_eq x 0 0
theorem advX_eq (x : Nat → Nat → Int32) (q : Nat) : advX x q = advS x q (bOf x) := by
  unfold advX fixA advS
  split
  · exact fixS_eq _ _ _
  · exact fixS_self _
end RELG
