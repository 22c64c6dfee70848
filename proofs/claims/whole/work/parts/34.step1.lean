/-! a step of both: the same answer or the same exception, and the relation stays -/
def StOk (L : List String) (N : Nat) (oc : Option String) (rX : Int32) (x x' : Nat → Nat → Int32) (T rM : Int32) (A B : Nat → Nat → Int32) : Prop :=
  (oc = none ∧ T = 0 ∧ rX = rM ∧ A 27 0 = T ∧ RE N x' A) ∨ (∃ E, E ∈ L ∧ oc = some E ∧ T = hcod L (some E) ∧ ¬ T = 0 ∧ B 27 0 = T ∧ RE N x B)
theorem T1_0 {P : Prop} [Decidable P] (h : P) : T1 P = 0 := by unfold T1; rw [b2_t h]; rfl
theorem T1_1 {P : Prop} [Decidable P] (h : ¬ P) : T1 P = 1 := by unfold T1; rw [b2_f h]; rfl
theorem T2_0 {P Q : Prop} [Decidable P] [Decidable Q] (h : P) (k : Q) : T2 P Q = 0 := by unfold T2; rw [b2_t h, b2_t k]; rfl
theorem T2_1 {P Q : Prop} [Decidable P] [Decidable Q] (h : ¬ P) : T2 P Q = 1 := by unfold T2; rw [b2_f h]; rfl
theorem T2_2 {P Q : Prop} [Decidable P] [Decidable Q] (h : P) (k : ¬ Q) : T2 P Q = 2 := by unfold T2; rw [b2_t h, b2_f k]; rfl
theorem T3_0 {P Q S : Prop} [Decidable P] [Decidable Q] [Decidable S] (h : P) (k : Q) (m : S) : T3 P Q S = 0 := by unfold T3; rw [b2_t h, b2_t k, b2_t m]; rfl
theorem T3_1 {P Q S : Prop} [Decidable P] [Decidable Q] [Decidable S] (h : ¬ P) : T3 P Q S = 1 := by unfold T3; rw [b2_f h]; rfl
theorem T3_2 {P Q S : Prop} [Decidable P] [Decidable Q] [Decidable S] (h : P) (k : ¬ Q) : T3 P Q S = 2 := by unfold T3; rw [b2_t h, b2_f k]; rfl
theorem T3_3 {P Q S : Prop} [Decidable P] [Decidable Q] [Decidable S] (h : P) (k : Q) (m : ¬ S) : T3 P Q S = 3 := by unfold T3; rw [b2_t h, b2_t k, b2_f m]; rfl
theorem StOk.no {L : List String} {N : Nat} {oc : Option String} {rX : Int32} {x x' : Nat → Nat → Int32} {T rM : Int32} {A B : Nat → Nat → Int32} (E : String) (hE : E ∈ L) (hoc : oc = some E) {c : Int32} (hT : T = c) (hc : c = hcod L (some E)) (h0 : ¬ c = 0) (hB : B 27 0 = T) (hR : RE N x B) : StOk L N oc rX x x' T rM A B :=
  Or.inr ⟨E, hE, hoc, by rw [hT, hc], by rw [hT]; exact h0, hB, hR⟩
theorem upd_all {p : Nat → Int32 → Prop} {f : Nat → Int32} {m i : Nat} {v : Int32} (h : ∀ k, k < m → p k (f k)) (hv : p i v) : ∀ k, k < m → p k (upd f i v k) := fun k hk => by
  by_cases e : k = i
  · subst e; rw [upd_s]; exact hv
  · rw [upd_n e]; exact h k hk
theorem upd2 {f g : Nat → Int32} {i k : Nat} {v w : Int32} (h : f k = g k) (hv : v = w) : upd f i v k = upd g i w k := by
  by_cases e : k = i
  · subst e; rw [upd_s, upd_s, hv]
  · rw [upd_n e, upd_n e, h]
section STEPS
variable {n h q b t N : Nat} {x y : Nat → Nat → Int32}
theorem circ_eq {v : Int32} : (v = -1 ∨ (0 ≤ v ∧ v < 4)) ↔ inR v (-1) 3 := by
  have e : v = -1 ↔ v.toInt = -1 := ⟨fun z => by rw [z]; decide, fun z => Int32.toInt_inj.mp (by rw [z]; decide)⟩
  unfold inR
  simp only [e, i_le, i_lt, show (4 : Int32).toInt = 4 from by decide, show (0 : Int32).toInt = 0 from by decide, show (-1 : Int32).toInt = -1 from by decide, show (3 : Int32).toInt = 3 from by decide]
  omega
theorem circ4 {v : Int32} : (0 ≤ v ∧ v < 4) ↔ inR v 0 3 := by
  unfold inR
  simp only [i_le, i_lt, show (4 : Int32).toInt = 4 from by decide, show (0 : Int32).toInt = 0 from by decide, show (3 : Int32).toInt = 3 from by decide]
  omega
theorem h01 {v : Int32} : (0 ≤ v ∧ v < 2) ↔ inR v 0 1 := by
  unfold inR
  simp only [i_le, i_lt, show (2 : Int32).toInt = 2 from by decide, show (0 : Int32).toInt = 0 from by decide, show (1 : Int32).toInt = 1 from by decide]
  omega
theorem cue_rng (r : RR n h q b t x y) {w : Int32} : (0 ≤ w ∧ w < x 16 0) ↔ inR w 0 (y 18 0 - 1) := by
  obtain ⟨hn10, hlt, hq8, hbq, hn, hnM, hh, hhM, hq, hqM, -⟩ := r
  rw [hq, hqM]
  exact rng_eq (by omega)
theorem cue_at (r : RR n h q b t x y) {w : Int32} (hw : inR w 0 (y 18 0 - 1)) : w.toNatClampNeg < q ∧ w = nI w.toNatClampNeg := by
  obtain ⟨hn10, hlt, hq8, hbq, hn, hnM, hh, hhM, hq, hqM, -⟩ := r
  rw [hqM] at hw
  exact idxN hw (by omega)
theorem hov_o (f : Nat → Int32) {d o k : Nat} (hd : d < 10) (ho : o < 10) (hk : k < 10) (h1 : k ≠ d) (h2 : k ≠ o) (c : Nat) : ∀ m, (hov f d o m).1 (10 * c + k) = f (10 * c + k)
  | 0 => rfl
  | m + 1 => by
    unfold hov
    split
    · exact hov_o f hd ho hk h1 h2 c m
    · show upd (upd (hov f d o m).1 (10 * m + o) ((hov f d o m).1 (10 * m + d))) (10 * m + d) (-1) (10 * c + k) = _
      rw [upd_n (by omega), upd_n (by omega)]
      exact hov_o f hd ho hk h1 h2 c m
theorem bnM_27 (n : Nat) : ∀ (k c : Nat) (z : Nat → Nat → Int32), bnM n k c z 27 = z 27
  | 0, _, _ => rfl
  | k + 1, c, z => by
    unfold bnM
    split
    · exact bnM_27 n k (c + 1) (begM z n c)
    · rfl
theorem tkS_27 (y : Nat → Nat → Int32) (n q : Nat) : ∀ i, (tkS y n q i).1 27 = y 27
  | 0 => rfl
  | i + 1 => by
    show tkB (tkS y n q i).1 n q 27 = y 27
    unfold tkB
    split
    · rw [bnM_27]; exact tkS_27 y n q i
    · exact tkS_27 y n q i
theorem sumf01 {f : Nat → Int32} : ∀ {n : Nat}, (∀ j, j < n → f j = 0 ∨ f j = 1) → ∃ m, m ≤ n ∧ sumf f n = nI m
  | 0, _ => ⟨0, Nat.le_refl 0, rfl⟩
  | n + 1, h => by
    obtain ⟨m, h1, h2⟩ := sumf01 (fun j hj => h j (by omega) : ∀ j, j < n → f j = 0 ∨ f j = 1)
    show ∃ m, m ≤ n + 1 ∧ sumf f n + f n = nI m
    rcases h n (by omega) with e | e
    · exact ⟨m, by omega, by rw [e, h2, Int32.add_zero]⟩
    · exact ⟨m + 1, by omega, by rw [e, h2, nI_1]⟩
theorem sumf01k {f : Nat → Int32} {k : Nat} (hk0 : f k = 0) : ∀ {n : Nat}, k < n → (∀ j, j < n → f j = 0 ∨ f j = 1) → ∃ m, m < n ∧ sumf f n = nI m
  | 0, h, _ => absurd h (Nat.not_lt_zero _)
  | n + 1, hk, h => by
    show ∃ m, m < n + 1 ∧ sumf f n + f n = nI m
    by_cases e : k = n
    · obtain ⟨m, h1, h2⟩ := sumf01 (fun j hj => h j (by omega) : ∀ j, j < n → f j = 0 ∨ f j = 1)
      rw [e] at hk0
      exact ⟨m, by omega, by rw [hk0, h2, Int32.add_zero]⟩
    · obtain ⟨m, h1, h2⟩ := sumf01k hk0 (by omega : k < n) (fun j hj => h j (by omega))
      rcases h n (by omega) with e | e
      · exact ⟨m, by omega, by rw [e, h2, Int32.add_zero]⟩
      · exact ⟨m + 1, by omega, by rw [e, h2, nI_1]⟩
theorem rnk_eq (r : RR n h q b t x y) {bar rank : Int32} (hb : bar ≠ -1) : rnkX x bar rank = if inR rank 0 9 then rnkM y n bar rank else -1 := by
  obtain ⟨hn10, hlt, hq8, hbq, hn, hnM, hh, hhM, hq, hqM, hb', hbM, hti, hTM, e1, e2, e3, e5, e6, e7, e11, e17, e18, e19, e20, hbars, hlen, hkind, hlow, hhigh, -⟩ := r
  have hbel : ∀ k, belX x bar (x 11 k) = ahd y n bar k := fun k => by
    unfold belX ahd
    rw [sumf_ext (n := n) hn10 (fun j h1 h2 => by rw [(hhigh j h1 h2).1, if_neg (fun z => hb z.1.symm)])]
    exact sumf_congr (fun j hj => by rw [(hlow j hj).1, e11])
  have e : rnkX x bar rank = rnkM y n bar rank := by
    unfold rnkX rnkM
    rw [fnd_ext (n := n) hn10 (fun k h1 h2 z => by rw [(hhigh k (by omega) (by omega)).1] at z; exact hb z.1.symm)]
    exact fnd_congr (fun k h1 h2 => by rw [(hlow k (by omega)).1, hbel])
  rw [e]
  by_cases hr : inR rank 0 9
  · rw [if_pos hr]
  · rw [if_neg hr]
    refine fnd_none (fun k h1 h2 z => hr ?_)
    obtain ⟨m, g1, g2⟩ := sumf01k (f := fun j => if y 7 j = bar ∧ y 8 j < y 8 k then (1 : Int32) else 0) (k := k) (if_neg (fun w => Int32.lt_irrefl w.2)) (by omega : k < n) (fun j hj => by by_cases e9 : y 7 j = bar ∧ y 8 j < y 8 k; exact Or.inr (if_pos e9); exact Or.inl (if_neg e9))
    rw [← z.2]
    show inR (sumf (fun j => if y 7 j = bar ∧ y 8 j < y 8 k then (1 : Int32) else 0) n) 0 9
    rw [g2]
    exact ⟨nI_pos' (by omega), nI_le (b := 9) (by omega) (by decide)⟩
theorem hasA_c (v : Int32) : hasA v = 4 ∨ hasA v = 12 ∨ hasA v = 1 := by
  unfold hasA
  by_cases h2 : v = 2
  · rw [if_pos h2]; exact Or.inl rfl
  · rw [if_neg h2]
    by_cases h3 : v = 3
    · rw [if_pos h3]; exact Or.inr (Or.inl rfl)
    · rw [if_neg h3]; exact Or.inr (Or.inr rfl)
set_option maxHeartbeats 1000000 in
theorem st_bar (hN : N + 50 < 2 ^ 29) (r : RR n h q b t x y) (ht : t ≤ N) (house len lim : Int32) : StOk [eI, eA, eS] N (if (0 ≤ house ∧ house < 2) then (if (0 ≤ len ∧ len ≤ 100) then (if (1 ≤ lim ∧ lim ≤ 500) then (if (x 5 house.toNatClampNeg < 4) then none else some eS) else some eA) else some eA) else some eI) (nI (x 5 house.toNatClampNeg).toNatClampNeg) x (set2 (set2 (set2 x 5 (upd (x 5) house.toNatClampNeg (x 5 house.toNatClampNeg + 1))) 6 (upd (x 6) (4 * house.toNatClampNeg + (x 5 house.toNatClampNeg).toNatClampNeg) len)) 7 (upd (x 7) (4 * house.toNatClampNeg + (x 5 house.toNatClampNeg).toNatClampNeg) lim)) (T3 (inR house 0 1) (inR len 0 100 ∧ inR lim 1 500) (inR house 0 1 ∧ y 1 house.toNatClampNeg < 4)) (y 1 house.toNatClampNeg + 1 - 1) (set2 (set2 (set2 (set2 y 27 (fun _ => T3 (inR house 0 1) (inR len 0 100 ∧ inR lim 1 500) (inR house 0 1 ∧ y 1 house.toNatClampNeg < 4))) 2 (upd (y 2) (4 * house.toNatClampNeg + (y 1 house.toNatClampNeg).toNatClampNeg) len)) 3 (upd (y 3) (4 * house.toNatClampNeg + (y 1 house.toNatClampNeg).toNatClampNeg) lim)) 1 (upd (y 1) house.toNatClampNeg (y 1 house.toNatClampNeg + 1))) (set2 y 27 (fun _ => T3 (inR house 0 1) (inR len 0 100 ∧ inR lim 1 500) (inR house 0 1 ∧ y 1 house.toNatClampNeg < 4))) := by
  obtain ⟨hn10, hlt, hq8, hbq, hn, hnM, hh, hhM, hq, hqM, hb, hbM, hti, hTM, e1, e2, e3, e5, e6, e7, e11, e17, e18, e19, e20, hbars, hlen, hkind, hlow, hhigh, hfst, hplc, hnam, hcur, hrul, hbeg⟩ := id r
  by_cases p0 : 0 ≤ house ∧ house < 2
  case neg =>
    exact StOk.no eI (List.mem_cons_self) (by rw [if_neg p0]) (c := 1) (T3_1 (fun z => p0 (h01.mpr z))) (by decide +kernel) (by decide) rfl ⟨n, h, q, b, t, ht, RR_27 r _⟩
  by_cases p1 : 0 ≤ len ∧ len ≤ 100
  case neg =>
    exact StOk.no eA (List.mem_cons_of_mem _ (List.mem_cons_self)) (by rw [if_pos p0, if_neg p1]) (c := 2) (T3_2 (h01.mp p0) (fun z => p1 z.1)) (by decide +kernel) (by decide) rfl ⟨n, h, q, b, t, ht, RR_27 r _⟩
  by_cases p2 : 1 ≤ lim ∧ lim ≤ 500
  case neg =>
    exact StOk.no eA (List.mem_cons_of_mem _ (List.mem_cons_self)) (by rw [if_pos p0, if_pos p1, if_neg p2]) (c := 2) (T3_2 (h01.mp p0) (fun z => p2 z.2)) (by decide +kernel) (by decide) rfl ⟨n, h, q, b, t, ht, RR_27 r _⟩
  by_cases p3 : x 5 house.toNatClampNeg < 4
  case neg =>
    exact StOk.no eS (List.mem_cons_of_mem _ (List.mem_cons_of_mem _ (List.mem_cons_self))) (by rw [if_pos p0, if_pos p1, if_pos p2, if_neg p3]) (c := 3) (T3_3 (h01.mp p0) ⟨p1, p2⟩ (fun z => p3 (by rw [e5]; exact z.2))) (by decide +kernel) (by decide) rfl ⟨n, h, q, b, t, ht, RR_27 r _⟩
  have hH := idx01 (h01.mp p0)
  obtain ⟨kb, hkb, ekb⟩ := hbars _ hH.1
  have hkb3 : kb < 4 := (nI_ltI (by omega) (by decide)).mp (show nI kb < nI 4 by rw [← ekb, ← e5]; exact p3)
  refine Or.inl ⟨(by rw [if_pos p0, if_pos p1, if_pos p2, if_pos p3]), T3_0 (h01.mp p0) ⟨p1, p2⟩ ⟨h01.mp p0, by rw [← e5]; exact p3⟩, ?_, rfl, ⟨n, h, q, b, t, ht, ⟨hn10, hlt, hq8, hbq, hn, hnM, hh, hhM, hq, hqM, hb, hbM, hti, hTM, e1, e2, e3, ?_, ?_, ?_, e11, e17, e18, e19, e20, ?_, ?_, hkind, hlow, hhigh, hfst, hplc, hnam, hcur, hrul, hbeg⟩⟩⟩
  · rw [e5, ekb, nI_clamp (by omega), Int32.add_sub_cancel]
  · show upd (x 5) house.toNatClampNeg (x 5 house.toNatClampNeg + 1) = upd (y 1) house.toNatClampNeg (y 1 house.toNatClampNeg + 1); rw [e5]
  · show upd (x 6) (4 * house.toNatClampNeg + (x 5 house.toNatClampNeg).toNatClampNeg) len = upd (y 2) (4 * house.toNatClampNeg + (y 1 house.toNatClampNeg).toNatClampNeg) len; rw [e6, e5]
  · show upd (x 7) (4 * house.toNatClampNeg + (x 5 house.toNatClampNeg).toNatClampNeg) lim = upd (y 3) (4 * house.toNatClampNeg + (y 1 house.toNatClampNeg).toNatClampNeg) lim; rw [e7, e5]
  · exact upd_all (p := fun _ v => ∃ kb, kb ≤ 4 ∧ v = nI kb) hbars ⟨kb + 1, hkb3, by rw [ekb, nI_1]⟩
  · exact upd_all (p := fun _ v => ∃ ll, ll ≤ 100 ∧ v = nI ll) hlen (nI_of2 (M := 100) (n := 100) (by decide) (Int32.not_lt.mpr p1.1) p1.2)

set_option maxHeartbeats 1000000 in
theorem st_lamp (hN : N + 50 < 2 ^ 29) (r : RR n h q b t x y) (ht : t ≤ N) (kind col : Int32) : StOk [eA, eS] N (if (0 ≤ kind ∧ kind ≤ 3) then (if (0 ≤ col ∧ col ≤ 20) then (if (x 0 0 < 10) then none else some eS) else some eA) else some eA) (x 0 0) x (set2 (set2 (set2 (set2 (set2 x 0 (fun _ => x 0 0 + 1)) 1 (upd (x 1) n col)) 8 (upd (x 8) n (wgh kind))) 13 (upd (x 13) n (wdX kind))) 15 (upd (x 15) n (drw kind))) (T2 (inR kind 0 3 ∧ inR col 0 20) (y 4 0 < 10)) (y 4 0 + 1 - 1) (set2 (set2 (set2 (set2 (set2 (set2 (set2 y 27 (fun _ => T2 (inR kind 0 3 ∧ inR col 0 20) (y 4 0 < 10))) 5 (upd (y 5) n kind)) 6 (upd (y 6) n col)) 7 (upd (y 7) n (-1))) 9 (upd (y 9) n (-1))) 10 (upd (y 10) n (-1))) 4 (fun _ => y 4 0 + 1)) (set2 y 27 (fun _ => T2 (inR kind 0 3 ∧ inR col 0 20) (y 4 0 < 10))) := by
  obtain ⟨hn10, hlt, hq8, hbq, hn, hnM, hh, hhM, hq, hqM, hb, hbM, hti, hTM, e1, e2, e3, e5, e6, e7, e11, e17, e18, e19, e20, hbars, hlen, hkind, hlow, hhigh, hfst, hplc, hnam, hcur, hrul, hbeg⟩ := id r
  by_cases p0 : 0 ≤ kind ∧ kind ≤ 3
  case neg =>
    exact StOk.no eA (List.mem_cons_self) (by rw [if_neg p0]) (c := 1) (T2_1 (fun z => p0 z.1)) (by decide +kernel) (by decide) rfl ⟨n, h, q, b, t, ht, RR_27 r _⟩
  by_cases p1 : 0 ≤ col ∧ col ≤ 20
  case neg =>
    exact StOk.no eA (List.mem_cons_self) (by rw [if_pos p0, if_neg p1]) (c := 1) (T2_1 (fun z => p1 z.2)) (by decide +kernel) (by decide) rfl ⟨n, h, q, b, t, ht, RR_27 r _⟩
  by_cases p2 : x 0 0 < 10
  case neg =>
    exact StOk.no eS (List.mem_cons_of_mem _ (List.mem_cons_self)) (by rw [if_pos p0, if_pos p1, if_neg p2]) (c := 2) (T2_2 ⟨p0, p1⟩ (fun z => p2 (by rw [hn, ← hnM]; exact z))) (by decide +kernel) (by decide) rfl ⟨n, h, q, b, t, ht, RR_27 r _⟩
  have hn9 : n < 10 := (nI_ltI (by omega) (by decide)).mp (show nI n < nI 10 by rw [← hn]; exact p2)
  refine Or.inl ⟨(by rw [if_pos p0, if_pos p1, if_pos p2]), T2_0 ⟨p0, p1⟩ (by rw [hnM, ← hn]; exact p2), ?_, rfl, ⟨n + 1, h, q, b, t, ht, ⟨hn9, hlt, hq8, hbq, ?_, ?_, hh, hhM, hq, hqM, hb, hbM, hti, hTM, ?_, e2, e3, e5, e6, e7, e11, e17, e18, e19, e20, hbars, hlen, ?_, ?_, (fun k h1 h2 => hhigh k (by omega) h2), ?_, hplc, (fun c hc k h1 h2 => hnam c hc k (by omega) h2), hcur, hrul, hbeg⟩⟩⟩
  · rw [hn, hnM, Int32.add_sub_cancel]
  · show x 0 0 + 1 = nI (n + 1); rw [hn, nI_1]
  · show y 4 0 + 1 = nI (n + 1); rw [hnM, nI_1]
  · show upd (x 1) n col = upd (y 6) n col; rw [e1]
  · intro k hk
    show inR (upd (y 5) n kind k) 0 3 ∧ upd (x 8) n (wgh kind) k = wgh (upd (y 5) n kind k) ∧ upd (x 13) n (wdX kind) k = hasA (upd (y 5) n kind k) ∧ upd (x 15) n (drw kind) k = drw (upd (y 5) n kind k)
    by_cases e : k = n
    · rw [e]; simp only [upd_s]; exact ⟨p0, trivial, wgh_eq p0, trivial⟩
    · simp only [upd_n e]; exact hkind k (by omega)
  · intro k hk
    show x 9 k = upd (y 7) n (-1) k ∧ x 12 k = upd (y 9) n (-1) k ∧ x 14 k = upd (y 10) n (-1) k
    by_cases e : k = n
    · rw [e]; simp only [upd_s]; exact ⟨(hhigh n (Nat.le_refl n) hn9).1, (hhigh n (Nat.le_refl n) hn9).2.1, (hhigh n (Nat.le_refl n) hn9).2.2.1⟩
    · simp only [upd_n e]; exact hlow k (by omega)
  · intro k hk
    show inR (upd (y 9) n (-1) k) (-1) 100
    by_cases e : k = n
    · rw [e, upd_s]; exact ⟨by decide, by decide⟩
    · rw [upd_n e]; exact hfst k (by omega)

set_option maxHeartbeats 1000000 in
theorem st_hang (hN : N + 50 < 2 ^ 29) (r : RR n h q b t x y) (ht : t ≤ N) (lm bar place : Int32) : StOk [eI, eS] N (if (0 ≤ lm ∧ lm < x 0 0) then (if (0 ≤ bar ∧ bar < x 5 h) then (if (plcX x h bar.toNatClampNeg place) then (if (bearX x h lm.toNatClampNeg bar.toNatClampNeg ∧ clrX x lm bar place) then none else some eS) else some eI) else some eI) else some eI) (wOnX (set2 (set2 x 9 (upd (x 9) lm.toNatClampNeg bar)) 11 (upd (x 11) lm.toNatClampNeg place)) bar) x (set2 (set2 x 9 (upd (x 9) lm.toNatClampNeg bar)) 11 (upd (x 11) lm.toNatClampNeg place)) (T2 (inR lm 0 (y 4 0 - 1) ∧ inR bar 0 (y 1 h - 1) ∧ inR place 0 (y 2 (4 * h + bar.toNatClampNeg))) ((inR lm 0 (y 4 0 - 1) ∧ inR bar 0 (y 1 h - 1) ∧ inR place 0 (y 2 (4 * h + bar.toNatClampNeg))) ∧ canM y n h lm bar place)) (wOnM (set2 (set2 (set2 y 27 (fun _ => T2 (inR lm 0 (y 4 0 - 1) ∧ inR bar 0 (y 1 h - 1) ∧ inR place 0 (y 2 (4 * h + bar.toNatClampNeg))) ((inR lm 0 (y 4 0 - 1) ∧ inR bar 0 (y 1 h - 1) ∧ inR place 0 (y 2 (4 * h + bar.toNatClampNeg))) ∧ canM y n h lm bar place))) 7 (upd (y 7) lm.toNatClampNeg bar)) 8 (upd (y 8) lm.toNatClampNeg place)) n bar (-1)) (set2 (set2 (set2 y 27 (fun _ => T2 (inR lm 0 (y 4 0 - 1) ∧ inR bar 0 (y 1 h - 1) ∧ inR place 0 (y 2 (4 * h + bar.toNatClampNeg))) ((inR lm 0 (y 4 0 - 1) ∧ inR bar 0 (y 1 h - 1) ∧ inR place 0 (y 2 (4 * h + bar.toNatClampNeg))) ∧ canM y n h lm bar place))) 7 (upd (y 7) lm.toNatClampNeg bar)) 8 (upd (y 8) lm.toNatClampNeg place)) (set2 y 27 (fun _ => T2 (inR lm 0 (y 4 0 - 1) ∧ inR bar 0 (y 1 h - 1) ∧ inR place 0 (y 2 (4 * h + bar.toNatClampNeg))) ((inR lm 0 (y 4 0 - 1) ∧ inR bar 0 (y 1 h - 1) ∧ inR place 0 (y 2 (4 * h + bar.toNatClampNeg))) ∧ canM y n h lm bar place))) := by
  obtain ⟨hn10, hlt, hq8, hbq, hn, hnM, hh, hhM, hq, hqM, hb, hbM, hti, hTM, e1, e2, e3, e5, e6, e7, e11, e17, e18, e19, e20, hbars, hlen, hkind, hlow, hhigh, hfst, hplc, hnam, hcur, hrul, hbeg⟩ := id r
  have hare : (0 ≤ lm ∧ lm < x 0 0) → (0 ≤ bar ∧ bar < x 5 h) → plcX x h bar.toNatClampNeg place → (inR lm 0 (y 4 0 - 1) ∧ inR bar 0 (y 1 h - 1) ∧ inR place 0 (y 2 (4 * h + bar.toNatClampNeg))) := fun z1 z2 z3 => ⟨(lamp_rng r).mp z1, (bar_rng r).mp z2, by unfold plcX at z3; rw [e6] at z3; exact z3⟩
  have hcan : (0 ≤ lm ∧ lm < x 0 0) → (0 ≤ bar ∧ bar < x 5 h) → ((bearX x h lm.toNatClampNeg bar.toNatClampNeg ∧ clrX x lm bar place) ↔ canM y n h lm bar place) := fun z1 z2 => by
    have hl := lamp_at r ((lamp_rng r).mp z1)
    have hj := bar_at r ((bar_rng r).mp z2)
    have hc := can_eq r hl.1 hj.1 (place := place)
    rw [← hl.2, ← hj.2] at hc
    exact hc
  by_cases p0 : 0 ≤ lm ∧ lm < x 0 0
  case neg =>
    exact StOk.no eI (List.mem_cons_self) (by rw [if_neg p0]) (c := 1) (T2_1 (fun z => p0 ((lamp_rng r).mpr z.1))) (by decide +kernel) (by decide) rfl ⟨n, h, q, b, t, ht, RR_27 r _⟩
  by_cases p1 : 0 ≤ bar ∧ bar < x 5 h
  case neg =>
    exact StOk.no eI (List.mem_cons_self) (by rw [if_pos p0, if_neg p1]) (c := 1) (T2_1 (fun z => p1 ((bar_rng r).mpr z.2.1))) (by decide +kernel) (by decide) rfl ⟨n, h, q, b, t, ht, RR_27 r _⟩
  by_cases p2 : plcX x h bar.toNatClampNeg place
  case neg =>
    exact StOk.no eI (List.mem_cons_self) (by rw [if_pos p0, if_pos p1, if_neg p2]) (c := 1) (T2_1 (fun z => p2 (by unfold plcX; rw [e6]; exact z.2.2))) (by decide +kernel) (by decide) rfl ⟨n, h, q, b, t, ht, RR_27 r _⟩
  by_cases p3 : bearX x h lm.toNatClampNeg bar.toNatClampNeg ∧ clrX x lm bar place
  case neg =>
    exact StOk.no eS (List.mem_cons_of_mem _ (List.mem_cons_self)) (by rw [if_pos p0, if_pos p1, if_pos p2, if_neg p3]) (c := 2) (T2_2 (hare p0 p1 p2) (fun z => p3 ((hcan p0 p1).mpr z.2))) (by decide +kernel) (by decide) rfl ⟨n, h, q, b, t, ht, RR_27 r _⟩
  have hl := lamp_at r ((lamp_rng r).mp p0)
  have hj := bar_at r ((bar_rng r).mp p1)
  obtain ⟨ll, hll, ell⟩ := hlen (4 * h + bar.toNatClampNeg) (by have := hj.1; omega)
  have hare1 := hare p0 p1 p2
  obtain ⟨p, hp, ep⟩ : ∃ p, p ≤ 100 ∧ place = nI p := by
    obtain ⟨p, h1, h2⟩ := nI_of2 (x := place) (M := nI ll) (n := ll) (nI_toInt (by omega)) (Int32.not_lt.mpr hare1.2.2.1) (by rw [← ell]; exact hare1.2.2.2)
    exact ⟨p, by omega, h2⟩
  have r2 := RR_put (x := x) (y := set2 y 27 (fun _ => T2 (inR lm 0 (y 4 0 - 1) ∧ inR bar 0 (y 1 h - 1) ∧ inR place 0 (y 2 (4 * h + bar.toNatClampNeg))) ((inR lm 0 (y 4 0 - 1) ∧ inR bar 0 (y 1 h - 1) ∧ inR place 0 (y 2 (4 * h + bar.toNatClampNeg))) ∧ canM y n h lm bar place))) (f := x 9) (g := x 11) (f' := y 7) (g' := y 8) (by exact r) hl.1 hp bar
  rw [← ep] at r2
  refine Or.inl ⟨(by rw [if_pos p0, if_pos p1, if_pos p2, if_pos p3]), T2_0 hare1 ⟨hare1, (hcan p0 p1).mp p3⟩, ?_, rfl, ⟨n, h, q, b, t, ht, r2⟩⟩
  exact won_eq r2 (fun w => by have z := p1.1; rw [w] at z; exact absurd z (by decide))

set_option maxHeartbeats 1000000 in
theorem st_down (hN : N + 50 < 2 ^ 29) (r : RR n h q b t x y) (ht : t ≤ N) (lm : Int32) : StOk [eI] N (if (0 ≤ lm ∧ lm < x 0 0) then none else some eI) (b2 (x 9 lm.toNatClampNeg ≠ -1)) x (set2 x 9 (upd (x 9) lm.toNatClampNeg (-1))) (T1 (inR lm 0 (y 4 0 - 1))) (b2 (y 7 lm.toNatClampNeg ≠ -1)) (set2 (set2 y 27 (fun _ => T1 (inR lm 0 (y 4 0 - 1)))) 7 (upd (y 7) lm.toNatClampNeg (-1))) (set2 y 27 (fun _ => T1 (inR lm 0 (y 4 0 - 1)))) := by
  obtain ⟨hn10, hlt, hq8, hbq, hn, hnM, hh, hhM, hq, hqM, hb, hbM, hti, hTM, e1, e2, e3, e5, e6, e7, e11, e17, e18, e19, e20, hbars, hlen, hkind, hlow, hhigh, hfst, hplc, hnam, hcur, hrul, hbeg⟩ := id r
  by_cases p0 : 0 ≤ lm ∧ lm < x 0 0
  case neg =>
    exact StOk.no eI (List.mem_cons_self) (by rw [if_neg p0]) (c := 1) (T1_1 (fun z => p0 ((lamp_rng r).mpr z))) (by decide +kernel) (by decide) rfl ⟨n, h, q, b, t, ht, RR_27 r _⟩
  have hl := lamp_at r ((lamp_rng r).mp p0)
  refine Or.inl ⟨(by rw [if_pos p0]), T1_0 ((lamp_rng r).mp p0), ?_, rfl, ⟨n, h, q, b, t, ht, ⟨hn10, hlt, hq8, hbq, hn, hnM, hh, hhM, hq, hqM, hb, hbM, hti, hTM, e1, e2, e3, e5, e6, e7, e11, e17, e18, e19, e20, hbars, hlen, hkind, ?_, ?_, hfst, hplc, hnam, hcur, hrul, hbeg⟩⟩⟩
  · rw [(hlow _ hl.1).1]
  · intro k hk; exact ⟨upd2 (hlow k hk).1 rfl, (hlow k hk).2⟩
  · intro k h1 h2; refine ⟨?_, (hhigh k h1 h2).2⟩; show upd _ _ _ k = -1; rw [upd_n (by have := hl.1; omega)]; exact (hhigh k h1 h2).1

set_option maxHeartbeats 1000000 in
theorem st_onBar (hN : N + 50 < 2 ^ 29) (r : RR n h q b t x y) (ht : t ≤ N) (bar rank : Int32) : StOk [eI] N (if (0 ≤ bar ∧ bar < x 5 h) then (if ((rnkX x bar rank) ≠ -1) then none else some eI) else some eI) (rnkX x bar rank) x (x) (T1 ((if (inR bar 0 (y 1 h - 1) ∧ inR rank 0 9) then rnkM y n bar rank else -1) ≠ -1)) (if (inR bar 0 (y 1 h - 1) ∧ inR rank 0 9) then rnkM y n bar rank else -1) (set2 y 27 (fun _ => T1 ((if (inR bar 0 (y 1 h - 1) ∧ inR rank 0 9) then rnkM y n bar rank else -1) ≠ -1))) (set2 y 27 (fun _ => T1 ((if (inR bar 0 (y 1 h - 1) ∧ inR rank 0 9) then rnkM y n bar rank else -1) ≠ -1))) := by
  obtain ⟨hn10, hlt, hq8, hbq, hn, hnM, hh, hhM, hq, hqM, hb, hbM, hti, hTM, e1, e2, e3, e5, e6, e7, e11, e17, e18, e19, e20, hbars, hlen, hkind, hlow, hhigh, hfst, hplc, hnam, hcur, hrul, hbeg⟩ := id r
  have hne : (0 ≤ bar ∧ bar < x 5 h) → bar ≠ -1 := fun z w => by rw [w] at z; exact absurd z.1 (by decide)
  by_cases p0 : 0 ≤ bar ∧ bar < x 5 h
  case neg =>
    exact StOk.no eI (List.mem_cons_self) (by rw [if_neg p0]) (c := 1) (T1_1 (fun z => z (if_neg (fun w => p0 ((bar_rng r).mpr w.1))))) (by decide +kernel) (by decide) rfl ⟨n, h, q, b, t, ht, RR_27 r _⟩
  by_cases p1 : (rnkX x bar rank) ≠ -1
  case neg =>
    exact StOk.no eI (List.mem_cons_self) (by rw [if_pos p0, if_neg p1]) (c := 1) (T1_1 (fun z => z (by have e9 := rnk_eq r (rank := rank) (hne p0); rw [Decidable.not_not.mp p1] at e9; by_cases hr : inR rank 0 9; rw [if_pos hr] at e9; rw [if_pos ⟨(bar_rng r).mp p0, hr⟩]; exact e9.symm; exact if_neg (fun w => hr w.2)))) (by decide +kernel) (by decide) rfl ⟨n, h, q, b, t, ht, RR_27 r _⟩
  have e9 : (if inR bar 0 (y 1 h - 1) ∧ inR rank 0 9 then rnkM y n bar rank else -1) = rnkX x bar rank := by
    rw [rnk_eq r (hne p0)]
    by_cases hr : inR rank 0 9
    · rw [if_pos hr, if_pos ⟨(bar_rng r).mp p0, hr⟩]
    · rw [if_neg hr, if_neg (fun w => hr w.2)]
  refine Or.inl ⟨(by rw [if_pos p0, if_pos p1]), T1_0 (by rw [e9]; exact p1), ?_, rfl, ⟨n, h, q, b, t, ht, ⟨hn10, hlt, hq8, hbq, hn, hnM, hh, hhM, hq, hqM, hb, hbM, hti, hTM, e1, e2, e3, e5, e6, e7, e11, e17, e18, e19, e20, hbars, hlen, hkind, hlow, hhigh, hfst, hplc, hnam, hcur, hrul, hbeg⟩⟩⟩
  · exact e9.symm

set_option maxHeartbeats 1000000 in
theorem st_where (hN : N + 50 < 2 ^ 29) (r : RR n h q b t x y) (ht : t ≤ N) (lm : Int32) : StOk [eI] N (if (0 ≤ lm ∧ lm < x 0 0) then none else some eI) (if x 9 lm.toNatClampNeg ≠ -1 then 1000 * x 9 lm.toNatClampNeg + x 11 lm.toNatClampNeg else -1) x (x) (T1 (inR lm 0 (y 4 0 - 1))) (if y 7 lm.toNatClampNeg = -1 then -1 else 1000 * y 7 lm.toNatClampNeg + y 8 lm.toNatClampNeg) (set2 y 27 (fun _ => T1 (inR lm 0 (y 4 0 - 1)))) (set2 y 27 (fun _ => T1 (inR lm 0 (y 4 0 - 1)))) := by
  obtain ⟨hn10, hlt, hq8, hbq, hn, hnM, hh, hhM, hq, hqM, hb, hbM, hti, hTM, e1, e2, e3, e5, e6, e7, e11, e17, e18, e19, e20, hbars, hlen, hkind, hlow, hhigh, hfst, hplc, hnam, hcur, hrul, hbeg⟩ := id r
  by_cases p0 : 0 ≤ lm ∧ lm < x 0 0
  case neg =>
    exact StOk.no eI (List.mem_cons_self) (by rw [if_neg p0]) (c := 1) (T1_1 (fun z => p0 ((lamp_rng r).mpr z))) (by decide +kernel) (by decide) rfl ⟨n, h, q, b, t, ht, RR_27 r _⟩
  have hl := lamp_at r ((lamp_rng r).mp p0)
  refine Or.inl ⟨(by rw [if_pos p0]), T1_0 ((lamp_rng r).mp p0), ?_, rfl, ⟨n, h, q, b, t, ht, ⟨hn10, hlt, hq8, hbq, hn, hnM, hh, hhM, hq, hqM, hb, hbM, hti, hTM, e1, e2, e3, e5, e6, e7, e11, e17, e18, e19, e20, hbars, hlen, hkind, hlow, hhigh, hfst, hplc, hnam, hcur, hrul, hbeg⟩⟩⟩
  · rw [(hlow _ hl.1).1, e11]; by_cases e : y 7 lm.toNatClampNeg = -1; rw [if_neg (fun z => z e), if_pos e]; rw [if_pos e, if_neg e]

set_option maxHeartbeats 1000000 in
theorem st_patch (hN : N + 50 < 2 ^ 29) (r : RR n h q b t x y) (ht : t ≤ N) (lm first : Int32) : StOk [eI, eA] N (if (0 ≤ lm ∧ lm < x 0 0) then (if (-1 ≤ first ∧ first ≤ 100 - x 13 lm.toNatClampNeg) then none else some eA) else some eI) (dbl (fun k => cntH (set2 x 12 (upd (x 12) lm.toNatClampNeg first)) (nI k))) x (set2 x 12 (upd (x 12) lm.toNatClampNeg first)) (T2 (inR lm 0 (y 4 0 - 1)) (inR lm 0 (y 4 0 - 1) ∧ inR first (-1) (100 - hasA (y 5 lm.toNatClampNeg)))) (dbl (fun k => atM (set2 (set2 y 27 (fun _ => T2 (inR lm 0 (y 4 0 - 1)) (inR lm 0 (y 4 0 - 1) ∧ inR first (-1) (100 - hasA (y 5 lm.toNatClampNeg))))) 9 (upd (y 9) lm.toNatClampNeg first)) n (nI k))) (set2 (set2 y 27 (fun _ => T2 (inR lm 0 (y 4 0 - 1)) (inR lm 0 (y 4 0 - 1) ∧ inR first (-1) (100 - hasA (y 5 lm.toNatClampNeg))))) 9 (upd (y 9) lm.toNatClampNeg first)) (set2 y 27 (fun _ => T2 (inR lm 0 (y 4 0 - 1)) (inR lm 0 (y 4 0 - 1) ∧ inR first (-1) (100 - hasA (y 5 lm.toNatClampNeg))))) := by
  obtain ⟨hn10, hlt, hq8, hbq, hn, hnM, hh, hhM, hq, hqM, hb, hbM, hti, hTM, e1, e2, e3, e5, e6, e7, e11, e17, e18, e19, e20, hbars, hlen, hkind, hlow, hhigh, hfst, hplc, hnam, hcur, hrul, hbeg⟩ := id r
  by_cases p0 : 0 ≤ lm ∧ lm < x 0 0
  case neg =>
    exact StOk.no eI (List.mem_cons_self) (by rw [if_neg p0]) (c := 1) (T2_1 (fun z => p0 ((lamp_rng r).mpr z))) (by decide +kernel) (by decide) rfl ⟨n, h, q, b, t, ht, RR_27 r _⟩
  by_cases p1 : -1 ≤ first ∧ first ≤ 100 - x 13 lm.toNatClampNeg
  case neg =>
    exact StOk.no eA (List.mem_cons_of_mem _ (List.mem_cons_self)) (by rw [if_pos p0, if_neg p1]) (c := 2) (T2_2 ((lamp_rng r).mp p0) (fun z => p1 (by have hl := lamp_at r ((lamp_rng r).mp p0); rw [(hkind _ hl.1).2.2.1]; exact z.2))) (by decide +kernel) (by decide) rfl ⟨n, h, q, b, t, ht, RR_27 r _⟩
  have hl := lamp_at r ((lamp_rng r).mp p0)
  have h13 := (hkind _ hl.1).2.2.1
  rw [h13] at p1
  have hf100 : first ≤ 100 := by rcases hasA_c (y 5 lm.toNatClampNeg) with e | e | e <;> (rw [e] at p1; exact Int32.le_trans p1.2 (by decide))
  have r2 : RR n h q b t (set2 x 12 (upd (x 12) lm.toNatClampNeg first)) (set2 (set2 y 27 (fun _ => T2 (inR lm 0 (y 4 0 - 1)) (inR lm 0 (y 4 0 - 1) ∧ inR first (-1) (100 - hasA (y 5 lm.toNatClampNeg))))) 9 (upd (y 9) lm.toNatClampNeg first)) := by
    refine ⟨hn10, hlt, hq8, hbq, hn, hnM, hh, hhM, hq, hqM, hb, hbM, hti, hTM, e1, e2, e3, e5, e6, e7, e11, e17, e18, e19, e20, hbars, hlen, hkind, ?_, ?_, ?_, hplc, hnam, hcur, hrul, hbeg⟩
    · intro k hk; exact ⟨(hlow k hk).1, upd2 (hlow k hk).2.1 rfl, (hlow k hk).2.2⟩
    · intro k h1 h2; refine ⟨(hhigh k h1 h2).1, ?_, (hhigh k h1 h2).2.2⟩; show upd _ _ _ k = -1; rw [upd_n (by have := hl.1; omega)]; exact (hhigh k h1 h2).2.1
    · exact upd_all (p := fun _ v => inR v (-1) 100) hfst ⟨p1.1, hf100⟩
  rw [← h13] at p1
  refine Or.inl ⟨(by rw [if_pos p0, if_pos p1]), T2_0 ((lamp_rng r).mp p0) ⟨(lamp_rng r).mp p0, by rw [← h13]; exact p1⟩, ?_, rfl, ⟨n, h, q, b, t, ht, r2⟩⟩
  exact dbl_congr (fun k hk => at_eq r2 hk)

set_option maxHeartbeats 1000000 in
theorem st_gap (hN : N + 50 < 2 ^ 29) (r : RR n h q b t x y) (ht : t ≤ N) (many : Int32) : StOk [eA] N (if (1 ≤ many ∧ many ≤ 100) then none else some eA) (gapf (fun k => cntH x (nI k)) many) x (x) (T1 (inR many 1 100)) (gapf (fun k => atM (set2 y 27 (fun _ => T1 (inR many 1 100))) n (nI k)) many) (set2 y 27 (fun _ => T1 (inR many 1 100))) (set2 y 27 (fun _ => T1 (inR many 1 100))) := by
  obtain ⟨hn10, hlt, hq8, hbq, hn, hnM, hh, hhM, hq, hqM, hb, hbM, hti, hTM, e1, e2, e3, e5, e6, e7, e11, e17, e18, e19, e20, hbars, hlen, hkind, hlow, hhigh, hfst, hplc, hnam, hcur, hrul, hbeg⟩ := id r
  by_cases p0 : 1 ≤ many ∧ many ≤ 100
  case neg =>
    exact StOk.no eA (List.mem_cons_self) (by rw [if_neg p0]) (c := 1) (T1_1 (fun z => p0 z)) (by decide +kernel) (by decide) rfl ⟨n, h, q, b, t, ht, RR_27 r _⟩
  refine Or.inl ⟨(by rw [if_pos p0]), T1_0 p0, ?_, rfl, ⟨n, h, q, b, t, ht, ⟨hn10, hlt, hq8, hbq, hn, hnM, hh, hhM, hq, hqM, hb, hbM, hti, hTM, e1, e2, e3, e5, e6, e7, e11, e17, e18, e19, e20, hbars, hlen, hkind, hlow, hhigh, hfst, hplc, hnam, hcur, hrul, hbeg⟩⟩⟩
  · exact gapf_congr many (fun k hk => at_eq r hk)

set_option maxHeartbeats 1000000 in
theorem st_plug (hN : N + 50 < 2 ^ 29) (r : RR n h q b t x y) (ht : t ≤ N) (lm circ : Int32) : StOk [eI] N (if (0 ≤ lm ∧ lm < x 0 0) then (if (circ = -1 ∨ (0 ≤ circ ∧ circ < 4)) then none else some eI) else some eI) (x 14 lm.toNatClampNeg) x (set2 x 14 (upd (x 14) lm.toNatClampNeg circ)) (T1 (inR lm 0 (y 4 0 - 1) ∧ inR circ (-1) 3)) (y 10 lm.toNatClampNeg) (set2 (set2 y 27 (fun _ => T1 (inR lm 0 (y 4 0 - 1) ∧ inR circ (-1) 3))) 10 (upd (y 10) lm.toNatClampNeg circ)) (set2 y 27 (fun _ => T1 (inR lm 0 (y 4 0 - 1) ∧ inR circ (-1) 3))) := by
  obtain ⟨hn10, hlt, hq8, hbq, hn, hnM, hh, hhM, hq, hqM, hb, hbM, hti, hTM, e1, e2, e3, e5, e6, e7, e11, e17, e18, e19, e20, hbars, hlen, hkind, hlow, hhigh, hfst, hplc, hnam, hcur, hrul, hbeg⟩ := id r
  by_cases p0 : 0 ≤ lm ∧ lm < x 0 0
  case neg =>
    exact StOk.no eI (List.mem_cons_self) (by rw [if_neg p0]) (c := 1) (T1_1 (fun z => p0 ((lamp_rng r).mpr z.1))) (by decide +kernel) (by decide) rfl ⟨n, h, q, b, t, ht, RR_27 r _⟩
  by_cases p1 : circ = -1 ∨ (0 ≤ circ ∧ circ < 4)
  case neg =>
    exact StOk.no eI (List.mem_cons_self) (by rw [if_pos p0, if_neg p1]) (c := 1) (T1_1 (fun z => p1 (circ_eq.mpr z.2))) (by decide +kernel) (by decide) rfl ⟨n, h, q, b, t, ht, RR_27 r _⟩
  have hl := lamp_at r ((lamp_rng r).mp p0)
  refine Or.inl ⟨(by rw [if_pos p0, if_pos p1]), T1_0 ⟨(lamp_rng r).mp p0, circ_eq.mp p1⟩, ?_, rfl, ⟨n, h, q, b, t, ht, ⟨hn10, hlt, hq8, hbq, hn, hnM, hh, hhM, hq, hqM, hb, hbM, hti, hTM, e1, e2, e3, e5, e6, e7, e11, e17, e18, e19, e20, hbars, hlen, hkind, ?_, ?_, hfst, hplc, hnam, hcur, hrul, hbeg⟩⟩⟩
  · rw [(hlow _ hl.1).2.2]
  · intro k hk; exact ⟨(hlow k hk).1, (hlow k hk).2.1, upd2 (hlow k hk).2.2 rfl⟩
  · intro k h1 h2; refine ⟨(hhigh k h1 h2).1, (hhigh k h1 h2).2.1, ?_, (hhigh k h1 h2).2.2.2⟩; show upd _ _ _ k = -1; rw [upd_n (by have := hl.1; omega)]; exact (hhigh k h1 h2).2.2.1

set_option maxHeartbeats 1000000 in
theorem st_load (hN : N + 50 < 2 ^ 29) (r : RR n h q b t x y) (ht : t ≤ N) (circ : Int32) : StOk [eI] N (if (0 ≤ circ ∧ circ < 4) then none else some eI) (sumf (fun k => if x 14 k = circ then x 15 k * shX x k / 100 else 0) n) x (x) (T1 (inR circ 0 3)) (sumf (fun k => if y 10 k = circ then drw (y 5 k) * lvM y k / 100 else 0) n) (set2 y 27 (fun _ => T1 (inR circ 0 3))) (set2 y 27 (fun _ => T1 (inR circ 0 3))) := by
  obtain ⟨hn10, hlt, hq8, hbq, hn, hnM, hh, hhM, hq, hqM, hb, hbM, hti, hTM, e1, e2, e3, e5, e6, e7, e11, e17, e18, e19, e20, hbars, hlen, hkind, hlow, hhigh, hfst, hplc, hnam, hcur, hrul, hbeg⟩ := id r
  by_cases p0 : 0 ≤ circ ∧ circ < 4
  case neg =>
    exact StOk.no eI (List.mem_cons_self) (by rw [if_neg p0]) (c := 1) (T1_1 (fun z => p0 (circ4.mpr z))) (by decide +kernel) (by decide) rfl ⟨n, h, q, b, t, ht, RR_27 r _⟩
  refine Or.inl ⟨(by rw [if_pos p0]), T1_0 (circ4.mp p0), ?_, rfl, ⟨n, h, q, b, t, ht, ⟨hn10, hlt, hq8, hbq, hn, hnM, hh, hhM, hq, hqM, hb, hbM, hti, hTM, e1, e2, e3, e5, e6, e7, e11, e17, e18, e19, e20, hbars, hlen, hkind, hlow, hhigh, hfst, hplc, hnam, hcur, hrul, hbeg⟩⟩⟩
  · exact sumf_congr (fun k hk => by rw [(hlow k hk).2.2, (hkind k hk).2.2.2, sh_eq (by omega) r hk])

set_option maxHeartbeats 1000000 in
theorem st_cue (hN : N + 50 < 2 ^ 29) (r : RR n h q b t x y) (ht : t ≤ N) (fade curve follow : Int32) : StOk [eA, eS] N (if (0 ≤ fade ∧ fade ≤ 50) then (if (0 ≤ curve ∧ curve ≤ 2) then (if (-1 ≤ follow ∧ follow ≤ 50) then (if (x 16 0 < 8) then none else some eS) else some eA) else some eA) else some eA) (x 16 0) x (set2 (set2 (set2 (set2 x 16 (fun _ => x 16 0 + 1)) 17 (upd (x 17) q fade)) 18 (upd (x 18) q curve)) 19 (upd (x 19) q follow)) (T2 (inR fade 0 50 ∧ inR curve 0 2 ∧ inR follow (-1) 50) (y 18 0 < 8)) (y 18 0 + 1 - 1) (set2 (set2 (set2 (set2 (set2 y 27 (fun _ => T2 (inR fade 0 50 ∧ inR curve 0 2 ∧ inR follow (-1) 50) (y 18 0 < 8))) 19 (upd (y 19) q fade)) 20 (upd (y 20) q curve)) 21 (upd (y 21) q follow)) 18 (fun _ => y 18 0 + 1)) (set2 y 27 (fun _ => T2 (inR fade 0 50 ∧ inR curve 0 2 ∧ inR follow (-1) 50) (y 18 0 < 8))) := by
  obtain ⟨hn10, hlt, hq8, hbq, hn, hnM, hh, hhM, hq, hqM, hb, hbM, hti, hTM, e1, e2, e3, e5, e6, e7, e11, e17, e18, e19, e20, hbars, hlen, hkind, hlow, hhigh, hfst, hplc, hnam, hcur, hrul, hbeg⟩ := id r
  by_cases p0 : 0 ≤ fade ∧ fade ≤ 50
  case neg =>
    exact StOk.no eA (List.mem_cons_self) (by rw [if_neg p0]) (c := 1) (T2_1 (fun z => p0 z.1)) (by decide +kernel) (by decide) rfl ⟨n, h, q, b, t, ht, RR_27 r _⟩
  by_cases p1 : 0 ≤ curve ∧ curve ≤ 2
  case neg =>
    exact StOk.no eA (List.mem_cons_self) (by rw [if_pos p0, if_neg p1]) (c := 1) (T2_1 (fun z => p1 z.2.1)) (by decide +kernel) (by decide) rfl ⟨n, h, q, b, t, ht, RR_27 r _⟩
  by_cases p2 : -1 ≤ follow ∧ follow ≤ 50
  case neg =>
    exact StOk.no eA (List.mem_cons_self) (by rw [if_pos p0, if_pos p1, if_neg p2]) (c := 1) (T2_1 (fun z => p2 z.2.2)) (by decide +kernel) (by decide) rfl ⟨n, h, q, b, t, ht, RR_27 r _⟩
  by_cases p3 : x 16 0 < 8
  case neg =>
    exact StOk.no eS (List.mem_cons_of_mem _ (List.mem_cons_self)) (by rw [if_pos p0, if_pos p1, if_pos p2, if_neg p3]) (c := 2) (T2_2 ⟨p0, p1, p2⟩ (fun z => p3 (by rw [hq, ← hqM]; exact z))) (by decide +kernel) (by decide) rfl ⟨n, h, q, b, t, ht, RR_27 r _⟩
  have hq9 : q < 8 := (nI_ltI (by omega) (by decide)).mp (show nI q < nI 8 by rw [← hq]; exact p3)
  refine Or.inl ⟨(by rw [if_pos p0, if_pos p1, if_pos p2, if_pos p3]), T2_0 ⟨p0, p1, p2⟩ (by rw [hqM, ← hq]; exact p3), ?_, rfl, ⟨n, h, q + 1, b, t, ht, ⟨hn10, hlt, hq9, (by omega), hn, hnM, hh, hhM, ?_, ?_, hb, hbM, hti, ?_, e1, e2, e3, e5, e6, e7, e11, ?_, ?_, ?_, e20, hbars, hlen, hkind, hlow, hhigh, hfst, hplc, hnam, ?_, ?_, hbeg⟩⟩⟩
  · rw [hq, hqM, Int32.add_sub_cancel]
  · show x 16 0 + 1 = nI (q + 1); rw [hq, nI_1]
  · show y 18 0 + 1 = nI (q + 1); rw [hqM, nI_1]
  · exact ⟨hTM.1, hTM.2.1, hTM.2.2.1, upd_all (p := fun _ v => ∃ f, f ≤ 50 ∧ v = nI f) hTM.2.2.2 (nI_of2 (M := 50) (n := 50) (by decide) (Int32.not_lt.mpr p0.1) p0.2)⟩
  · show upd (x 17) q fade = upd (y 19) q fade; rw [e17]
  · show upd (x 18) q curve = upd (y 20) q curve; rw [e18]
  · show upd (x 19) q follow = upd (y 21) q follow; rw [e19]
  · exact upd_all (p := fun _ v => inR v 0 2) hcur ⟨p1.1, p1.2⟩
  · intro k hk
    rcases hrul k hk with hl | ⟨c, hc, r1, r2, r3, r4, r5, r6⟩
    · exact Or.inl hl
    · exact Or.inr ⟨c, hc, r1, r2, (by show y 16 k = upd (x 17) q fade c; rw [upd_n (by omega)]; exact r3), (by show y 17 k = upd (x 18) q curve c; rw [upd_n (by omega)]; exact r4), r5, r6⟩

set_option maxHeartbeats 1000000 in
theorem st_name (hN : N + 50 < 2 ^ 29) (r : RR n h q b t x y) (ht : t ≤ N) (cu lm lev : Int32) : StOk [eI, eA] N (if (0 ≤ cu ∧ cu < x 16 0) then (if (0 ≤ lm ∧ lm < x 0 0) then (if (-1 ≤ lev ∧ lev ≤ 100) then none else some eA) else some eI) else some eI) (x 20 (10 * cu.toNatClampNeg + lm.toNatClampNeg)) x (set2 x 20 (upd (x 20) (10 * cu.toNatClampNeg + lm.toNatClampNeg) lev)) (T2 (inR cu 0 (y 18 0 - 1) ∧ inR lm 0 (y 4 0 - 1)) (inR lev (-1) 100)) (y 22 (10 * cu.toNatClampNeg + lm.toNatClampNeg)) (set2 (set2 y 27 (fun _ => T2 (inR cu 0 (y 18 0 - 1) ∧ inR lm 0 (y 4 0 - 1)) (inR lev (-1) 100))) 22 (upd (y 22) (10 * cu.toNatClampNeg + lm.toNatClampNeg) lev)) (set2 y 27 (fun _ => T2 (inR cu 0 (y 18 0 - 1) ∧ inR lm 0 (y 4 0 - 1)) (inR lev (-1) 100))) := by
  obtain ⟨hn10, hlt, hq8, hbq, hn, hnM, hh, hhM, hq, hqM, hb, hbM, hti, hTM, e1, e2, e3, e5, e6, e7, e11, e17, e18, e19, e20, hbars, hlen, hkind, hlow, hhigh, hfst, hplc, hnam, hcur, hrul, hbeg⟩ := id r
  by_cases p0 : 0 ≤ cu ∧ cu < x 16 0
  case neg =>
    exact StOk.no eI (List.mem_cons_self) (by rw [if_neg p0]) (c := 1) (T2_1 (fun z => p0 ((cue_rng r).mpr z.1))) (by decide +kernel) (by decide) rfl ⟨n, h, q, b, t, ht, RR_27 r _⟩
  by_cases p1 : 0 ≤ lm ∧ lm < x 0 0
  case neg =>
    exact StOk.no eI (List.mem_cons_self) (by rw [if_pos p0, if_neg p1]) (c := 1) (T2_1 (fun z => p1 ((lamp_rng r).mpr z.2))) (by decide +kernel) (by decide) rfl ⟨n, h, q, b, t, ht, RR_27 r _⟩
  by_cases p2 : -1 ≤ lev ∧ lev ≤ 100
  case neg =>
    exact StOk.no eA (List.mem_cons_of_mem _ (List.mem_cons_self)) (by rw [if_pos p0, if_pos p1, if_neg p2]) (c := 2) (T2_2 ⟨(cue_rng r).mp p0, (lamp_rng r).mp p1⟩ (fun z => p2 z)) (by decide +kernel) (by decide) rfl ⟨n, h, q, b, t, ht, RR_27 r _⟩
  have hl := lamp_at r ((lamp_rng r).mp p1)
  refine Or.inl ⟨(by rw [if_pos p0, if_pos p1, if_pos p2]), T2_0 ⟨(cue_rng r).mp p0, (lamp_rng r).mp p1⟩ p2, ?_, rfl, ⟨n, h, q, b, t, ht, ⟨hn10, hlt, hq8, hbq, hn, hnM, hh, hhM, hq, hqM, hb, hbM, hti, hTM, e1, e2, e3, e5, e6, e7, e11, e17, e18, e19, ?_, hbars, hlen, hkind, hlow, hhigh, hfst, hplc, ?_, hcur, hrul, hbeg⟩⟩⟩
  · rw [e20]
  · show upd (x 20) (10 * cu.toNatClampNeg + lm.toNatClampNeg) lev = upd (y 22) (10 * cu.toNatClampNeg + lm.toNatClampNeg) lev; rw [e20]
  · intro c hc k h1 h2; show upd (y 22) (10 * cu.toNatClampNeg + lm.toNatClampNeg) lev (10 * c + k) = -1; rw [upd_n (by have := hl.1; omega)]; exact hnam c hc k h1 h2

set_option maxHeartbeats 1000000 in
theorem st_go (hN : N + 50 < 2 ^ 29) (r : RR n h q b t x y) (ht : t ≤ N) : StOk [eS] N (if (b < q) then none else some eS) ((bnS (q - b) b x) 22 0) x (fixS x (bnS (q - b) b x)) (T1 (y 23 0 < y 18 0)) (bnM n (q - b) b (set2 y 27 (fun _ => T1 (y 23 0 < y 18 0))) 23 0 - 1) (bnM n (q - b) b (set2 y 27 (fun _ => T1 (y 23 0 < y 18 0)))) (set2 y 27 (fun _ => T1 (y 23 0 < y 18 0))) := by
  obtain ⟨hn10, hlt, hq8, hbq, hn, hnM, hh, hhM, hq, hqM, hb, hbM, hti, hTM, e1, e2, e3, e5, e6, e7, e11, e17, e18, e19, e20, hbars, hlen, hkind, hlow, hhigh, hfst, hplc, hnam, hcur, hrul, hbeg⟩ := id r
  by_cases p0 : b < q
  case neg =>
    exact StOk.no eS (List.mem_cons_self) (by rw [if_neg p0]) (c := 1) (T1_1 (fun z => p0 ((nI_ltI (by omega) (by omega)).mp (by rw [← hbM, ← hqM]; exact z)))) (by decide +kernel) (by decide) rfl ⟨n, h, q, b, t, ht, RR_27 r _⟩
  obtain ⟨b', h1, h2, r2⟩ := RR_bn (by omega) (q - b) b x (set2 y 27 (fun _ => T1 (y 23 0 < y 18 0))) (by omega) (RR_27 r _)
  refine Or.inl ⟨(by rw [if_pos p0]), T1_0 (by rw [hbM, hqM]; exact nI_lt p0 (by omega)), ?_, by rw [bnM_27]; rfl, ⟨n, h, q, b', t, ht, by rw [fixS_eq]; exact r2⟩⟩
  obtain ⟨-, -, -, -, -, -, -, -, -, -, hb2, hbM2, -⟩ := r2
  rw [hbM2, ← hb2, Int32.add_sub_cancel]

set_option maxHeartbeats 1000000 in
theorem st_level (hN : N + 50 < 2 ^ 29) (r : RR n h q b t x y) (ht : t ≤ N) (lm : Int32) : StOk [eI] N (if (0 ≤ lm ∧ lm < x 0 0) then none else some eI) (shX x lm.toNatClampNeg) x (x) (T1 (inR lm 0 (y 4 0 - 1))) (lvM y lm.toNatClampNeg) (set2 y 27 (fun _ => T1 (inR lm 0 (y 4 0 - 1)))) (set2 y 27 (fun _ => T1 (inR lm 0 (y 4 0 - 1)))) := by
  obtain ⟨hn10, hlt, hq8, hbq, hn, hnM, hh, hhM, hq, hqM, hb, hbM, hti, hTM, e1, e2, e3, e5, e6, e7, e11, e17, e18, e19, e20, hbars, hlen, hkind, hlow, hhigh, hfst, hplc, hnam, hcur, hrul, hbeg⟩ := id r
  by_cases p0 : 0 ≤ lm ∧ lm < x 0 0
  case neg =>
    exact StOk.no eI (List.mem_cons_self) (by rw [if_neg p0]) (c := 1) (T1_1 (fun z => p0 ((lamp_rng r).mpr z))) (by decide +kernel) (by decide) rfl ⟨n, h, q, b, t, ht, RR_27 r _⟩
  have hl := lamp_at r ((lamp_rng r).mp p0)
  refine Or.inl ⟨(by rw [if_pos p0]), T1_0 ((lamp_rng r).mp p0), ?_, rfl, ⟨n, h, q, b, t, ht, ⟨hn10, hlt, hq8, hbq, hn, hnM, hh, hhM, hq, hqM, hb, hbM, hti, hTM, e1, e2, e3, e5, e6, e7, e11, e17, e18, e19, e20, hbars, hlen, hkind, hlow, hhigh, hfst, hplc, hnam, hcur, hrul, hbeg⟩⟩⟩
  · exact sh_eq (by omega) r hl.1

set_option maxHeartbeats 1000000 in
theorem st_wanted (hN : N + 50 < 2 ^ 29) (r : RR n h q b t x y) (ht : t ≤ N) (lm : Int32) : StOk [eI] N (if (0 ≤ lm ∧ lm < x 0 0) then none else some eI) (wlX x lm.toNatClampNeg) x (x) (T1 (inR lm 0 (y 4 0 - 1))) (wlM y lm.toNatClampNeg) (set2 y 27 (fun _ => T1 (inR lm 0 (y 4 0 - 1)))) (set2 y 27 (fun _ => T1 (inR lm 0 (y 4 0 - 1)))) := by
  obtain ⟨hn10, hlt, hq8, hbq, hn, hnM, hh, hhM, hq, hqM, hb, hbM, hti, hTM, e1, e2, e3, e5, e6, e7, e11, e17, e18, e19, e20, hbars, hlen, hkind, hlow, hhigh, hfst, hplc, hnam, hcur, hrul, hbeg⟩ := id r
  by_cases p0 : 0 ≤ lm ∧ lm < x 0 0
  case neg =>
    exact StOk.no eI (List.mem_cons_self) (by rw [if_neg p0]) (c := 1) (T1_1 (fun z => p0 ((lamp_rng r).mpr z))) (by decide +kernel) (by decide) rfl ⟨n, h, q, b, t, ht, RR_27 r _⟩
  have hl := lamp_at r ((lamp_rng r).mp p0)
  refine Or.inl ⟨(by rw [if_pos p0]), T1_0 ((lamp_rng r).mp p0), ?_, rfl, ⟨n, h, q, b, t, ht, ⟨hn10, hlt, hq8, hbq, hn, hnM, hh, hhM, hq, hqM, hb, hbM, hti, hTM, e1, e2, e3, e5, e6, e7, e11, e17, e18, e19, e20, hbars, hlen, hkind, hlow, hhigh, hfst, hplc, hnam, hcur, hrul, hbeg⟩⟩⟩
  · exact wl_eq (by omega) r (by have := hl.1; omega)

set_option maxHeartbeats 1000000 in
theorem st_wantedByCues (hN : N + 50 < 2 ^ 29) (r : RR n h q b t x y) (ht : t ≤ N) (lm : Int32) : StOk [eI] N (if (0 ≤ lm ∧ lm < x 0 0) then none else some eI) (wlX x lm.toNatClampNeg) x (x) (T1 (inR lm 0 (y 4 0 - 1))) (wlM y lm.toNatClampNeg) (set2 y 27 (fun _ => T1 (inR lm 0 (y 4 0 - 1)))) (set2 y 27 (fun _ => T1 (inR lm 0 (y 4 0 - 1)))) := by
  obtain ⟨hn10, hlt, hq8, hbq, hn, hnM, hh, hhM, hq, hqM, hb, hbM, hti, hTM, e1, e2, e3, e5, e6, e7, e11, e17, e18, e19, e20, hbars, hlen, hkind, hlow, hhigh, hfst, hplc, hnam, hcur, hrul, hbeg⟩ := id r
  by_cases p0 : 0 ≤ lm ∧ lm < x 0 0
  case neg =>
    exact StOk.no eI (List.mem_cons_self) (by rw [if_neg p0]) (c := 1) (T1_1 (fun z => p0 ((lamp_rng r).mpr z))) (by decide +kernel) (by decide) rfl ⟨n, h, q, b, t, ht, RR_27 r _⟩
  have hl := lamp_at r ((lamp_rng r).mp p0)
  refine Or.inl ⟨(by rw [if_pos p0]), T1_0 ((lamp_rng r).mp p0), ?_, rfl, ⟨n, h, q, b, t, ht, ⟨hn10, hlt, hq8, hbq, hn, hnM, hh, hhM, hq, hqM, hb, hbM, hti, hTM, e1, e2, e3, e5, e6, e7, e11, e17, e18, e19, e20, hbars, hlen, hkind, hlow, hhigh, hfst, hplc, hnam, hcur, hrul, hbeg⟩⟩⟩
  · exact wl_eq (by omega) r (by have := hl.1; omega)

set_option maxHeartbeats 1000000 in
theorem st_bulb (hN : N + 50 < 2 ^ 29) (r : RR n h q b t x y) (ht : t ≤ N) (lm : Int32) : StOk [eI] N (if (0 ≤ lm ∧ lm < x 0 0) then none else some eI) (b2 ((b2 (x 3 lm.toNatClampNeg = 0)) = 0)) x (set2 x 3 (upd (x 3) lm.toNatClampNeg (b2 (x 3 lm.toNatClampNeg = 0)))) (T1 (inR lm 0 (y 4 0 - 1))) (b2 ((b2 (y 11 lm.toNatClampNeg = 0)) = 0)) (set2 (set2 y 27 (fun _ => T1 (inR lm 0 (y 4 0 - 1)))) 11 (upd (y 11) lm.toNatClampNeg (b2 (y 11 lm.toNatClampNeg = 0)))) (set2 y 27 (fun _ => T1 (inR lm 0 (y 4 0 - 1)))) := by
  obtain ⟨hn10, hlt, hq8, hbq, hn, hnM, hh, hhM, hq, hqM, hb, hbM, hti, hTM, e1, e2, e3, e5, e6, e7, e11, e17, e18, e19, e20, hbars, hlen, hkind, hlow, hhigh, hfst, hplc, hnam, hcur, hrul, hbeg⟩ := id r
  by_cases p0 : 0 ≤ lm ∧ lm < x 0 0
  case neg =>
    exact StOk.no eI (List.mem_cons_self) (by rw [if_neg p0]) (c := 1) (T1_1 (fun z => p0 ((lamp_rng r).mpr z))) (by decide +kernel) (by decide) rfl ⟨n, h, q, b, t, ht, RR_27 r _⟩
  have hl := lamp_at r ((lamp_rng r).mp p0)
  refine Or.inl ⟨(by rw [if_pos p0]), T1_0 ((lamp_rng r).mp p0), ?_, rfl, ⟨n, h, q, b, t, ht, ⟨hn10, hlt, hq8, hbq, hn, hnM, hh, hhM, hq, hqM, hb, hbM, hti, hTM, e1, e2, ?_, e5, e6, e7, e11, e17, e18, e19, e20, hbars, hlen, hkind, hlow, hhigh, hfst, hplc, hnam, hcur, hrul, hbeg⟩⟩⟩
  · rw [e3]
  · show upd (x 3) _ (b2 (x 3 _ = 0)) = upd (y 11) _ (b2 (y 11 _ = 0)); rw [e3]

set_option maxHeartbeats 1000000 in
theorem st_standIn (hN : N + 50 < 2 ^ 29) (r : RR n h q b t x y) (ht : t ≤ N) (dead other : Int32) : StOk [eI, eA, eS] N (if (0 ≤ dead ∧ dead < x 0 0) then (if (0 ≤ other ∧ other < x 0 0) then (if (dead ≠ other) then (if (x 3 dead.toNatClampNeg ≠ 0 ∧ x 3 other.toNatClampNeg = 0) then none else some eS) else some eA) else some eI) else some eI) ((hov (x 20) dead.toNatClampNeg other.toNatClampNeg q).2) x (set2 x 20 (hov (x 20) dead.toNatClampNeg other.toNatClampNeg q).1) (T3 (inR dead 0 (y 4 0 - 1) ∧ inR other 0 (y 4 0 - 1)) (dead ≠ other) ((inR dead 0 (y 4 0 - 1) ∧ inR other 0 (y 4 0 - 1)) ∧ y 11 dead.toNatClampNeg ≠ 0 ∧ y 11 other.toNatClampNeg = 0)) ((hov (y 22) dead.toNatClampNeg other.toNatClampNeg q).2) (set2 (set2 y 27 (fun _ => T3 (inR dead 0 (y 4 0 - 1) ∧ inR other 0 (y 4 0 - 1)) (dead ≠ other) ((inR dead 0 (y 4 0 - 1) ∧ inR other 0 (y 4 0 - 1)) ∧ y 11 dead.toNatClampNeg ≠ 0 ∧ y 11 other.toNatClampNeg = 0))) 22 (hov (y 22) dead.toNatClampNeg other.toNatClampNeg q).1) (set2 y 27 (fun _ => T3 (inR dead 0 (y 4 0 - 1) ∧ inR other 0 (y 4 0 - 1)) (dead ≠ other) ((inR dead 0 (y 4 0 - 1) ∧ inR other 0 (y 4 0 - 1)) ∧ y 11 dead.toNatClampNeg ≠ 0 ∧ y 11 other.toNatClampNeg = 0))) := by
  obtain ⟨hn10, hlt, hq8, hbq, hn, hnM, hh, hhM, hq, hqM, hb, hbM, hti, hTM, e1, e2, e3, e5, e6, e7, e11, e17, e18, e19, e20, hbars, hlen, hkind, hlow, hhigh, hfst, hplc, hnam, hcur, hrul, hbeg⟩ := id r
  by_cases p0 : 0 ≤ dead ∧ dead < x 0 0
  case neg =>
    exact StOk.no eI (List.mem_cons_self) (by rw [if_neg p0]) (c := 1) (T3_1 (fun z => p0 ((lamp_rng r).mpr z.1))) (by decide +kernel) (by decide) rfl ⟨n, h, q, b, t, ht, RR_27 r _⟩
  by_cases p1 : 0 ≤ other ∧ other < x 0 0
  case neg =>
    exact StOk.no eI (List.mem_cons_self) (by rw [if_pos p0, if_neg p1]) (c := 1) (T3_1 (fun z => p1 ((lamp_rng r).mpr z.2))) (by decide +kernel) (by decide) rfl ⟨n, h, q, b, t, ht, RR_27 r _⟩
  by_cases p2 : dead ≠ other
  case neg =>
    exact StOk.no eA (List.mem_cons_of_mem _ (List.mem_cons_self)) (by rw [if_pos p0, if_pos p1, if_neg p2]) (c := 2) (T3_2 ⟨(lamp_rng r).mp p0, (lamp_rng r).mp p1⟩ (fun z => p2 z)) (by decide +kernel) (by decide) rfl ⟨n, h, q, b, t, ht, RR_27 r _⟩
  by_cases p3 : x 3 dead.toNatClampNeg ≠ 0 ∧ x 3 other.toNatClampNeg = 0
  case neg =>
    exact StOk.no eS (List.mem_cons_of_mem _ (List.mem_cons_of_mem _ (List.mem_cons_self))) (by rw [if_pos p0, if_pos p1, if_pos p2, if_neg p3]) (c := 3) (T3_3 ⟨(lamp_rng r).mp p0, (lamp_rng r).mp p1⟩ p2 (fun z => p3 (by rw [e3]; exact z.2))) (by decide +kernel) (by decide) rfl ⟨n, h, q, b, t, ht, RR_27 r _⟩
  have hd := lamp_at r ((lamp_rng r).mp p0)
  have ho := lamp_at r ((lamp_rng r).mp p1)
  refine Or.inl ⟨(by rw [if_pos p0, if_pos p1, if_pos p2, if_pos p3]), T3_0 ⟨(lamp_rng r).mp p0, (lamp_rng r).mp p1⟩ p2 ⟨⟨(lamp_rng r).mp p0, (lamp_rng r).mp p1⟩, by rw [← e3]; exact p3⟩, ?_, rfl, ⟨n, h, q, b, t, ht, ⟨hn10, hlt, hq8, hbq, hn, hnM, hh, hhM, hq, hqM, hb, hbM, hti, hTM, e1, e2, e3, e5, e6, e7, e11, e17, e18, e19, ?_, hbars, hlen, hkind, hlow, hhigh, hfst, hplc, ?_, hcur, hrul, hbeg⟩⟩⟩
  · rw [e20]
  · show (hov (x 20) _ _ q).1 = (hov (y 22) _ _ q).1; rw [e20]
  · intro c hc k h1 h2; show (hov (y 22) dead.toNatClampNeg other.toNatClampNeg q).1 (10 * c + k) = -1; rw [hov_o _ (by have := hd.1; omega) (by have := ho.1; omega) h2 (by have := hd.1; omega) (by have := ho.1; omega)]; exact hnam c hc k h1 h2

set_option maxHeartbeats 1000000 in
theorem st_colour (hN : N + 50 < 2 ^ 29) (r : RR n h q b t x y) (ht : t ≤ N) (lm col : Int32) : StOk [eI, eA] N (if (0 ≤ lm ∧ lm < x 0 0) then (if (0 ≤ col ∧ col ≤ 20) then none else some eA) else some eI) (x 1 lm.toNatClampNeg) x (set2 (set2 x 1 (upd (x 1) lm.toNatClampNeg col)) 2 (upd (x 2) lm.toNatClampNeg 0)) (T2 (inR lm 0 (y 4 0 - 1)) (inR col 0 20)) (y 6 lm.toNatClampNeg) (set2 (set2 (set2 y 27 (fun _ => T2 (inR lm 0 (y 4 0 - 1)) (inR col 0 20))) 6 (upd (y 6) lm.toNatClampNeg col)) 12 (upd (y 12) lm.toNatClampNeg 0)) (set2 y 27 (fun _ => T2 (inR lm 0 (y 4 0 - 1)) (inR col 0 20))) := by
  obtain ⟨hn10, hlt, hq8, hbq, hn, hnM, hh, hhM, hq, hqM, hb, hbM, hti, hTM, e1, e2, e3, e5, e6, e7, e11, e17, e18, e19, e20, hbars, hlen, hkind, hlow, hhigh, hfst, hplc, hnam, hcur, hrul, hbeg⟩ := id r
  by_cases p0 : 0 ≤ lm ∧ lm < x 0 0
  case neg =>
    exact StOk.no eI (List.mem_cons_self) (by rw [if_neg p0]) (c := 1) (T2_1 (fun z => p0 ((lamp_rng r).mpr z))) (by decide +kernel) (by decide) rfl ⟨n, h, q, b, t, ht, RR_27 r _⟩
  by_cases p1 : 0 ≤ col ∧ col ≤ 20
  case neg =>
    exact StOk.no eA (List.mem_cons_of_mem _ (List.mem_cons_self)) (by rw [if_pos p0, if_neg p1]) (c := 2) (T2_2 ((lamp_rng r).mp p0) (fun z => p1 z)) (by decide +kernel) (by decide) rfl ⟨n, h, q, b, t, ht, RR_27 r _⟩
  refine Or.inl ⟨(by rw [if_pos p0, if_pos p1]), T2_0 ((lamp_rng r).mp p0) p1, ?_, rfl, ⟨n, h, q, b, t, ht, ⟨hn10, hlt, hq8, hbq, hn, hnM, hh, hhM, hq, hqM, hb, hbM, hti, hTM, ?_, ?_, e3, e5, e6, e7, e11, e17, e18, e19, e20, hbars, hlen, hkind, hlow, hhigh, hfst, hplc, hnam, hcur, hrul, hbeg⟩⟩⟩
  · rw [e1]
  · show upd (x 1) _ col = upd (y 6) _ col; rw [e1]
  · show upd (x 2) _ 0 = upd (y 12) _ 0; rw [e2]

set_option maxHeartbeats 1000000 in
theorem st_tick (hN : N + 50 < 2 ^ 29) (r : RR n h q b t x y) (ht : t ≤ N) (ticks : Int32) : StOk [eA] (N + 50) (if (1 ≤ ticks ∧ ticks ≤ 50) then none else some eA) ((tkXS x n q ticks.toNatClampNeg).2) x ((tkXS x n q ticks.toNatClampNeg).1) (T1 (inR ticks 1 50)) ((tkS (set2 y 27 (fun _ => T1 (inR ticks 1 50))) n q ticks.toNatClampNeg).2) ((tkS (set2 y 27 (fun _ => T1 (inR ticks 1 50))) n q ticks.toNatClampNeg).1) (set2 y 27 (fun _ => T1 (inR ticks 1 50))) := by
  obtain ⟨hn10, hlt, hq8, hbq, hn, hnM, hh, hhM, hq, hqM, hb, hbM, hti, hTM, e1, e2, e3, e5, e6, e7, e11, e17, e18, e19, e20, hbars, hlen, hkind, hlow, hhigh, hfst, hplc, hnam, hcur, hrul, hbeg⟩ := id r
  by_cases p0 : 1 ≤ ticks ∧ ticks ≤ 50
  case neg =>
    exact StOk.no eA (List.mem_cons_self) (by rw [if_neg p0]) (c := 1) (T1_1 (fun z => p0 z)) (by decide +kernel) (by decide) rfl ⟨n, h, q, b, t, (by omega), RR_27 r _⟩
  obtain ⟨k, hk, ek⟩ := nI_of2 (x := ticks) (M := 50) (n := 50) (by decide) (Int32.not_lt.mpr (Int32.le_trans (by decide) p0.1)) p0.2
  have hc : ticks.toNatClampNeg = k := by rw [ek]; exact nI_clamp (by omega)
  obtain ⟨b', r2, e9⟩ := RR_tkS N (by omega) ht (RR_27 r (fun _ => T1 (inR ticks 1 50))) ticks.toNatClampNeg (by omega)
  exact Or.inl ⟨(by rw [if_pos p0]), T1_0 p0, e9, by rw [tkS_27]; rfl, ⟨n, h, q, b', t + ticks.toNatClampNeg, by omega, r2⟩⟩
end STEPS
