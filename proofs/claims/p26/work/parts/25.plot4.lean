/-! PlotPatch's ticks -/
def bOf (x : Nat → Nat → Int32) : Nat := (x 22 0 + 1).toNatClampNeg
def advX (x : Nat → Nat → Int32) (q : Nat) : Nat → Nat → Int32 := fixA x (advS x q (bOf x))
def tkX1 (x : Nat → Nat → Int32) (n q : Nat) : Nat → Nat → Int32 := set2 (advX x q) 2 (brnX (advX x q) n)
def tkXS (x : Nat → Nat → Int32) (n q : Nat) : Nat → (Nat → Nat → Int32) × Int32
  | 0 => (x, 0)
  | i + 1 => (tkX1 (tkXS x n q i).1 n q, (tkXS x n q i).2 + advR (tkXS x n q i).1 q (bOf (tkXS x n q i).1))
/-- what holds of PlotPatch's cues -/
def IX (x : Nat → Nat → Int32) (n q : Nat) : Prop := x 0 0 = nI n ∧ x 16 0 = nI q ∧ (∃ b, b ≤ q ∧ x 22 0 + 1 = nI b) ∧ ∀ c, c < 8 → fadeOk (x 17 c)
theorem bOf_eq {x : Nat → Nat → Int32} {b : Nat} (h : x 22 0 + 1 = nI b) (hb : b ≤ 8) : bOf x = b := by unfold bOf; rw [h]; exact nI_clamp (by omega)
theorem bnS_I {q b : Nat} (hbq : b ≤ q) (x : Nat → Nat → Int32) (hb : x 22 0 + 1 = nI b) : ∃ b', b ≤ b' ∧ b' ≤ q ∧ bnS (q - b) b x 22 0 + 1 = nI b' := by
  by_cases e : b = q
  · subst e; rw [Nat.sub_self]; exact ⟨b, Nat.le_refl b, Nat.le_refl b, hb⟩
  · obtain ⟨j, hj, e2⟩ := bnS_22 (q - b - 1) b x
    rw [show q - b - 1 + 1 = q - b by omega] at e2
    exact ⟨b + j + 1, by omega, by omega, by rw [e2]; exact nI_1 (b + j)⟩
theorem IX_adv {x : Nat → Nat → Int32} {n q : Nat} (hq8 : q ≤ 8) (h : IX x n q) : IX (advX x q) n q := by
  obtain ⟨h0, h16, ⟨b, hbq, hb⟩, hf⟩ := h
  refine ⟨h0, h16, ?_, hf⟩
  show ∃ b', b' ≤ q ∧ advS x q (bOf x) 22 0 + 1 = nI b'
  rw [bOf_eq hb (by omega)]
  unfold advS
  split
  · obtain ⟨b', h1, h2, h3⟩ := bnS_I hbq (set2 x 21 (fun _ => x 21 0 + 1)) hb
    exact ⟨b', h2, h3⟩
  · exact ⟨b, hbq, hb⟩
theorem IX_tkX1 {x : Nat → Nat → Int32} {n q : Nat} (hq8 : q ≤ 8) (h : IX x n q) : IX (tkX1 x n q) n q := IX_adv hq8 h
theorem IX_tkXS {x : Nat → Nat → Int32} {n q : Nat} (hq8 : q ≤ 8) (h : IX x n q) : ∀ i, IX (tkXS x n q i).1 n q
  | 0 => h
  | i + 1 => IX_tkX1 hq8 (IX_tkXS hq8 h i)

set_option maxHeartbeats 4000000 in
set_option maxRecDepth 100000 in
theorem c_X3_tick (l : Launch) (hl : l.stackTraces = false) (D : va_G) (ct : Nat → ClassId) (a : Nat → Nat) (x : Nat → Nat → Int32) (n : Nat) (hn : x 0 0 = nI n) (hn10 : n ≤ 10) (q : Nat) (hq : x 16 0 = nI q) (hq8 : q ≤ 8) (hfd : ∀ c, c < 8 → fadeOk (x 17 c)) (b : Nat) (hb : x 22 0 + 1 = nI b) (hbq : b ≤ q) (ticks : Int32) : qMX l yX3_tick wsX3_tick ({ frames := 7, cells := (ocC (if (1 ≤ ticks ∧ ticks ≤ 50) then none else some eA)), slots := (ocS (if (1 ≤ ticks ∧ ticks ≤ 50) then none else some eA)), locals := 134 }) D ct [.ref (a 30), .int ticks] (wX ct a x) (qDo (if (1 ≤ ticks ∧ ticks ≤ 50) then none else some eA) (some (.int (tkXS x n q ticks.toNatClampNeg).2)) (wX ct a (tkXS x n q ticks.toNatClampNeg).1)) (qDx (if (1 ≤ ticks ∧ ticks ≤ 50) then none else some eA) (wX ct a x)) (ocC (if (1 ≤ ticks ∧ ticks ≤ 50) then none else some eA)) (ocS (if (1 ≤ ticks ∧ ticks ≤ 50) then none else some eA)) := by
  refine q_startX (ret := some .int) (lv := [(0, .ref (a 30)), (1, .int ticks)]) (by decide +kernel) rfl (Nat.le_of_ble_eq_true rfl) rfl ?_
  intro p e s m args below meth c A Q C hQ htab
  have hT3 : ∀ w ∈ u_ws RX3 TX3 7, w ∈ wsX3_tick := by decide +kernel
  have f41 : (Cond.fieldLink RX3 41 "PlotPatch" "show" "LPlotPatch$Show;").before args s = true := C.w _ (by decide +kernel)
  refine q_iload_n (pc2 := 1) C 1 dX3_tick_0 rfl rfl rfl ?_
  refine q_iconst (v := 1) (pc2 := 2) C dX3_tick_1 (by decide) rfl ?_
  refine q_bipush (v := 50) (pc2 := 4) C dX3_tick_2 (by decide) rfl ?_
  have hx0 : ∀ E : String, (if (1 ≤ ticks ∧ ticks ≤ 50) then none else some eA) = some E → (if (1 ≤ ticks ∧ ticks ≤ 50) then none else some eA) = some E := fun E hE => by obtain ⟨hc, rfl⟩ := oc_some hE; exact (by rw [if_neg hc])
  refine q_tS (pc2 := 7) (As := [.int ticks, .int 1, .int 50]) (st := []) (st2 := []) (w2 := (wX ct a x)) C (c_X3_checkRange l hl D ct ticks 1 50) (va_cwS 3 C.w gX3_tick_X3_checkRange rfl rfl rfl (by decide +kernel) ⟨Nat.le_of_ble_eq_true rfl, Nat.le_of_ble_eq_true rfl⟩) [] [0, 1, 2, 3, 4, 5, 6, 7, 8, 9, 10, 11, 12, 13, 14, 15, 16, 17, 18, 19, 20, 21, 22, 23, 24, 25] [0, 1, 2, 3, 4, 5, 6, 7, 8, 9, 10, 11, 12, 13, 14, 15, 16, 17, 18, 19, 20, 21, 22, 23, 24, 25] rfl rfl (by decide) (by decide) (by decide) rfl (by decide) rfl dX3_tick_4 rfl rfl (Nat.le_of_ble_eq_true rfl) ⟨ocC_le (fun E hE => ⟨_, hx0 E hE⟩), ocS_le (fun E hE => ⟨_, hx0 E hE⟩)⟩ rfl rfl (fun E hE => q_outX C hQ htab (ocC_of (hx0 E hE)) (ocS_of (hx0 E hE)) ⟨hx0 E hE, rfl⟩) (fun hk0 => ?_)
  have k0 := oc_none hk0
  refine q_iconst (v := 0) (pc2 := 8) C dX3_tick_7 (by decide) rfl ?_
  refine q_istore_n (lv' := [(2, .int 0), (0, .ref (a 30)), (1, .int ticks)]) (pc2 := 9) C dX3_tick_8 rfl (by decide) rfl rfl ?_
  refine q_iconst (v := 0) (pc2 := 10) C dX3_tick_9 (by decide) rfl ?_
  refine q_istore_n (lv' := [(3, .int 0), (2, .int 0), (0, .ref (a 30)), (1, .int ticks)]) (pc2 := 11) C dX3_tick_10 rfl (by decide) rfl rfl ?_
  have hTk : ticks.toNatClampNeg ≤ 50 ∧ ticks = nI ticks.toNatClampNeg := by have z := idxN (k := 51) (v := ticks) ⟨Int32.le_trans (by decide) k0.1, k0.2⟩ (by decide); exact ⟨by omega, z.2⟩
  have hIX : IX x n q := ⟨hn, hq, ⟨b, hbq, hb⟩, hfd⟩
  refine q_lv (lv' := [(3, .int 0), (2, .int 0), (0, .ref (a 30)), (1, .int ticks)]) [0, 1, 2, 3] rfl ?_
  refine lp_up (P := fun i => Cf p l e ({ frames := 7, cells := (ocC (if (1 ≤ ticks ∧ ticks ≤ 50) then none else some eA)), slots := (ocS (if (1 ≤ ticks ∧ ticks ≤ 50) then none else some eA)), locals := 134 }) s m args below meth c D A 4 0 0 Q 11 [(3, .int (nI i)), (2, .int (tkXS x n q i).2), (0, .ref (a 30)), (1, .int ticks)] [] (wX ct a (tkXS x n q i).1)) (ticks.toNatClampNeg) (fun i hi ihi => ?_) ?_
  · skip
    obtain ⟨h0, h16, ⟨b1, hbq1, hb1⟩, hf1⟩ := IX_tkXS hq8 hIX i
    have hbo : bOf (tkXS x n q i).1 = b1 := bOf_eq hb1 (by omega)
    refine q_iload_n (pc2 := 12) C 0 dX3_tick_11 rfl rfl rfl ?_
    refine q_iload_n (pc2 := 13) C 3 dX3_tick_12 rfl rfl rfl ?_
    refine q_icmp_ge (tgt := 36) (pc2 := 16) C dX3_tick_13 (by decide) rfl (fun c13 => (q_absurd (a := ticks.toNatClampNeg) (b := i) (show nI ticks.toNatClampNeg ≤ nI i by rw [← hTk.2]; exact c13) hi (by have := hTk.1; omega))) (fun _ => ?_)
    refine q_iload_n (pc2 := 17) C 1 dX3_tick_16 rfl rfl rfl ?_
    refine q_aload_n (pc2 := 18) C 2 dX3_tick_17 rfl rfl rfl ?_
    refine q_get (q0 := 0) (k := 6) (v := .ref (a 33)) (pc2 := 21) C hT3 f41 (wX_g0 ct a (tkXS x n q i).1) rfl (by decide) rfl rfl dX3_tick_18 rfl ?_
    refine q_cVN (pc2 := 24) (As := []) (st := [.int (tkXS x n q i).2]) (st2 := [.int (advR (tkXS x n q i).1 q b1), .int (tkXS x n q i).2]) (q0 := 0) (w2 := (wX ct a (set2 (set2 (set2 (set2 (set2 (set2 (tkXS x n q i).1 21 (fun _ => (tkXS x n q i).1 21 0 + 1)) 22 (advS (tkXS x n q i).1 q b1 22)) 23 (advS (tkXS x n q i).1 q b1 23)) 24 (advS (tkXS x n q i).1 q b1 24)) 25 (advS (tkXS x n q i).1 q b1 25)) 26 (advS (tkXS x n q i).1 q b1 26)))) (c2 := 0) (s2 := 0) C (c_X2_advance l D ct a (tkXS x n q i).1 q h16 hq8 hf1 b1 hb1 hbq1) (⟨va_cnB 0 C.w gX3_tick_X2_advance_n179 rfl rfl rfl (C.2.1.nm 20 rfl) (C.w (.initialized RX2) (by decide +kernel)) (by decide +kernel) ⟨Nat.le_of_ble_eq_true rfl, Nat.le_of_ble_eq_true rfl⟩, C.w (.instanceMethod yX2_advance) (by decide +kernel), C.w (.selects RX2 yX2_advance yX2_advance) (by decide +kernel)⟩) rfl rfl [17, 18, 19, 20, 21, 22, 23, 24, 25] [0, 1, 2, 3, 4, 5, 6, 7, 8, 9, 10, 11, 12, 13, 14, 15, 16] [0, 1, 2, 3, 4, 5, 6, 7, 8, 9, 10, 11, 12, 13, 14, 15, 16, 17, 18, 19, 20, 21, 22, 23, 24, 25] rfl rfl (by decide) (by decide) (by decide) rfl (by decide) dX3_tick_21 rfl rfl (Nat.le_of_ble_eq_true rfl) ⟨Nat.zero_le _, Nat.zero_le _⟩ rfl rfl rfl rfl ?_
    refine q_eqw (ws' := (wX ct a (advX (tkXS x n q i).1 q))) (by unfold advX; rw [hbo]; rfl) ?_
    refine q_eqi (y := advR (tkXS x n q i).1 q (bOf (tkXS x n q i).1)) (by rw [hbo]) ?_
    refine q_iadd (pc2 := 25) C dX3_tick_24 rfl rfl ?_
    refine q_istore_n (lv' := [(2, .int ((tkXS x n q i).2 + (advR (tkXS x n q i).1 q (bOf (tkXS x n q i).1)))), (3, .int (nI i)), (0, .ref (a 30)), (1, .int ticks)]) (pc2 := 26) C dX3_tick_25 rfl (by decide) rfl rfl ?_
    refine q_aload_n (pc2 := 27) C 2 dX3_tick_26 rfl rfl rfl ?_
    refine q_cV (pc2 := 30) (As := []) (st := []) (st2 := []) (q0 := 0) (w2 := (wX ct a (set2 (advX (tkXS x n q i).1 q) 2 (brnX (advX (tkXS x n q i).1 q) n)))) (c2 := 0) (s2 := 0) C (c_X3_burnColours l D ct a (advX (tkXS x n q i).1 q) n h0 hn10 q h16 hq8 hf1) (cwV 0 C.w gX3_tick_X3_burnColours rfl rfl rfl (by decide +kernel) ⟨Nat.le_of_ble_eq_true rfl, Nat.le_of_ble_eq_true rfl⟩) rfl rfl [0, 1, 2, 3, 4, 5, 6, 7, 8, 9, 10, 11, 12, 13, 14, 15, 16, 17, 18, 19, 20, 21, 22, 23, 24, 25] [] [0, 1, 2, 3, 4, 5, 6, 7, 8, 9, 10, 11, 12, 13, 14, 15, 16, 17, 18, 19, 20, 21, 22, 23, 24, 25] rfl rfl (by decide) (by decide) (by decide) rfl (by decide) dX3_tick_27 rfl rfl (Nat.le_of_ble_eq_true rfl) ⟨Nat.zero_le _, Nat.zero_le _⟩ rfl rfl rfl rfl ?_
    refine q_iinc (v := nI (i + 1)) (lv' := [(3, .int (nI (i + 1))), (2, .int ((tkXS x n q i).2 + (advR (tkXS x n q i).1 q (bOf (tkXS x n q i).1)))), (0, .ref (a 30)), (1, .int ticks)]) (pc2 := 33) C 1 dX3_tick_30 rfl (nI_1 i) (by decide) rfl rfl ?_
    refine q_goto (pc2 := 11) C dX3_tick_33 (by decide) ?_
    refine q_lv (lv' := [(3, .int (nI (i + 1))), (2, .int ((tkXS x n q i).2 + (advR (tkXS x n q i).1 q (bOf (tkXS x n q i).1)))), (0, .ref (a 30)), (1, .int ticks)]) [0, 1, 2, 3] rfl ?_
    refine q_eqw (ws' := (wX ct a (tkXS x n q (i + 1)).1)) rfl ?_
    exact ihi
  · skip
    refine q_iload_n (pc2 := 12) C 0 dX3_tick_11 rfl rfl rfl ?_
    refine q_iload_n (pc2 := 13) C 3 dX3_tick_12 rfl rfl rfl ?_
    refine q_icmp_ge (tgt := 36) (pc2 := 16) C dX3_tick_13 (by decide) rfl (fun _ => ?_) (fun c13 => (absurd (show ticks ≤ nI ticks.toNatClampNeg by rw [← hTk.2]; exact Int32.le_refl _) c13))
    refine q_iload_n (pc2 := 37) C 1 dX3_tick_36 rfl rfl rfl ?_
    exact q_zretX C hQ rfl (rfl) (Nat.zero_le _) (Nat.zero_le _) dX3_tick_37 ⟨(by rw [if_pos k0]), rfl, rfl⟩
