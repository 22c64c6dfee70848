/-! PlotPatch's public methods, second half -/

set_option maxHeartbeats 4000000 in
set_option maxRecDepth 100000 in
theorem c_X3_shownLevel (l : Launch) (D : va_G) (ct : Nat → ClassId) (a : Nat → Nat) (x : Nat → Nat → Int32) (q : Nat) (hq : x 16 0 = nI q) (hq8 : q ≤ 8) (hfd : ∀ c, c < 8 → fadeOk (x 17 c)) (v : Int32) (i : Nat) (hv : v = nI i) (hi : i < 10) : qM l yX3_shownLevel wsX3_shownLevel ({ frames := 3, cells := 0, slots := 0, locals := 69 }) D ct [.ref (a 30), .int v] (wX ct a x) (qD (some (.int (shX x i))) (wX ct a x)) 0 0 := by
  refine q_start (ret := some .int) (lv := [(0, .ref (a 30)), (1, .int v)]) (by decide +kernel) rfl (Nat.le_of_ble_eq_true rfl) rfl ?_
  intro p e s m args below meth c A Q C hQ hnm
  have hT3 : ∀ w ∈ u_ws RX3 TX3 7, w ∈ wsX3_shownLevel := by decide +kernel
  have f27 : (Cond.fieldLink RX3 27 "PlotPatch" "rig" "LPlotPatch$Rig;").before args s = true := C.w _ (by decide +kernel)
  have f20 : (Cond.fieldLink RX3 20 "PlotPatch" "deaths" "[Z").before args s = true := C.w _ (by decide +kernel)
  have f41 : (Cond.fieldLink RX3 41 "PlotPatch" "show" "LPlotPatch$Show;").before args s = true := C.w _ (by decide +kernel)
  refine q_aload_n (pc2 := 1) C 0 dX3_shownLevel_0 rfl rfl rfl ?_
  refine q_get (q0 := 0) (k := 4) (v := .ref (a 31)) (pc2 := 4) C hT3 f27 (wX_g0 ct a x) rfl (by decide) rfl rfl dX3_shownLevel_1 rfl ?_
  refine q_iload_n (pc2 := 5) C 1 dX3_shownLevel_4 rfl rfl rfl ?_
  refine q_cVN (pc2 := 8) (As := [.int v]) (st := []) (st2 := [.int (b2 (x 9 i ≠ -1))]) (q0 := 0) (w2 := (wX ct a x)) (c2 := 0) (s2 := 0) C ((q_as (by rw [← hv]) (c_X1_hangs l D ct a x i hi))) (⟨va_cnB 1 C.w gX3_shownLevel_X1_hangs_n117 rfl rfl rfl (C.2.1.nm 3 rfl) (C.w (.initialized RX1) (by decide +kernel)) (by decide +kernel) ⟨Nat.le_of_ble_eq_true rfl, Nat.le_of_ble_eq_true rfl⟩, C.w (.instanceMethod yX1_hangs) (by decide +kernel), C.w (.selects RX1 yX1_hangs yX1_hangs) (by decide +kernel)⟩) rfl rfl [4, 5, 6, 7, 8, 9, 10, 11] [0, 1, 2, 3, 12, 13, 14, 15, 16, 17, 18, 19, 20, 21, 22, 23, 24, 25] [0, 1, 2, 3, 18, 19, 20, 21, 22, 23, 24, 25, 4, 5, 6, 7, 8, 9, 10, 11, 12, 13, 14, 15, 16, 17] rfl rfl (by decide) (by decide) (by decide) rfl (by decide) dX3_shownLevel_5 rfl rfl (Nat.le_of_ble_eq_true rfl) ⟨Nat.zero_le _, Nat.zero_le _⟩ rfl rfl rfl rfl ?_
  refine q_if_eq (tgt := 31) (pc2 := 11) C dX3_shownLevel_8 (by decide) rfl (fun c8 => ?_) (fun c8 => ?_)
  · skip
    refine q_iconst (v := 0) (pc2 := 32) C dX3_shownLevel_31 (by decide) rfl ?_
    exact q_zret C hQ rfl (rfl) (Nat.zero_le _) (Nat.zero_le _) dX3_shownLevel_32 ⟨by unfold shX; rw [if_neg (b2_eq.mp c8)], rfl⟩
  · skip
    refine q_aload_n (pc2 := 12) C 0 dX3_shownLevel_11 rfl rfl rfl ?_
    refine q_get (q0 := 0) (k := 3) (v := .ref (a 3)) (pc2 := 15) C hT3 f20 (wX_g0 ct a x) rfl (by decide) rfl rfl dX3_shownLevel_12 rfl ?_
    refine q_iload_n (pc2 := 16) C 1 dX3_shownLevel_15 rfl rfl rfl ?_
    refine q_zald (q0 := 3) (f := (x 3)) (pc2 := 17) C i (wX_g3 ct a x) rfl (hv) (hi) (by decide) dX3_shownLevel_16 rfl ?_
    refine q_if_ne (tgt := 31) (pc2 := 20) C dX3_shownLevel_17 (by decide) rfl (fun c17 => ?_) (fun c17 => ?_)
    · skip
      refine q_iconst (v := 0) (pc2 := 32) C dX3_shownLevel_31 (by decide) rfl ?_
      exact q_zret C hQ rfl (rfl) (Nat.zero_le _) (Nat.zero_le _) dX3_shownLevel_32 ⟨by unfold shX; rw [if_pos (b2_ne.mp c8), if_neg c17], rfl⟩
    · skip
      refine q_aload_n (pc2 := 21) C 0 dX3_shownLevel_20 rfl rfl rfl ?_
      refine q_get (q0 := 0) (k := 6) (v := .ref (a 33)) (pc2 := 24) C hT3 f41 (wX_g0 ct a x) rfl (by decide) rfl rfl dX3_shownLevel_21 rfl ?_
      refine q_iload_n (pc2 := 25) C 1 dX3_shownLevel_24 rfl rfl rfl ?_
      refine q_cVN (pc2 := 28) (As := [.int v]) (st := []) (st2 := [.int (wlX x i)]) (q0 := 0) (w2 := (wX ct a x)) (c2 := 0) (s2 := 0) C ((q_as (by rw [← hv]) (c_X2_wantedLevel l D ct a x i hi q hq hq8 hfd))) (⟨va_cnB 1 C.w gX3_shownLevel_X2_wantedLevel_n188 rfl rfl rfl (C.2.1.nm 18 rfl) (C.w (.initialized RX2) (by decide +kernel)) (by decide +kernel) ⟨Nat.le_of_ble_eq_true rfl, Nat.le_of_ble_eq_true rfl⟩, C.w (.instanceMethod yX2_wantedLevel) (by decide +kernel), C.w (.selects RX2 yX2_wantedLevel yX2_wantedLevel) (by decide +kernel)⟩) rfl rfl [17, 18, 19, 20, 21, 22, 23, 24, 25] [0, 1, 2, 3, 4, 5, 6, 7, 8, 9, 10, 11, 12, 13, 14, 15, 16] [0, 1, 2, 3, 4, 5, 6, 7, 8, 9, 10, 11, 12, 13, 14, 15, 16, 17, 18, 19, 20, 21, 22, 23, 24, 25] rfl rfl (by decide) (by decide) (by decide) rfl (by decide) dX3_shownLevel_25 rfl rfl (Nat.le_of_ble_eq_true rfl) ⟨Nat.zero_le _, Nat.zero_le _⟩ rfl rfl rfl rfl ?_
      refine q_goto (pc2 := 32) C dX3_shownLevel_28 (by decide) ?_
      exact q_zret C hQ rfl (rfl) (Nat.zero_le _) (Nat.zero_le _) dX3_shownLevel_32 ⟨by unfold shX; rw [if_pos (b2_ne.mp c8), if_pos c17], rfl⟩

theorem shX_2 (x : Nat → Nat → Int32) (g : Nat → Int32) (i : Nat) : shX (set2 x 2 g) i = shX x i := rfl
def brnX (x : Nat → Nat → Int32) (k : Nat) : Nat → Int32 := fun j => if j < k then x 2 j + (if 80 < shX x j then 1 else 0) else x 2 j
theorem brnX_0 (x : Nat → Nat → Int32) : brnX x 0 = x 2 := by funext j; unfold brnX; rw [if_neg (Nat.not_lt_zero j)]
theorem brnX_y (x : Nat → Nat → Int32) (k : Nat) (h : 80 < shX x k) : upd (brnX x k) k (x 2 k + 1) = brnX x (k + 1) := by
  have e9 := fill_lt (fun j => x 2 j + (if 80 < shX x j then 1 else 0)) (x 2) k
  rw [if_pos h] at e9
  exact e9
theorem brnX_n (x : Nat → Nat → Int32) (k : Nat) (h : ¬ 80 < shX x k) : brnX x k = brnX x (k + 1) := by
  have e9 := fill_lt (fun j => x 2 j + (if 80 < shX x j then 1 else 0)) (x 2) k
  rw [if_neg h, Int32.add_zero] at e9
  refine Eq.trans ?_ e9
  funext j
  by_cases hj : j = k
  · subst hj; rw [upd_s]; unfold brnX; rw [if_neg (Nat.lt_irrefl j)]
  · rw [upd_n hj]; rfl
theorem brnX_k (x : Nat → Nat → Int32) (k : Nat) : brnX x k k = x 2 k := by unfold brnX; rw [if_neg (Nat.lt_irrefl k)]

set_option maxHeartbeats 4000000 in
set_option maxRecDepth 100000 in
theorem c_X3_burnColours (l : Launch) (D : va_G) (ct : Nat → ClassId) (a : Nat → Nat) (x : Nat → Nat → Int32) (n : Nat) (hn : x 0 0 = nI n) (hn10 : n ≤ 10) (q : Nat) (hq : x 16 0 = nI q) (hq8 : q ≤ 8) (hfd : ∀ c, c < 8 → fadeOk (x 17 c)) : qM l yX3_burnColours wsX3_burnColours ({ frames := 4, cells := 0, slots := 0, locals := 90 }) D ct [.ref (a 30)] (wX ct a x) (qD none (wX ct a (set2 x 2 (brnX x n)))) 0 0 := by
  refine q_start (ret := none) (lv := [(0, .ref (a 30))]) (by decide +kernel) rfl (Nat.le_of_ble_eq_true rfl) rfl ?_
  intro p e s m args below meth c A Q C hQ hnm
  have hT3 : ∀ w ∈ u_ws RX3 TX3 7, w ∈ wsX3_burnColours := by decide +kernel
  have f7 : (Cond.fieldLink RX3 7 "PlotPatch" "lampCount" "I").before args s = true := C.w _ (by decide +kernel)
  have f17 : (Cond.fieldLink RX3 17 "PlotPatch" "burns" "[I").before args s = true := C.w _ (by decide +kernel)
  refine q_iconst (v := 0) (pc2 := 1) C dX3_burnColours_0 (by decide) rfl ?_
  refine q_istore_n (lv' := [(1, .int 0), (0, .ref (a 30))]) (pc2 := 2) C dX3_burnColours_1 rfl (by decide) rfl rfl ?_
  refine q_lv (lv' := [(1, .int 0), (0, .ref (a 30))]) [0, 1] rfl ?_
  refine q_eqw (ws' := (wX ct a (set2 x 2 (brnX x 0)))) (by rw [brnX_0]; rfl) ?_
  refine lp_up (P := fun i => Cf p l e ({ frames := 4, cells := 0, slots := 0, locals := 90 }) s m args below meth c D A 2 0 0 Q 2 [(1, .int (nI i)), (0, .ref (a 30))] [] (wX ct a (set2 x 2 (brnX x i)))) (n) (fun i hi ihi => ?_) ?_
  · skip
    refine q_iload_n (pc2 := 3) C 0 dX3_burnColours_2 rfl rfl rfl ?_
    refine q_aload_n (pc2 := 4) C 1 dX3_burnColours_3 rfl rfl rfl ?_
    refine q_get (q0 := 0) (k := 0) (v := .int (x 0 0)) (pc2 := 7) C hT3 f7 (wX_g0 ct a (set2 x 2 (brnX x i))) rfl (by decide) rfl rfl dX3_burnColours_4 rfl ?_
    refine q_icmp_ge (tgt := 36) (pc2 := 10) C dX3_burnColours_7 (by decide) rfl (fun c7 => (q_absurd (a := n) (b := i) (show nI n ≤ nI i by rw [← hn]; exact c7) hi (by omega))) (fun _ => ?_)
    refine q_aload_n (pc2 := 11) C 1 dX3_burnColours_10 rfl rfl rfl ?_
    refine q_iload_n (pc2 := 12) C 0 dX3_burnColours_11 rfl rfl rfl ?_
    refine q_cV (pc2 := 15) (As := [.int (nI i)]) (st := []) (st2 := [.int (shX (set2 x 2 (brnX x i)) i)]) (q0 := 0) (w2 := (wX ct a (set2 x 2 (brnX x i)))) (c2 := 0) (s2 := 0) C (c_X3_shownLevel l D ct a (set2 x 2 (brnX x i)) q hq hq8 hfd (nI i) i (rfl) (by omega)) (cwV 1 C.w gX3_burnColours_X3_shownLevel rfl rfl rfl (by decide +kernel) ⟨Nat.le_of_ble_eq_true rfl, Nat.le_of_ble_eq_true rfl⟩) rfl rfl [0, 1, 2, 3, 4, 5, 6, 7, 8, 9, 10, 11, 12, 13, 14, 15, 16, 17, 18, 19, 20, 21, 22, 23, 24, 25] [] [0, 1, 2, 3, 4, 5, 6, 7, 8, 9, 10, 11, 12, 13, 14, 15, 16, 17, 18, 19, 20, 21, 22, 23, 24, 25] rfl rfl (by decide) (by decide) (by decide) rfl (by decide) dX3_burnColours_12 rfl rfl (Nat.le_of_ble_eq_true rfl) ⟨Nat.zero_le _, Nat.zero_le _⟩ rfl rfl rfl rfl ?_
    refine q_bipush (v := 80) (pc2 := 17) C dX3_burnColours_15 (by decide) rfl ?_
    refine q_icmp_le (tgt := 30) (pc2 := 20) C dX3_burnColours_17 (by decide) rfl (fun c17 => ?_) (fun c17 => ?_)
    · skip
      refine q_iinc (v := nI (i + 1)) (lv' := [(1, .int (nI (i + 1))), (0, .ref (a 30))]) (pc2 := 33) C 0 dX3_burnColours_30 rfl (nI_1 i) (by decide) rfl rfl ?_
      refine q_goto (pc2 := 2) C dX3_burnColours_33 (by decide) ?_
      refine q_lv (lv' := [(1, .int (nI (i + 1))), (0, .ref (a 30))]) [0, 1] rfl ?_
      refine q_eqw (ws' := (wX ct a (set2 x 2 (brnX x (i + 1))))) (by rw [← brnX_n x i (Int32.not_lt.mpr c17)]) ?_
      exact ihi
    · skip
      refine q_aload_n (pc2 := 21) C 1 dX3_burnColours_20 rfl rfl rfl ?_
      refine q_get (q0 := 0) (k := 2) (v := .ref (a 2)) (pc2 := 24) C hT3 f17 (wX_g0 ct a (set2 x 2 (brnX x i))) rfl (by decide) rfl rfl dX3_burnColours_21 rfl ?_
      refine q_iload_n (pc2 := 25) C 0 dX3_burnColours_24 rfl rfl rfl ?_
      refine q_dup2 (pc2 := 26) C dX3_burnColours_25 rfl rfl rfl ?_
      refine q_iald (q0 := 2) (f := (brnX x i)) (pc2 := 27) C i (wX_g2 ct a (set2 x 2 (brnX x i))) rfl (rfl) (by omega) (by decide) dX3_burnColours_26 rfl ?_
      refine q_eqi (y := (x 2 i)) (brnX_k x i) ?_
      refine q_iconst (v := 1) (pc2 := 28) C dX3_burnColours_27 (by decide) rfl ?_
      refine q_iadd (pc2 := 29) C dX3_burnColours_28 rfl rfl ?_
      refine q_iast (q0 := 2) (f := (brnX x i)) (ws' := (wX ct a (set2 x 2 (upd (brnX x i) i ((x 2 i) + 1))))) (pc2 := 30) C i (wX_g2 ct a (set2 x 2 (brnX x i))) rfl (rfl) (by omega) (by decide) (wX_a2 ct a (set2 x 2 (brnX x i)) (upd (brnX x i) i ((x 2 i) + 1))) dX3_burnColours_29 rfl ?_
      refine q_iinc (v := nI (i + 1)) (lv' := [(1, .int (nI (i + 1))), (0, .ref (a 30))]) (pc2 := 33) C 0 dX3_burnColours_30 rfl (nI_1 i) (by decide) rfl rfl ?_
      refine q_goto (pc2 := 2) C dX3_burnColours_33 (by decide) ?_
      refine q_lv (lv' := [(1, .int (nI (i + 1))), (0, .ref (a 30))]) [0, 1] rfl ?_
      refine q_eqw (ws' := (wX ct a (set2 x 2 (brnX x (i + 1))))) (by rw [brnX_y x i (Int32.not_le.mp c17)]) ?_
      exact ihi
  · skip
    refine q_iload_n (pc2 := 3) C 0 dX3_burnColours_2 rfl rfl rfl ?_
    refine q_aload_n (pc2 := 4) C 1 dX3_burnColours_3 rfl rfl rfl ?_
    refine q_get (q0 := 0) (k := 0) (v := .int (x 0 0)) (pc2 := 7) C hT3 f7 (wX_g0 ct a (set2 x 2 (brnX x n))) rfl (by decide) rfl rfl dX3_burnColours_4 rfl ?_
    refine q_icmp_ge (tgt := 36) (pc2 := 10) C dX3_burnColours_7 (by decide) rfl (fun _ => ?_) (fun c7 => (absurd (show (x 0 0) ≤ nI n by rw [hn]; exact nI_le (Nat.le_refl n) (by omega)) c7))
    exact q_vret C hQ rfl (Nat.zero_le _) (Nat.zero_le _) dX3_burnColours_36 ⟨rfl, rfl⟩

set_option maxHeartbeats 4000000 in
set_option maxRecDepth 100000 in
theorem c_X3_load (l : Launch) (hl : l.stackTraces = false) (D : va_G) (ct : Nat → ClassId) (a : Nat → Nat) (x : Nat → Nat → Int32) (n : Nat) (hn : x 0 0 = nI n) (hn10 : n ≤ 10) (q : Nat) (hq : x 16 0 = nI q) (hq8 : q ≤ 8) (hfd : ∀ c, c < 8 → fadeOk (x 17 c)) (circ : Int32) : qMX l yX3_load wsX3_load ({ frames := 7, cells := (ocC (if (0 ≤ circ ∧ circ < 4) then none else some eI)), slots := (ocS (if (0 ≤ circ ∧ circ < 4) then none else some eI)), locals := 110 }) D ct [.ref (a 30), .int circ] (wX ct a x) (qDo (if (0 ≤ circ ∧ circ < 4) then none else some eI) (some (.int (sumf (fun k => if x 14 k = circ then x 15 k * shX x k / 100 else 0) n))) (wX ct a x)) (qDx (if (0 ≤ circ ∧ circ < 4) then none else some eI) (wX ct a x)) (ocC (if (0 ≤ circ ∧ circ < 4) then none else some eI)) (ocS (if (0 ≤ circ ∧ circ < 4) then none else some eI)) := by
  refine q_startX (ret := some .int) (lv := [(0, .ref (a 30)), (1, .int circ)]) (by decide +kernel) rfl (Nat.le_of_ble_eq_true rfl) rfl ?_
  intro p e s m args below meth c A Q C hQ htab
  have hT3 : ∀ w ∈ u_ws RX3 TX3 7, w ∈ wsX3_load := by decide +kernel
  have hT0 : ∀ w ∈ u_ws RX0 TX0 4, w ∈ wsX3_load := by decide +kernel
  have f7 : (Cond.fieldLink RX3 7 "PlotPatch" "lampCount" "I").before args s = true := C.w _ (by decide +kernel)
  have f34 : (Cond.fieldLink RX3 34 "PlotPatch" "board" "LPlotPatch$Board;").before args s = true := C.w _ (by decide +kernel)
  refine q_iload_n (pc2 := 1) C 1 dX3_load_0 rfl rfl rfl ?_
  have hx0 : ∀ E : String, (if (0 ≤ circ ∧ circ < 4) then none else some eI) = some E → (if (0 ≤ circ ∧ circ < 4) then none else some eI) = some E := fun E hE => by obtain ⟨hc, rfl⟩ := oc_some hE; exact (by rw [if_neg hc])
  refine q_tS (pc2 := 4) (As := [.int circ]) (st := []) (st2 := []) (w2 := (wX ct a x)) C (c_X3_checkCircuit l hl D ct circ) (va_cwS 1 C.w gX3_load_X3_checkCircuit rfl rfl rfl (by decide +kernel) ⟨Nat.le_of_ble_eq_true rfl, Nat.le_of_ble_eq_true rfl⟩) [] [0, 1, 2, 3, 4, 5, 6, 7, 8, 9, 10, 11, 12, 13, 14, 15, 16, 17, 18, 19, 20, 21, 22, 23, 24, 25] [0, 1, 2, 3, 4, 5, 6, 7, 8, 9, 10, 11, 12, 13, 14, 15, 16, 17, 18, 19, 20, 21, 22, 23, 24, 25] rfl rfl (by decide) (by decide) (by decide) rfl (by decide) rfl dX3_load_1 rfl rfl (Nat.le_of_ble_eq_true rfl) ⟨ocC_le (fun E hE => ⟨_, hx0 E hE⟩), ocS_le (fun E hE => ⟨_, hx0 E hE⟩)⟩ rfl rfl (fun E hE => q_outX C hQ htab (ocC_of (hx0 E hE)) (ocS_of (hx0 E hE)) ⟨hx0 E hE, rfl⟩) (fun hk0 => ?_)
  have k0 := oc_none hk0
  refine q_iconst (v := 0) (pc2 := 5) C dX3_load_4 (by decide) rfl ?_
  refine q_istore_n (lv' := [(2, .int 0), (0, .ref (a 30)), (1, .int circ)]) (pc2 := 6) C dX3_load_5 rfl (by decide) rfl rfl ?_
  refine q_iconst (v := 0) (pc2 := 7) C dX3_load_6 (by decide) rfl ?_
  refine q_istore_n (lv' := [(3, .int 0), (2, .int 0), (0, .ref (a 30)), (1, .int circ)]) (pc2 := 8) C dX3_load_7 rfl (by decide) rfl rfl ?_
  refine q_lv (lv' := [(3, .int 0), (2, .int 0), (0, .ref (a 30)), (1, .int circ)]) [0, 1, 2, 3] rfl ?_
  refine lp_up (P := fun i => Cf p l e ({ frames := 7, cells := (ocC (if (0 ≤ circ ∧ circ < 4) then none else some eI)), slots := (ocS (if (0 ≤ circ ∧ circ < 4) then none else some eI)), locals := 110 }) s m args below meth c D A 4 0 0 Q 8 [(3, .int (nI i)), (2, .int (sumf (fun k => if x 14 k = circ then x 15 k * shX x k / 100 else 0) i)), (0, .ref (a 30)), (1, .int circ)] [] (wX ct a x)) (n) (fun i hi ihi => ?_) ?_
  · skip
    refine q_iload_n (pc2 := 9) C 0 dX3_load_8 rfl rfl rfl ?_
    refine q_aload_n (pc2 := 10) C 2 dX3_load_9 rfl rfl rfl ?_
    refine q_get (q0 := 0) (k := 0) (v := .int (x 0 0)) (pc2 := 13) C hT3 f7 (wX_g0 ct a x) rfl (by decide) rfl rfl dX3_load_10 rfl ?_
    refine q_icmp_ge (tgt := 56) (pc2 := 16) C dX3_load_13 (by decide) rfl (fun c13 => (q_absurd (a := n) (b := i) (show nI n ≤ nI i by rw [← hn]; exact c13) hi (by omega))) (fun _ => ?_)
    refine q_aload_n (pc2 := 17) C 2 dX3_load_16 rfl rfl rfl ?_
    refine q_get (q0 := 0) (k := 5) (v := .ref (a 32)) (pc2 := 20) C hT3 f34 (wX_g0 ct a x) rfl (by decide) rfl rfl dX3_load_17 rfl ?_
    refine q_getN (q0 := 12) (k := 2) (v := .ref (a 14)) (pc2 := 23) C hT0 (C.2.1.nf 7 rfl) (wX_g12 ct a x) rfl (by decide) rfl rfl dX3_load_20 rfl ?_
    refine q_iload_n (pc2 := 24) C 0 dX3_load_23 rfl rfl rfl ?_
    refine q_iald (q0 := 15) (f := (x 14)) (pc2 := 25) C i (wX_g15 ct a x) rfl (rfl) (by omega) (by decide) dX3_load_24 rfl ?_
    refine q_iload_n (pc2 := 26) C 3 dX3_load_25 rfl rfl rfl ?_
    refine q_icmp_ne (tgt := 50) (pc2 := 29) C dX3_load_26 (by decide) rfl (fun c26 => ?_) (fun c26 => ?_)
    · skip
      refine q_iinc (v := nI (i + 1)) (lv' := [(3, .int (nI (i + 1))), (2, .int (sumf (fun k => if x 14 k = circ then x 15 k * shX x k / 100 else 0) i)), (0, .ref (a 30)), (1, .int circ)]) (pc2 := 53) C 0 dX3_load_50 rfl (nI_1 i) (by decide) rfl rfl ?_
      refine q_goto (pc2 := 8) C dX3_load_53 (by decide) ?_
      refine q_lv (lv' := [(3, .int (nI (i + 1))), (2, .int (sumf (fun k => if x 14 k = circ then x 15 k * shX x k / 100 else 0) i)), (0, .ref (a 30)), (1, .int circ)]) [0, 1, 2, 3] rfl ?_
      refine q_eql (lv' := [(3, .int (nI (i + 1))), (2, .int (sumf (fun k => if x 14 k = circ then x 15 k * shX x k / 100 else 0) (i + 1))), (0, .ref (a 30)), (1, .int circ)]) (by simp only [sumf]; rw [if_neg c26, Int32.add_zero]) ?_
      exact ihi
    · skip
      refine q_iload_n (pc2 := 30) C 1 dX3_load_29 rfl rfl rfl ?_
      refine q_aload_n (pc2 := 31) C 2 dX3_load_30 rfl rfl rfl ?_
      refine q_get (q0 := 0) (k := 5) (v := .ref (a 32)) (pc2 := 34) C hT3 f34 (wX_g0 ct a x) rfl (by decide) rfl rfl dX3_load_31 rfl ?_
      refine q_getN (q0 := 12) (k := 3) (v := .ref (a 15)) (pc2 := 37) C hT0 (C.2.1.nf 3 rfl) (wX_g12 ct a x) rfl (by decide) rfl rfl dX3_load_34 rfl ?_
      refine q_iload_n (pc2 := 38) C 0 dX3_load_37 rfl rfl rfl ?_
      refine q_iald (q0 := 16) (f := (x 15)) (pc2 := 39) C i (wX_g16 ct a x) rfl (rfl) (by omega) (by decide) dX3_load_38 rfl ?_
      refine q_aload_n (pc2 := 40) C 2 dX3_load_39 rfl rfl rfl ?_
      refine q_iload_n (pc2 := 41) C 0 dX3_load_40 rfl rfl rfl ?_
      refine q_cV (pc2 := 44) (As := [.int (nI i)]) (st := [.int ((x 15) i), .int (sumf (fun k => if x 14 k = circ then x 15 k * shX x k / 100 else 0) i)]) (st2 := [.int (shX x i), .int ((x 15) i), .int (sumf (fun k => if x 14 k = circ then x 15 k * shX x k / 100 else 0) i)]) (q0 := 0) (w2 := (wX ct a x)) (c2 := 0) (s2 := 0) C (c_X3_shownLevel l D ct a x q hq hq8 hfd (nI i) i (rfl) (by omega)) (cwV 1 C.w gX3_load_X3_shownLevel rfl rfl rfl (by decide +kernel) ⟨Nat.le_of_ble_eq_true rfl, Nat.le_of_ble_eq_true rfl⟩) rfl rfl [0, 1, 2, 3, 4, 5, 6, 7, 8, 9, 10, 11, 12, 13, 14, 15, 16, 17, 18, 19, 20, 21, 22, 23, 24, 25] [] [0, 1, 2, 3, 4, 5, 6, 7, 8, 9, 10, 11, 12, 13, 14, 15, 16, 17, 18, 19, 20, 21, 22, 23, 24, 25] rfl rfl (by decide) (by decide) (by decide) rfl (by decide) dX3_load_41 rfl rfl (Nat.le_of_ble_eq_true rfl) ⟨Nat.zero_le _, Nat.zero_le _⟩ rfl rfl rfl rfl ?_
      refine q_imul (pc2 := 45) C dX3_load_44 rfl rfl ?_
      refine q_bipush (v := 100) (pc2 := 47) C dX3_load_45 (by decide) rfl ?_
      refine q_idiv (pc2 := 48) C dX3_load_47 (by decide) rfl rfl ?_
      refine q_iadd (pc2 := 49) C dX3_load_48 rfl rfl ?_
      refine q_istore_n (lv' := [(2, .int ((sumf (fun k => if x 14 k = circ then x 15 k * shX x k / 100 else 0) i) + ((((x 15) i) * (shX x i)) / 100))), (3, .int (nI i)), (0, .ref (a 30)), (1, .int circ)]) (pc2 := 50) C dX3_load_49 rfl (by decide) rfl rfl ?_
      refine q_iinc (v := nI (i + 1)) (lv' := [(3, .int (nI (i + 1))), (2, .int ((sumf (fun k => if x 14 k = circ then x 15 k * shX x k / 100 else 0) i) + ((((x 15) i) * (shX x i)) / 100))), (0, .ref (a 30)), (1, .int circ)]) (pc2 := 53) C 1 dX3_load_50 rfl (nI_1 i) (by decide) rfl rfl ?_
      refine q_goto (pc2 := 8) C dX3_load_53 (by decide) ?_
      refine q_lv (lv' := [(3, .int (nI (i + 1))), (2, .int ((sumf (fun k => if x 14 k = circ then x 15 k * shX x k / 100 else 0) i) + ((((x 15) i) * (shX x i)) / 100))), (0, .ref (a 30)), (1, .int circ)]) [0, 1, 2, 3] rfl ?_
      refine q_eql (lv' := [(3, .int (nI (i + 1))), (2, .int (sumf (fun k => if x 14 k = circ then x 15 k * shX x k / 100 else 0) (i + 1))), (0, .ref (a 30)), (1, .int circ)]) (by simp only [sumf]; rw [if_pos c26]) ?_
      exact ihi
  · skip
    refine q_iload_n (pc2 := 9) C 0 dX3_load_8 rfl rfl rfl ?_
    refine q_aload_n (pc2 := 10) C 2 dX3_load_9 rfl rfl rfl ?_
    refine q_get (q0 := 0) (k := 0) (v := .int (x 0 0)) (pc2 := 13) C hT3 f7 (wX_g0 ct a x) rfl (by decide) rfl rfl dX3_load_10 rfl ?_
    refine q_icmp_ge (tgt := 56) (pc2 := 16) C dX3_load_13 (by decide) rfl (fun _ => ?_) (fun c13 => (absurd (show (x 0 0) ≤ nI n by rw [hn]; exact nI_le (Nat.le_refl n) (by omega)) c13))
    refine q_iload_n (pc2 := 57) C 1 dX3_load_56 rfl rfl rfl ?_
    exact q_zretX C hQ rfl (rfl) (Nat.zero_le _) (Nat.zero_le _) dX3_load_57 ⟨(by rw [if_pos k0]), rfl, rfl⟩

set_option maxHeartbeats 4000000 in
set_option maxRecDepth 100000 in
theorem c_X3_cue (l : Launch) (hl : l.stackTraces = false) (D : va_G) (ct : Nat → ClassId) (a : Nat → Nat) (x : Nat → Nat → Int32) (q : Nat) (hq : x 16 0 = nI q) (hq8 : q ≤ 8) (fade curve follow : Int32) : qMX l yX3_cue wsX3_cue ({ frames := 7, cells := (ocC (if (0 ≤ fade ∧ fade ≤ 50) then (if (0 ≤ curve ∧ curve ≤ 2) then (if (-1 ≤ follow ∧ follow ≤ 50) then (if (x 16 0 < 8) then none else some eS) else some eA) else some eA) else some eA)), slots := (ocS (if (0 ≤ fade ∧ fade ≤ 50) then (if (0 ≤ curve ∧ curve ≤ 2) then (if (-1 ≤ follow ∧ follow ≤ 50) then (if (x 16 0 < 8) then none else some eS) else some eA) else some eA) else some eA)), locals := 112 }) D ct [.ref (a 30), .int fade, .int curve, .int follow] (wX ct a x) (qDo (if (0 ≤ fade ∧ fade ≤ 50) then (if (0 ≤ curve ∧ curve ≤ 2) then (if (-1 ≤ follow ∧ follow ≤ 50) then (if (x 16 0 < 8) then none else some eS) else some eA) else some eA) else some eA) (some (.int (x 16 0))) (wX ct a (set2 (set2 (set2 (set2 x 16 (fun _ => x 16 0 + 1)) 17 (upd (x 17) q fade)) 18 (upd (x 18) q curve)) 19 (upd (x 19) q follow)))) (qDx (if (0 ≤ fade ∧ fade ≤ 50) then (if (0 ≤ curve ∧ curve ≤ 2) then (if (-1 ≤ follow ∧ follow ≤ 50) then (if (x 16 0 < 8) then none else some eS) else some eA) else some eA) else some eA) (wX ct a x)) (ocC (if (0 ≤ fade ∧ fade ≤ 50) then (if (0 ≤ curve ∧ curve ≤ 2) then (if (-1 ≤ follow ∧ follow ≤ 50) then (if (x 16 0 < 8) then none else some eS) else some eA) else some eA) else some eA)) (ocS (if (0 ≤ fade ∧ fade ≤ 50) then (if (0 ≤ curve ∧ curve ≤ 2) then (if (-1 ≤ follow ∧ follow ≤ 50) then (if (x 16 0 < 8) then none else some eS) else some eA) else some eA) else some eA)) := by
  refine q_startX (ret := some .int) (lv := [(0, .ref (a 30)), (1, .int fade), (2, .int curve), (3, .int follow)]) (by decide +kernel) rfl (Nat.le_of_ble_eq_true rfl) rfl ?_
  intro p e s m args below meth c A Q C hQ htab
  have hT3 : ∀ w ∈ u_ws RX3 TX3 7, w ∈ wsX3_cue := by decide +kernel
  have hT2 : ∀ w ∈ u_ws RX2 TX2 11, w ∈ wsX3_cue := by decide +kernel
  have f41 : (Cond.fieldLink RX3 41 "PlotPatch" "show" "LPlotPatch$Show;").before args s = true := C.w _ (by decide +kernel)
  refine q_iload_n (pc2 := 1) C 1 dX3_cue_0 rfl rfl rfl ?_
  refine q_iconst (v := 0) (pc2 := 2) C dX3_cue_1 (by decide) rfl ?_
  refine q_bipush (v := 50) (pc2 := 4) C dX3_cue_2 (by decide) rfl ?_
  have hx0 : ∀ E : String, (if (0 ≤ fade ∧ fade ≤ 50) then none else some eA) = some E → (if (0 ≤ fade ∧ fade ≤ 50) then (if (0 ≤ curve ∧ curve ≤ 2) then (if (-1 ≤ follow ∧ follow ≤ 50) then (if (x 16 0 < 8) then none else some eS) else some eA) else some eA) else some eA) = some E := fun E hE => by obtain ⟨hc, rfl⟩ := oc_some hE; exact (by rw [if_neg hc])
  refine q_tS (pc2 := 7) (As := [.int fade, .int 0, .int 50]) (st := []) (st2 := []) (w2 := (wX ct a x)) C (c_X3_checkRange l hl D ct fade 0 50) (va_cwS 3 C.w gX3_cue_X3_checkRange rfl rfl rfl (by decide +kernel) ⟨Nat.le_of_ble_eq_true rfl, Nat.le_of_ble_eq_true rfl⟩) [] [0, 1, 2, 3, 4, 5, 6, 7, 8, 9, 10, 11, 12, 13, 14, 15, 16, 17, 18, 19, 20, 21, 22, 23, 24, 25] [0, 1, 2, 3, 4, 5, 6, 7, 8, 9, 10, 11, 12, 13, 14, 15, 16, 17, 18, 19, 20, 21, 22, 23, 24, 25] rfl rfl (by decide) (by decide) (by decide) rfl (by decide) rfl dX3_cue_4 rfl rfl (Nat.le_of_ble_eq_true rfl) ⟨ocC_le (fun E hE => ⟨_, hx0 E hE⟩), ocS_le (fun E hE => ⟨_, hx0 E hE⟩)⟩ rfl rfl (fun E hE => q_outX C hQ htab (ocC_of (hx0 E hE)) (ocS_of (hx0 E hE)) ⟨hx0 E hE, rfl⟩) (fun hk0 => ?_)
  have k0 := oc_none hk0
  refine q_iload_n (pc2 := 8) C 2 dX3_cue_7 rfl rfl rfl ?_
  refine q_iconst (v := 0) (pc2 := 9) C dX3_cue_8 (by decide) rfl ?_
  refine q_iconst (v := 2) (pc2 := 10) C dX3_cue_9 (by decide) rfl ?_
  have hx1 : ∀ E : String, (if (0 ≤ curve ∧ curve ≤ 2) then none else some eA) = some E → (if (0 ≤ fade ∧ fade ≤ 50) then (if (0 ≤ curve ∧ curve ≤ 2) then (if (-1 ≤ follow ∧ follow ≤ 50) then (if (x 16 0 < 8) then none else some eS) else some eA) else some eA) else some eA) = some E := fun E hE => by obtain ⟨hc, rfl⟩ := oc_some hE; exact (by rw [if_pos k0, if_neg hc])
  refine q_tS (pc2 := 13) (As := [.int curve, .int 0, .int 2]) (st := []) (st2 := []) (w2 := (wX ct a x)) C (c_X3_checkRange l hl D ct curve 0 2) (va_cwS 3 C.w gX3_cue_X3_checkRange rfl rfl rfl (by decide +kernel) ⟨Nat.le_of_ble_eq_true rfl, Nat.le_of_ble_eq_true rfl⟩) [] [0, 1, 2, 3, 4, 5, 6, 7, 8, 9, 10, 11, 12, 13, 14, 15, 16, 17, 18, 19, 20, 21, 22, 23, 24, 25] [0, 1, 2, 3, 4, 5, 6, 7, 8, 9, 10, 11, 12, 13, 14, 15, 16, 17, 18, 19, 20, 21, 22, 23, 24, 25] rfl rfl (by decide) (by decide) (by decide) rfl (by decide) rfl dX3_cue_10 rfl rfl (Nat.le_of_ble_eq_true rfl) ⟨ocC_le (fun E hE => ⟨_, hx1 E hE⟩), ocS_le (fun E hE => ⟨_, hx1 E hE⟩)⟩ rfl rfl (fun E hE => q_outX C hQ htab (ocC_of (hx1 E hE)) (ocS_of (hx1 E hE)) ⟨hx1 E hE, rfl⟩) (fun hk1 => ?_)
  have k1 := oc_none hk1
  refine q_iload_n (pc2 := 14) C 3 dX3_cue_13 rfl rfl rfl ?_
  refine q_iconst (v := (-1)) (pc2 := 15) C dX3_cue_14 (by decide) rfl ?_
  refine q_bipush (v := 50) (pc2 := 17) C dX3_cue_15 (by decide) rfl ?_
  have hx2 : ∀ E : String, (if (-1 ≤ follow ∧ follow ≤ 50) then none else some eA) = some E → (if (0 ≤ fade ∧ fade ≤ 50) then (if (0 ≤ curve ∧ curve ≤ 2) then (if (-1 ≤ follow ∧ follow ≤ 50) then (if (x 16 0 < 8) then none else some eS) else some eA) else some eA) else some eA) = some E := fun E hE => by obtain ⟨hc, rfl⟩ := oc_some hE; exact (by rw [if_pos k0, if_pos k1, if_neg hc])
  refine q_tS (pc2 := 20) (As := [.int follow, .int (-1), .int 50]) (st := []) (st2 := []) (w2 := (wX ct a x)) C (c_X3_checkRange l hl D ct follow (-1) 50) (va_cwS 3 C.w gX3_cue_X3_checkRange rfl rfl rfl (by decide +kernel) ⟨Nat.le_of_ble_eq_true rfl, Nat.le_of_ble_eq_true rfl⟩) [] [0, 1, 2, 3, 4, 5, 6, 7, 8, 9, 10, 11, 12, 13, 14, 15, 16, 17, 18, 19, 20, 21, 22, 23, 24, 25] [0, 1, 2, 3, 4, 5, 6, 7, 8, 9, 10, 11, 12, 13, 14, 15, 16, 17, 18, 19, 20, 21, 22, 23, 24, 25] rfl rfl (by decide) (by decide) (by decide) rfl (by decide) rfl dX3_cue_17 rfl rfl (Nat.le_of_ble_eq_true rfl) ⟨ocC_le (fun E hE => ⟨_, hx2 E hE⟩), ocS_le (fun E hE => ⟨_, hx2 E hE⟩)⟩ rfl rfl (fun E hE => q_outX C hQ htab (ocC_of (hx2 E hE)) (ocS_of (hx2 E hE)) ⟨hx2 E hE, rfl⟩) (fun hk2 => ?_)
  have k2 := oc_none hk2
  refine q_aload_n (pc2 := 21) C 0 dX3_cue_20 rfl rfl rfl ?_
  refine q_get (q0 := 0) (k := 6) (v := .ref (a 33)) (pc2 := 24) C hT3 f41 (wX_g0 ct a x) rfl (by decide) rfl rfl dX3_cue_21 rfl ?_
  refine q_getN (q0 := 17) (k := 0) (v := .int (x 16 0)) (pc2 := 27) C hT2 (C.2.1.nf 8 rfl) (wX_g17 ct a x) rfl (by decide) rfl rfl dX3_cue_24 rfl ?_
  refine q_bipush (v := 8) (pc2 := 29) C dX3_cue_27 (by decide) rfl ?_
  refine q_icmp_lt (tgt := 42) (pc2 := 32) C dX3_cue_29 (by decide) rfl (fun c29 => ?_) (fun c29 => ?_)
  · skip
    have k3 : (x 16 0 < 8) := c29
    have hq7 : q < 8 := (nI_ltI (by omega) (by decide)).mp (show nI q < nI 8 by rw [← hq]; exact k3)
    refine q_aload_n (pc2 := 43) C 0 dX3_cue_42 rfl rfl rfl ?_
    refine q_get (q0 := 0) (k := 6) (v := .ref (a 33)) (pc2 := 46) C hT3 f41 (wX_g0 ct a x) rfl (by decide) rfl rfl dX3_cue_43 rfl ?_
    refine q_iload_n (pc2 := 47) C 1 dX3_cue_46 rfl rfl rfl ?_
    refine q_iload_n (pc2 := 48) C 2 dX3_cue_47 rfl rfl rfl ?_
    refine q_iload_n (pc2 := 49) C 3 dX3_cue_48 rfl rfl rfl ?_
    refine q_cVN (pc2 := 52) (As := [.int fade, .int curve, .int follow]) (st := []) (st2 := [.int (x 16 0)]) (q0 := 0) (w2 := (wX ct a (set2 (set2 (set2 (set2 x 16 (fun _ => x 16 0 + 1)) 17 (upd (x 17) q fade)) 18 (upd (x 18) q curve)) 19 (upd (x 19) q follow)))) (c2 := 0) (s2 := 0) C (c_X2_addCue l D ct a x q hq hq7 fade curve follow) (⟨va_cnB 3 C.w gX3_cue_X2_addCue_n160 rfl rfl rfl (C.2.1.nm 2 rfl) (C.w (.initialized RX2) (by decide +kernel)) (by decide +kernel) ⟨Nat.le_of_ble_eq_true rfl, Nat.le_of_ble_eq_true rfl⟩, C.w (.instanceMethod yX2_addCue) (by decide +kernel), C.w (.selects RX2 yX2_addCue yX2_addCue) (by decide +kernel)⟩) rfl rfl [17, 18, 19, 20, 21, 22, 23, 24, 25] [0, 1, 2, 3, 4, 5, 6, 7, 8, 9, 10, 11, 12, 13, 14, 15, 16] [0, 1, 2, 3, 4, 5, 6, 7, 8, 9, 10, 11, 12, 13, 14, 15, 16, 17, 18, 19, 20, 21, 22, 23, 24, 25] rfl rfl (by decide) (by decide) (by decide) rfl (by decide) dX3_cue_49 rfl rfl (Nat.le_of_ble_eq_true rfl) ⟨Nat.zero_le _, Nat.zero_le _⟩ rfl rfl rfl rfl ?_
    exact q_zretX C hQ rfl (rfl) (Nat.zero_le _) (Nat.zero_le _) dX3_cue_52 ⟨(by rw [if_pos k0, if_pos k1, if_pos k2, if_pos k3]), rfl, rfl⟩
  · skip
    have hoc : (if (0 ≤ fade ∧ fade ≤ 50) then (if (0 ≤ curve ∧ curve ≤ 2) then (if (-1 ≤ follow ∧ follow ≤ 50) then (if (x 16 0 < 8) then none else some eS) else some eA) else some eA) else some eA) = some eS := (by rw [if_pos k0, if_pos k1, if_pos k2, if_neg c29])
    exact q_throwS C hl hQ htab (cls := "java/lang/IllegalStateException") (names := ["java/lang/RuntimeException", "java/lang/Exception"]) rfl 3 rfl (by decide +kernel) (by decide +kernel) (C.w (.classLink RX3 59 "java/lang/IllegalStateException") (by decide +kernel)) (C.w (.initialized "java/lang/IllegalStateException") (by decide +kernel)) (q_atS C.2.1 (fun w hw => C.w w (List.mem_cons_of_mem _ (List.mem_append_left _ (List.mem_append_right _ hw)))) q_ng2 (by decide +kernel)) q_ot2 dX3_cue_32 dX3_cue_35 dX3_cue_36 dX3_cue_38 dX3_cue_41 (Nat.le_of_ble_eq_true rfl) (Nat.le_of_ble_eq_true rfl) (ocC_of hoc) (ocS_of hoc) (ocC_of hoc) (ocS_of hoc) ⟨hoc, rfl⟩

set_option maxHeartbeats 4000000 in
set_option maxRecDepth 100000 in
theorem c_X3_name (l : Launch) (hl : l.stackTraces = false) (D : va_G) (ct : Nat → ClassId) (a : Nat → Nat) (x : Nat → Nat → Int32) (n : Nat) (hn : x 0 0 = nI n) (hn10 : n ≤ 10) (q : Nat) (hq : x 16 0 = nI q) (hq8 : q ≤ 8) (cu lm lev : Int32) : qMX l yX3_name wsX3_name ({ frames := 7, cells := (ocC (if (0 ≤ cu ∧ cu < x 16 0) then (if (0 ≤ lm ∧ lm < x 0 0) then (if (-1 ≤ lev ∧ lev ≤ 100) then none else some eA) else some eI) else some eI)), slots := (ocS (if (0 ≤ cu ∧ cu < x 16 0) then (if (0 ≤ lm ∧ lm < x 0 0) then (if (-1 ≤ lev ∧ lev ≤ 100) then none else some eA) else some eI) else some eI)), locals := 112 }) D ct [.ref (a 30), .int cu, .int lm, .int lev] (wX ct a x) (qDo (if (0 ≤ cu ∧ cu < x 16 0) then (if (0 ≤ lm ∧ lm < x 0 0) then (if (-1 ≤ lev ∧ lev ≤ 100) then none else some eA) else some eI) else some eI) (some (.int (x 20 (10 * cu.toNatClampNeg + lm.toNatClampNeg)))) (wX ct a (set2 x 20 (upd (x 20) (10 * cu.toNatClampNeg + lm.toNatClampNeg) lev)))) (qDx (if (0 ≤ cu ∧ cu < x 16 0) then (if (0 ≤ lm ∧ lm < x 0 0) then (if (-1 ≤ lev ∧ lev ≤ 100) then none else some eA) else some eI) else some eI) (wX ct a x)) (ocC (if (0 ≤ cu ∧ cu < x 16 0) then (if (0 ≤ lm ∧ lm < x 0 0) then (if (-1 ≤ lev ∧ lev ≤ 100) then none else some eA) else some eI) else some eI)) (ocS (if (0 ≤ cu ∧ cu < x 16 0) then (if (0 ≤ lm ∧ lm < x 0 0) then (if (-1 ≤ lev ∧ lev ≤ 100) then none else some eA) else some eI) else some eI)) := by
  refine q_startX (ret := some .int) (lv := [(0, .ref (a 30)), (1, .int cu), (2, .int lm), (3, .int lev)]) (by decide +kernel) rfl (Nat.le_of_ble_eq_true rfl) rfl ?_
  intro p e s m args below meth c A Q C hQ htab
  have hT3 : ∀ w ∈ u_ws RX3 TX3 7, w ∈ wsX3_name := by decide +kernel
  have hT2 : ∀ w ∈ u_ws RX2 TX2 11, w ∈ wsX3_name := by decide +kernel
  have f41 : (Cond.fieldLink RX3 41 "PlotPatch" "show" "LPlotPatch$Show;").before args s = true := C.w _ (by decide +kernel)
  refine q_iload_n (pc2 := 1) C 1 dX3_name_0 rfl rfl rfl ?_
  refine q_if_lt (tgt := 15) (pc2 := 4) C dX3_name_1 (by decide) rfl (fun c1 => ?_) (fun c1 => ?_)
  · skip
    have hoc : (if (0 ≤ cu ∧ cu < x 16 0) then (if (0 ≤ lm ∧ lm < x 0 0) then (if (-1 ≤ lev ∧ lev ≤ 100) then none else some eA) else some eI) else some eI) = some eI := (by rw [if_neg (fun z => absurd c1 (Int32.not_lt.mpr z.1))])
    exact q_throwS C hl hQ htab (cls := "java/lang/IndexOutOfBoundsException") (names := ["java/lang/RuntimeException", "java/lang/Exception"]) rfl 4 rfl (by decide +kernel) (by decide +kernel) (C.w (.classLink RX3 45 "java/lang/IndexOutOfBoundsException") (by decide +kernel)) (C.w (.initialized "java/lang/IndexOutOfBoundsException") (by decide +kernel)) (q_atS C.2.1 (fun w hw => C.w w (List.mem_cons_of_mem _ (List.mem_append_left _ (List.mem_append_right _ hw)))) q_ng0 (by decide +kernel)) q_ot0 dX3_name_15 dX3_name_18 dX3_name_19 dX3_name_21 dX3_name_24 (Nat.le_of_ble_eq_true rfl) (Nat.le_of_ble_eq_true rfl) (ocC_of hoc) (ocS_of hoc) (ocC_of hoc) (ocS_of hoc) ⟨hoc, rfl⟩
  · skip
    refine q_iload_n (pc2 := 5) C 1 dX3_name_4 rfl rfl rfl ?_
    refine q_aload_n (pc2 := 6) C 0 dX3_name_5 rfl rfl rfl ?_
    refine q_get (q0 := 0) (k := 6) (v := .ref (a 33)) (pc2 := 9) C hT3 f41 (wX_g0 ct a x) rfl (by decide) rfl rfl dX3_name_6 rfl ?_
    refine q_getN (q0 := 17) (k := 0) (v := .int (x 16 0)) (pc2 := 12) C hT2 (C.2.1.nf 8 rfl) (wX_g17 ct a x) rfl (by decide) rfl rfl dX3_name_9 rfl ?_
    refine q_icmp_lt (tgt := 25) (pc2 := 15) C dX3_name_12 (by decide) rfl (fun c12 => ?_) (fun c12 => ?_)
    · skip
      have k0 : (0 ≤ cu ∧ cu < x 16 0) := ⟨Int32.not_lt.mp c1, c12⟩
      have hC := idxL (k := q) (by have z := k0; rw [hq] at z; exact z) (by omega)
      refine q_aload_n (pc2 := 26) C 0 dX3_name_25 rfl rfl rfl ?_
      refine q_iload_n (pc2 := 27) C 2 dX3_name_26 rfl rfl rfl ?_
      have hx1 : ∀ E : String, (if (0 ≤ lm ∧ lm < x 0 0) then none else some eI) = some E → (if (0 ≤ cu ∧ cu < x 16 0) then (if (0 ≤ lm ∧ lm < x 0 0) then (if (-1 ≤ lev ∧ lev ≤ 100) then none else some eA) else some eI) else some eI) = some E := fun E hE => by obtain ⟨hc, rfl⟩ := oc_some hE; exact (by rw [if_pos k0, if_neg hc])
      refine q_tV (pc2 := 30) (As := [.int lm]) (st := []) (st2 := []) (b := (a 30)) (q0 := 0) (w2 := (wX ct a x)) C (c_X3_checkLamp l hl D ct a x lm) (cwV 1 C.w gX3_name_X3_checkLamp rfl rfl rfl (by decide +kernel) ⟨Nat.le_of_ble_eq_true rfl, Nat.le_of_ble_eq_true rfl⟩) (wX_g0 ct a x) rfl [0, 1, 2, 3, 4, 5, 6, 7, 8, 9, 10, 11, 12, 13, 14, 15, 16, 17, 18, 19, 20, 21, 22, 23, 24, 25] [] [0, 1, 2, 3, 4, 5, 6, 7, 8, 9, 10, 11, 12, 13, 14, 15, 16, 17, 18, 19, 20, 21, 22, 23, 24, 25] rfl rfl (by decide) (by decide) (by decide) rfl (by decide) rfl dX3_name_27 rfl rfl (Nat.le_of_ble_eq_true rfl) ⟨ocC_le (fun E hE => ⟨_, hx1 E hE⟩), ocS_le (fun E hE => ⟨_, hx1 E hE⟩)⟩ rfl rfl (fun E hE => q_outX C hQ htab (ocC_of (hx1 E hE)) (ocS_of (hx1 E hE)) ⟨hx1 E hE, rfl⟩) (fun hk1 => ?_)
      have k1 := oc_none hk1
      have hL := idxL (k := n) (by have z := k1; rw [hn] at z; exact z) (by omega)
      refine q_iload_n (pc2 := 31) C 3 dX3_name_30 rfl rfl rfl ?_
      refine q_iconst (v := (-1)) (pc2 := 32) C dX3_name_31 (by decide) rfl ?_
      refine q_bipush (v := 100) (pc2 := 34) C dX3_name_32 (by decide) rfl ?_
      have hx2 : ∀ E : String, (if (-1 ≤ lev ∧ lev ≤ 100) then none else some eA) = some E → (if (0 ≤ cu ∧ cu < x 16 0) then (if (0 ≤ lm ∧ lm < x 0 0) then (if (-1 ≤ lev ∧ lev ≤ 100) then none else some eA) else some eI) else some eI) = some E := fun E hE => by obtain ⟨hc, rfl⟩ := oc_some hE; exact (by rw [if_pos k0, if_pos k1, if_neg hc])
      refine q_tS (pc2 := 37) (As := [.int lev, .int (-1), .int 100]) (st := []) (st2 := []) (w2 := (wX ct a x)) C (c_X3_checkRange l hl D ct lev (-1) 100) (va_cwS 3 C.w gX3_name_X3_checkRange rfl rfl rfl (by decide +kernel) ⟨Nat.le_of_ble_eq_true rfl, Nat.le_of_ble_eq_true rfl⟩) [] [0, 1, 2, 3, 4, 5, 6, 7, 8, 9, 10, 11, 12, 13, 14, 15, 16, 17, 18, 19, 20, 21, 22, 23, 24, 25] [0, 1, 2, 3, 4, 5, 6, 7, 8, 9, 10, 11, 12, 13, 14, 15, 16, 17, 18, 19, 20, 21, 22, 23, 24, 25] rfl rfl (by decide) (by decide) (by decide) rfl (by decide) rfl dX3_name_34 rfl rfl (Nat.le_of_ble_eq_true rfl) ⟨ocC_le (fun E hE => ⟨_, hx2 E hE⟩), ocS_le (fun E hE => ⟨_, hx2 E hE⟩)⟩ rfl rfl (fun E hE => q_outX C hQ htab (ocC_of (hx2 E hE)) (ocS_of (hx2 E hE)) ⟨hx2 E hE, rfl⟩) (fun hk2 => ?_)
      have k2 := oc_none hk2
      refine q_iload_n (pc2 := 38) C 1 dX3_name_37 rfl rfl rfl ?_
      refine q_iload_n (pc2 := 39) C 2 dX3_name_38 rfl rfl rfl ?_
      refine q_cSN (pc2 := 42) (As := [.int cu, .int lm]) (st := []) (st2 := [.int ((cu * 10) + lm)]) (w2 := (wX ct a x)) (c2 := 0) (s2 := 0) C (c_X2_cell l D ct cu lm) (⟨va_cnB 2 C.w gX3_name_X2_cell_n165 rfl rfl rfl (C.2.1.nm 14 rfl) (C.w (.initialized RX2) (by decide +kernel)) (by decide +kernel) ⟨Nat.le_of_ble_eq_true rfl, Nat.le_of_ble_eq_true rfl⟩, C.w (.static yX2_cell) (by decide +kernel), trivial⟩) [] [0, 1, 2, 3, 4, 5, 6, 7, 8, 9, 10, 11, 12, 13, 14, 15, 16, 17, 18, 19, 20, 21, 22, 23, 24, 25] [0, 1, 2, 3, 4, 5, 6, 7, 8, 9, 10, 11, 12, 13, 14, 15, 16, 17, 18, 19, 20, 21, 22, 23, 24, 25] rfl rfl (by decide) (by decide) (by decide) rfl (by decide) dX3_name_39 rfl rfl (Nat.le_of_ble_eq_true rfl) ⟨Nat.zero_le _, Nat.zero_le _⟩ rfl rfl rfl rfl ?_
      refine q_eqi (y := nI (10 * cu.toNatClampNeg + lm.toNatClampNeg)) (by have z9 := cellI cu.toNatClampNeg lm.toNatClampNeg 10; rw [← hC.2, ← hL.2] at z9; exact z9) ?_
      refine q_istore (lv' := [(4, .int (nI (10 * cu.toNatClampNeg + lm.toNatClampNeg))), (0, .ref (a 30)), (1, .int cu), (2, .int lm), (3, .int lev)]) (pc2 := 44) C dX3_name_42 (by decide) rfl rfl ?_
      refine q_aload_n (pc2 := 45) C 1 dX3_name_44 rfl rfl rfl ?_
      refine q_get (q0 := 0) (k := 6) (v := .ref (a 33)) (pc2 := 48) C hT3 f41 (wX_g0 ct a x) rfl (by decide) rfl rfl dX3_name_45 rfl ?_
      refine q_getN (q0 := 17) (k := 4) (v := .ref (a 20)) (pc2 := 51) C hT2 (C.2.1.nf 9 rfl) (wX_g17 ct a x) rfl (by decide) rfl rfl dX3_name_48 rfl ?_
      refine q_iload (pc2 := 53) C 0 dX3_name_51 rfl rfl ?_
      refine q_iald (q0 := 21) (f := (x 20)) (pc2 := 54) C (10 * cu.toNatClampNeg + lm.toNatClampNeg) (wX_g21 ct a x) rfl (rfl) (by have := hC.1; have := hL.1; omega) (by decide) dX3_name_53 rfl ?_
      refine q_istore (lv' := [(5, .int ((x 20) (10 * cu.toNatClampNeg + lm.toNatClampNeg))), (4, .int (nI (10 * cu.toNatClampNeg + lm.toNatClampNeg))), (0, .ref (a 30)), (1, .int cu), (2, .int lm), (3, .int lev)]) (pc2 := 56) C dX3_name_54 (by decide) rfl rfl ?_
      refine q_aload_n (pc2 := 57) C 2 dX3_name_56 rfl rfl rfl ?_
      refine q_get (q0 := 0) (k := 6) (v := .ref (a 33)) (pc2 := 60) C hT3 f41 (wX_g0 ct a x) rfl (by decide) rfl rfl dX3_name_57 rfl ?_
      refine q_getN (q0 := 17) (k := 4) (v := .ref (a 20)) (pc2 := 63) C hT2 (C.2.1.nf 9 rfl) (wX_g17 ct a x) rfl (by decide) rfl rfl dX3_name_60 rfl ?_
      refine q_iload (pc2 := 65) C 1 dX3_name_63 rfl rfl ?_
      refine q_iload_n (pc2 := 66) C 5 dX3_name_65 rfl rfl rfl ?_
      refine q_iast (q0 := 21) (f := (x 20)) (ws' := (wX ct a (set2 x 20 (upd (x 20) (10 * cu.toNatClampNeg + lm.toNatClampNeg) lev)))) (pc2 := 67) C (10 * cu.toNatClampNeg + lm.toNatClampNeg) (wX_g21 ct a x) rfl (rfl) (by have := hC.1; have := hL.1; omega) (by decide) (wX_a21 ct a x (upd (x 20) (10 * cu.toNatClampNeg + lm.toNatClampNeg) lev)) dX3_name_66 rfl ?_
      refine q_iload (pc2 := 69) C 0 dX3_name_67 rfl rfl ?_
      exact q_zretX C hQ rfl (rfl) (Nat.zero_le _) (Nat.zero_le _) dX3_name_69 ⟨(by rw [if_pos k0, if_pos k1, if_pos k2]), rfl, rfl⟩
    · skip
      have hoc : (if (0 ≤ cu ∧ cu < x 16 0) then (if (0 ≤ lm ∧ lm < x 0 0) then (if (-1 ≤ lev ∧ lev ≤ 100) then none else some eA) else some eI) else some eI) = some eI := (by rw [if_neg (fun z => c12 z.2)])
      exact q_throwS C hl hQ htab (cls := "java/lang/IndexOutOfBoundsException") (names := ["java/lang/RuntimeException", "java/lang/Exception"]) rfl 4 rfl (by decide +kernel) (by decide +kernel) (C.w (.classLink RX3 45 "java/lang/IndexOutOfBoundsException") (by decide +kernel)) (C.w (.initialized "java/lang/IndexOutOfBoundsException") (by decide +kernel)) (q_atS C.2.1 (fun w hw => C.w w (List.mem_cons_of_mem _ (List.mem_append_left _ (List.mem_append_right _ hw)))) q_ng0 (by decide +kernel)) q_ot0 dX3_name_15 dX3_name_18 dX3_name_19 dX3_name_21 dX3_name_24 (Nat.le_of_ble_eq_true rfl) (Nat.le_of_ble_eq_true rfl) (ocC_of hoc) (ocS_of hoc) (ocC_of hoc) (ocS_of hoc) ⟨hoc, rfl⟩

theorem bnS_22 : ∀ (k i : Nat) (z : Nat → Nat → Int32), ∃ j, j ≤ k ∧ bnS (k + 1) i z 22 0 = nI (i + j)
  | 0, i, z => by
    refine ⟨0, Nat.le_refl 0, ?_⟩
    simp only [bnS]
    split <;> rfl
  | k + 1, i, z => by
    rw [bnS]
    split
    · obtain ⟨j, hj, e⟩ := bnS_22 k (i + 1) (begS z i)
      exact ⟨j + 1, by omega, e.trans (by rw [show i + 1 + j = i + (j + 1) by omega])⟩
    · exact ⟨0, by omega, rfl⟩
/-- no cue begins where there is no next one, and some where there is one -/
theorem bnS_none {x : Nat → Nat → Int32} {q b : Nat} (hb : x 22 0 + 1 = nI b) (hbq : b ≤ q) (hq8 : q ≤ 8) : bnS (q - b) b x 22 0 - x 22 0 ≠ 0 ↔ b < q := by
  constructor
  · intro h
    refine Nat.lt_of_le_of_ne hbq (fun e => h ?_)
    rw [e, Nat.sub_self]
    exact Int32.sub_self _
  · intro h e
    obtain ⟨j, hj, e2⟩ := bnS_22 (q - b - 1) b x
    rw [show q - b - 1 + 1 = q - b by omega] at e2
    have e3 : x 22 0 = nI b - 1 := by rw [← hb, Int32.add_sub_cancel]
    have e4 : nI (b + j) - (nI b - 1) = nI (j + 1) := by
      rw [← nI_add, Int32.sub_eq_add_neg, Int32.neg_sub, Int32.add_comm (nI b) (nI j), Int32.add_assoc, show nI b + (1 - nI b) = 1 by rw [Int32.sub_eq_add_neg, ← Int32.add_assoc, Int32.add_comm (nI b), Int32.add_assoc, ← Int32.sub_eq_add_neg, Int32.sub_self, Int32.add_zero]]
      exact nI_1 j
    rw [e2, e3, e4] at e
    exact nI_ne0 (Nat.succ_pos j) (by omega) e

set_option maxHeartbeats 4000000 in
set_option maxRecDepth 100000 in
theorem c_X3_go (l : Launch) (hl : l.stackTraces = false) (D : va_G) (ct : Nat → ClassId) (a : Nat → Nat) (x : Nat → Nat → Int32) (q : Nat) (hq : x 16 0 = nI q) (hq8 : q ≤ 8) (hfd : ∀ c, c < 8 → fadeOk (x 17 c)) (b : Nat) (hb : x 22 0 + 1 = nI b) (hbq : b ≤ q) : qMX l yX3_go wsX3_go ({ frames := 6, cells := (ocC (if (b < q) then none else some eS)), slots := (ocS (if (b < q) then none else some eS)), locals := 114 }) D ct [.ref (a 30)] (wX ct a x) (qDo (if (b < q) then none else some eS) (some (.int ((bnS (q - b) b x) 22 0))) (wX ct a (fixS x (bnS (q - b) b x)))) (qDx (if (b < q) then none else some eS) (wX ct a x)) (ocC (if (b < q) then none else some eS)) (ocS (if (b < q) then none else some eS)) := by
  refine q_startX (ret := some .int) (lv := [(0, .ref (a 30))]) (by decide +kernel) rfl (Nat.le_of_ble_eq_true rfl) rfl ?_
  intro p e s m args below meth c A Q C hQ htab
  have hT3 : ∀ w ∈ u_ws RX3 TX3 7, w ∈ wsX3_go := by decide +kernel
  have hT2 : ∀ w ∈ u_ws RX2 TX2 11, w ∈ wsX3_go := by decide +kernel
  have f41 : (Cond.fieldLink RX3 41 "PlotPatch" "show" "LPlotPatch$Show;").before args s = true := C.w _ (by decide +kernel)
  refine q_aload_n (pc2 := 1) C 0 dX3_go_0 rfl rfl rfl ?_
  refine q_get (q0 := 0) (k := 6) (v := .ref (a 33)) (pc2 := 4) C hT3 f41 (wX_g0 ct a x) rfl (by decide) rfl rfl dX3_go_1 rfl ?_
  refine q_cVN (pc2 := 7) (As := []) (st := []) (st2 := [.int ((bnS (q - b) b x) 22 0 - x 22 0)]) (q0 := 0) (w2 := (wX ct a (set2 (set2 (set2 (set2 (set2 x 22 ((bnS (q - b) b x) 22)) 23 ((bnS (q - b) b x) 23)) 24 ((bnS (q - b) b x) 24)) 25 ((bnS (q - b) b x) 25)) 26 ((bnS (q - b) b x) 26)))) (c2 := 0) (s2 := 0) C (c_X2_beginNext l D ct a x q hq hq8 hfd b hb hbq) (⟨va_cnB 0 C.w gX3_go_X2_beginNext_n171 rfl rfl rfl (C.2.1.nm 5 rfl) (C.w (.initialized RX2) (by decide +kernel)) (by decide +kernel) ⟨Nat.le_of_ble_eq_true rfl, Nat.le_of_ble_eq_true rfl⟩, C.w (.instanceMethod yX2_beginNext) (by decide +kernel), C.w (.selects RX2 yX2_beginNext yX2_beginNext) (by decide +kernel)⟩) rfl rfl [17, 18, 19, 20, 21, 22, 23, 24, 25] [0, 1, 2, 3, 4, 5, 6, 7, 8, 9, 10, 11, 12, 13, 14, 15, 16] [0, 1, 2, 3, 4, 5, 6, 7, 8, 9, 10, 11, 12, 13, 14, 15, 16, 17, 18, 19, 20, 21, 22, 23, 24, 25] rfl rfl (by decide) (by decide) (by decide) rfl (by decide) dX3_go_4 rfl rfl (Nat.le_of_ble_eq_true rfl) ⟨Nat.zero_le _, Nat.zero_le _⟩ rfl rfl rfl rfl ?_
  refine q_if_ne (tgt := 20) (pc2 := 10) C dX3_go_7 (by decide) rfl (fun c7 => ?_) (fun c7 => ?_)
  · skip
    have k0 : (b < q) := (bnS_none hb hbq hq8).mp c7
    refine q_aload_n (pc2 := 21) C 0 dX3_go_20 rfl rfl rfl ?_
    refine q_get (q0 := 0) (k := 6) (v := .ref (a 33)) (pc2 := 24) C hT3 f41 (wX_g0 ct a (set2 (set2 (set2 (set2 (set2 x 22 ((bnS (q - b) b x) 22)) 23 ((bnS (q - b) b x) 23)) 24 ((bnS (q - b) b x) 24)) 25 ((bnS (q - b) b x) 25)) 26 ((bnS (q - b) b x) 26))) rfl (by decide) rfl rfl dX3_go_21 rfl ?_
    refine q_getN (q0 := 17) (k := 6) (v := .int (((bnS (q - b) b x) 22) 0)) (pc2 := 27) C hT2 (C.2.1.nf 10 rfl) (wX_g17 ct a (set2 (set2 (set2 (set2 (set2 x 22 ((bnS (q - b) b x) 22)) 23 ((bnS (q - b) b x) 23)) 24 ((bnS (q - b) b x) 24)) 25 ((bnS (q - b) b x) 25)) 26 ((bnS (q - b) b x) 26))) rfl (by decide) rfl rfl dX3_go_24 rfl ?_
    exact q_zretX C hQ rfl (rfl) (Nat.zero_le _) (Nat.zero_le _) dX3_go_27 ⟨(by rw [if_pos k0]), rfl, rfl⟩
  · skip
    have hbe : b = q := Nat.le_antisymm hbq (Nat.not_lt.mp (fun z => (bnS_none hb hbq hq8).mpr z c7))
    refine q_eqw (ws' := (wX ct a x)) (by rw [hbe, Nat.sub_self]; rfl) ?_
    have hoc : (if (b < q) then none else some eS) = some eS := (by rw [if_neg (fun z => (bnS_none hb hbq hq8).mpr z c7)])
    exact q_throwS C hl hQ htab (cls := "java/lang/IllegalStateException") (names := ["java/lang/RuntimeException", "java/lang/Exception"]) rfl 5 rfl (by decide +kernel) (by decide +kernel) (C.w (.classLink RX3 59 "java/lang/IllegalStateException") (by decide +kernel)) (C.w (.initialized "java/lang/IllegalStateException") (by decide +kernel)) (q_atS C.2.1 (fun w hw => C.w w (List.mem_cons_of_mem _ (List.mem_append_right _ hw))) q_ng2 (by decide +kernel)) q_ot2 dX3_go_10 dX3_go_13 dX3_go_14 dX3_go_16 dX3_go_19 (Nat.le_of_ble_eq_true rfl) (Nat.le_of_ble_eq_true rfl) (ocC_of hoc) (ocS_of hoc) (ocC_of hoc) (ocS_of hoc) ⟨hoc, rfl⟩

set_option maxHeartbeats 4000000 in
set_option maxRecDepth 100000 in
theorem c_X3_rewind (l : Launch) (D : va_G) (ct : Nat → ClassId) (a : Nat → Nat) (x : Nat → Nat → Int32) : qM l yX3_rewind wsX3_rewind ({ frames := 2, cells := 0, slots := 0, locals := 44 }) D ct [.ref (a 30)] (wX ct a x) (qD (some (.int (x 22 0 + 1))) (wX ct a (set2 (set2 x 22 (fun _ => -1)) 24 (fun k => if k < 10 then -1 else x 24 k)))) 0 0 := by
  refine q_start (ret := some .int) (lv := [(0, .ref (a 30))]) (by decide +kernel) rfl (Nat.le_of_ble_eq_true rfl) rfl ?_
  intro p e s m args below meth c A Q C hQ hnm
  have hT3 : ∀ w ∈ u_ws RX3 TX3 7, w ∈ wsX3_rewind := by decide +kernel
  have f41 : (Cond.fieldLink RX3 41 "PlotPatch" "show" "LPlotPatch$Show;").before args s = true := C.w _ (by decide +kernel)
  refine q_aload_n (pc2 := 1) C 0 dX3_rewind_0 rfl rfl rfl ?_
  refine q_get (q0 := 0) (k := 6) (v := .ref (a 33)) (pc2 := 4) C hT3 f41 (wX_g0 ct a x) rfl (by decide) rfl rfl dX3_rewind_1 rfl ?_
  refine q_cVN (pc2 := 7) (As := []) (st := []) (st2 := [.int (x 22 0 + 1)]) (q0 := 0) (w2 := (wX ct a (set2 (set2 x 22 (fun _ => -1)) 24 (fun k => if k < 10 then -1 else x 24 k)))) (c2 := 0) (s2 := 0) C (c_X2_reset l D ct a x) (⟨va_cnB 0 C.w gX3_rewind_X2_reset_n185 rfl rfl rfl (C.2.1.nm 17 rfl) (C.w (.initialized RX2) (by decide +kernel)) (by decide +kernel) ⟨Nat.le_of_ble_eq_true rfl, Nat.le_of_ble_eq_true rfl⟩, C.w (.instanceMethod yX2_reset) (by decide +kernel), C.w (.selects RX2 yX2_reset yX2_reset) (by decide +kernel)⟩) rfl rfl [17, 18, 19, 20, 21, 22, 23, 24, 25] [0, 1, 2, 3, 4, 5, 6, 7, 8, 9, 10, 11, 12, 13, 14, 15, 16] [0, 1, 2, 3, 4, 5, 6, 7, 8, 9, 10, 11, 12, 13, 14, 15, 16, 17, 18, 19, 20, 21, 22, 23, 24, 25] rfl rfl (by decide) (by decide) (by decide) rfl (by decide) dX3_rewind_4 rfl rfl (Nat.le_of_ble_eq_true rfl) ⟨Nat.zero_le _, Nat.zero_le _⟩ rfl rfl rfl rfl ?_
  exact q_zret C hQ rfl (rfl) (Nat.zero_le _) (Nat.zero_le _) dX3_rewind_7 ⟨rfl, rfl⟩

set_option maxHeartbeats 4000000 in
set_option maxRecDepth 100000 in
theorem c_X3_level (l : Launch) (hl : l.stackTraces = false) (D : va_G) (ct : Nat → ClassId) (a : Nat → Nat) (x : Nat → Nat → Int32) (n : Nat) (hn : x 0 0 = nI n) (hn10 : n ≤ 10) (q : Nat) (hq : x 16 0 = nI q) (hq8 : q ≤ 8) (hfd : ∀ c, c < 8 → fadeOk (x 17 c)) (lm : Int32) : qMX l yX3_level wsX3_level ({ frames := 7, cells := (ocC (if (0 ≤ lm ∧ lm < x 0 0) then none else some eI)), slots := (ocS (if (0 ≤ lm ∧ lm < x 0 0) then none else some eI)), locals := 111 }) D ct [.ref (a 30), .int lm] (wX ct a x) (qDo (if (0 ≤ lm ∧ lm < x 0 0) then none else some eI) (some (.int (shX x lm.toNatClampNeg))) (wX ct a x)) (qDx (if (0 ≤ lm ∧ lm < x 0 0) then none else some eI) (wX ct a x)) (ocC (if (0 ≤ lm ∧ lm < x 0 0) then none else some eI)) (ocS (if (0 ≤ lm ∧ lm < x 0 0) then none else some eI)) := by
  refine q_startX (ret := some .int) (lv := [(0, .ref (a 30)), (1, .int lm)]) (by decide +kernel) rfl (Nat.le_of_ble_eq_true rfl) rfl ?_
  intro p e s m args below meth c A Q C hQ htab
  refine q_aload_n (pc2 := 1) C 0 dX3_level_0 rfl rfl rfl ?_
  refine q_iload_n (pc2 := 2) C 1 dX3_level_1 rfl rfl rfl ?_
  have hx0 : ∀ E : String, (if (0 ≤ lm ∧ lm < x 0 0) then none else some eI) = some E → (if (0 ≤ lm ∧ lm < x 0 0) then none else some eI) = some E := fun E hE => by obtain ⟨hc, rfl⟩ := oc_some hE; exact (by rw [if_neg hc])
  refine q_tV (pc2 := 5) (As := [.int lm]) (st := []) (st2 := []) (b := (a 30)) (q0 := 0) (w2 := (wX ct a x)) C (c_X3_checkLamp l hl D ct a x lm) (cwV 1 C.w gX3_level_X3_checkLamp rfl rfl rfl (by decide +kernel) ⟨Nat.le_of_ble_eq_true rfl, Nat.le_of_ble_eq_true rfl⟩) (wX_g0 ct a x) rfl [0, 1, 2, 3, 4, 5, 6, 7, 8, 9, 10, 11, 12, 13, 14, 15, 16, 17, 18, 19, 20, 21, 22, 23, 24, 25] [] [0, 1, 2, 3, 4, 5, 6, 7, 8, 9, 10, 11, 12, 13, 14, 15, 16, 17, 18, 19, 20, 21, 22, 23, 24, 25] rfl rfl (by decide) (by decide) (by decide) rfl (by decide) rfl dX3_level_2 rfl rfl (Nat.le_of_ble_eq_true rfl) ⟨ocC_le (fun E hE => ⟨_, hx0 E hE⟩), ocS_le (fun E hE => ⟨_, hx0 E hE⟩)⟩ rfl rfl (fun E hE => q_outX C hQ htab (ocC_of (hx0 E hE)) (ocS_of (hx0 E hE)) ⟨hx0 E hE, rfl⟩) (fun hk0 => ?_)
  have k0 := oc_none hk0
  have hL := idxL (k := n) (by have z := k0; rw [hn] at z; exact z) (by omega)
  refine q_aload_n (pc2 := 6) C 0 dX3_level_5 rfl rfl rfl ?_
  refine q_iload_n (pc2 := 7) C 1 dX3_level_6 rfl rfl rfl ?_
  refine q_cV (pc2 := 10) (As := [.int lm]) (st := []) (st2 := [.int (shX x lm.toNatClampNeg)]) (q0 := 0) (w2 := (wX ct a x)) (c2 := 0) (s2 := 0) C (c_X3_shownLevel l D ct a x q hq hq8 hfd lm lm.toNatClampNeg (hL.2) ((by have := hL.1; omega))) (cwV 1 C.w gX3_level_X3_shownLevel rfl rfl rfl (by decide +kernel) ⟨Nat.le_of_ble_eq_true rfl, Nat.le_of_ble_eq_true rfl⟩) rfl rfl [0, 1, 2, 3, 4, 5, 6, 7, 8, 9, 10, 11, 12, 13, 14, 15, 16, 17, 18, 19, 20, 21, 22, 23, 24, 25] [] [0, 1, 2, 3, 4, 5, 6, 7, 8, 9, 10, 11, 12, 13, 14, 15, 16, 17, 18, 19, 20, 21, 22, 23, 24, 25] rfl rfl (by decide) (by decide) (by decide) rfl (by decide) dX3_level_7 rfl rfl (Nat.le_of_ble_eq_true rfl) ⟨Nat.zero_le _, Nat.zero_le _⟩ rfl rfl rfl rfl ?_
  exact q_zretX C hQ rfl (rfl) (Nat.zero_le _) (Nat.zero_le _) dX3_level_10 ⟨(by rw [if_pos k0]), rfl, rfl⟩

set_option maxHeartbeats 4000000 in
set_option maxRecDepth 100000 in
theorem c_X3_wanted (l : Launch) (hl : l.stackTraces = false) (D : va_G) (ct : Nat → ClassId) (a : Nat → Nat) (x : Nat → Nat → Int32) (n : Nat) (hn : x 0 0 = nI n) (hn10 : n ≤ 10) (q : Nat) (hq : x 16 0 = nI q) (hq8 : q ≤ 8) (hfd : ∀ c, c < 8 → fadeOk (x 17 c)) (lm : Int32) : qMX l yX3_wanted wsX3_wanted ({ frames := 7, cells := (ocC (if (0 ≤ lm ∧ lm < x 0 0) then none else some eI)), slots := (ocS (if (0 ≤ lm ∧ lm < x 0 0) then none else some eI)), locals := 111 }) D ct [.ref (a 30), .int lm] (wX ct a x) (qDo (if (0 ≤ lm ∧ lm < x 0 0) then none else some eI) (some (.int (wlX x lm.toNatClampNeg))) (wX ct a x)) (qDx (if (0 ≤ lm ∧ lm < x 0 0) then none else some eI) (wX ct a x)) (ocC (if (0 ≤ lm ∧ lm < x 0 0) then none else some eI)) (ocS (if (0 ≤ lm ∧ lm < x 0 0) then none else some eI)) := by
  refine q_startX (ret := some .int) (lv := [(0, .ref (a 30)), (1, .int lm)]) (by decide +kernel) rfl (Nat.le_of_ble_eq_true rfl) rfl ?_
  intro p e s m args below meth c A Q C hQ htab
  have hT3 : ∀ w ∈ u_ws RX3 TX3 7, w ∈ wsX3_wanted := by decide +kernel
  have f41 : (Cond.fieldLink RX3 41 "PlotPatch" "show" "LPlotPatch$Show;").before args s = true := C.w _ (by decide +kernel)
  refine q_aload_n (pc2 := 1) C 0 dX3_wanted_0 rfl rfl rfl ?_
  refine q_iload_n (pc2 := 2) C 1 dX3_wanted_1 rfl rfl rfl ?_
  have hx0 : ∀ E : String, (if (0 ≤ lm ∧ lm < x 0 0) then none else some eI) = some E → (if (0 ≤ lm ∧ lm < x 0 0) then none else some eI) = some E := fun E hE => by obtain ⟨hc, rfl⟩ := oc_some hE; exact (by rw [if_neg hc])
  refine q_tV (pc2 := 5) (As := [.int lm]) (st := []) (st2 := []) (b := (a 30)) (q0 := 0) (w2 := (wX ct a x)) C (c_X3_checkLamp l hl D ct a x lm) (cwV 1 C.w gX3_wanted_X3_checkLamp rfl rfl rfl (by decide +kernel) ⟨Nat.le_of_ble_eq_true rfl, Nat.le_of_ble_eq_true rfl⟩) (wX_g0 ct a x) rfl [0, 1, 2, 3, 4, 5, 6, 7, 8, 9, 10, 11, 12, 13, 14, 15, 16, 17, 18, 19, 20, 21, 22, 23, 24, 25] [] [0, 1, 2, 3, 4, 5, 6, 7, 8, 9, 10, 11, 12, 13, 14, 15, 16, 17, 18, 19, 20, 21, 22, 23, 24, 25] rfl rfl (by decide) (by decide) (by decide) rfl (by decide) rfl dX3_wanted_2 rfl rfl (Nat.le_of_ble_eq_true rfl) ⟨ocC_le (fun E hE => ⟨_, hx0 E hE⟩), ocS_le (fun E hE => ⟨_, hx0 E hE⟩)⟩ rfl rfl (fun E hE => q_outX C hQ htab (ocC_of (hx0 E hE)) (ocS_of (hx0 E hE)) ⟨hx0 E hE, rfl⟩) (fun hk0 => ?_)
  have k0 := oc_none hk0
  have hL := idxL (k := n) (by have z := k0; rw [hn] at z; exact z) (by omega)
  refine q_aload_n (pc2 := 6) C 0 dX3_wanted_5 rfl rfl rfl ?_
  refine q_get (q0 := 0) (k := 6) (v := .ref (a 33)) (pc2 := 9) C hT3 f41 (wX_g0 ct a x) rfl (by decide) rfl rfl dX3_wanted_6 rfl ?_
  refine q_iload_n (pc2 := 10) C 1 dX3_wanted_9 rfl rfl rfl ?_
  refine q_cVN (pc2 := 13) (As := [.int lm]) (st := []) (st2 := [.int (wlX x lm.toNatClampNeg)]) (q0 := 0) (w2 := (wX ct a x)) (c2 := 0) (s2 := 0) C ((q_as (by rw [← hL.2]) (c_X2_wantedLevel l D ct a x lm.toNatClampNeg (by have := hL.1; omega) q hq hq8 hfd))) (⟨va_cnB 1 C.w gX3_wanted_X2_wantedLevel_n188 rfl rfl rfl (C.2.1.nm 18 rfl) (C.w (.initialized RX2) (by decide +kernel)) (by decide +kernel) ⟨Nat.le_of_ble_eq_true rfl, Nat.le_of_ble_eq_true rfl⟩, C.w (.instanceMethod yX2_wantedLevel) (by decide +kernel), C.w (.selects RX2 yX2_wantedLevel yX2_wantedLevel) (by decide +kernel)⟩) rfl rfl [17, 18, 19, 20, 21, 22, 23, 24, 25] [0, 1, 2, 3, 4, 5, 6, 7, 8, 9, 10, 11, 12, 13, 14, 15, 16] [0, 1, 2, 3, 4, 5, 6, 7, 8, 9, 10, 11, 12, 13, 14, 15, 16, 17, 18, 19, 20, 21, 22, 23, 24, 25] rfl rfl (by decide) (by decide) (by decide) rfl (by decide) dX3_wanted_10 rfl rfl (Nat.le_of_ble_eq_true rfl) ⟨Nat.zero_le _, Nat.zero_le _⟩ rfl rfl rfl rfl ?_
  exact q_zretX C hQ rfl (rfl) (Nat.zero_le _) (Nat.zero_le _) dX3_wanted_13 ⟨(by rw [if_pos k0]), rfl, rfl⟩

set_option maxHeartbeats 4000000 in
set_option maxRecDepth 100000 in
theorem c_X3_wantedByCues (l : Launch) (hl : l.stackTraces = false) (D : va_G) (ct : Nat → ClassId) (a : Nat → Nat) (x : Nat → Nat → Int32) (n : Nat) (hn : x 0 0 = nI n) (hn10 : n ≤ 10) (q : Nat) (hq : x 16 0 = nI q) (hq8 : q ≤ 8) (hfd : ∀ c, c < 8 → fadeOk (x 17 c)) (lm : Int32) : qMX l yX3_wantedByCues wsX3_wantedByCues ({ frames := 7, cells := (ocC (if (0 ≤ lm ∧ lm < x 0 0) then none else some eI)), slots := (ocS (if (0 ≤ lm ∧ lm < x 0 0) then none else some eI)), locals := 111 }) D ct [.ref (a 30), .int lm] (wX ct a x) (qDo (if (0 ≤ lm ∧ lm < x 0 0) then none else some eI) (some (.int (wlX x lm.toNatClampNeg))) (wX ct a x)) (qDx (if (0 ≤ lm ∧ lm < x 0 0) then none else some eI) (wX ct a x)) (ocC (if (0 ≤ lm ∧ lm < x 0 0) then none else some eI)) (ocS (if (0 ≤ lm ∧ lm < x 0 0) then none else some eI)) := by
  refine q_startX (ret := some .int) (lv := [(0, .ref (a 30)), (1, .int lm)]) (by decide +kernel) rfl (Nat.le_of_ble_eq_true rfl) rfl ?_
  intro p e s m args below meth c A Q C hQ htab
  have hT3 : ∀ w ∈ u_ws RX3 TX3 7, w ∈ wsX3_wantedByCues := by decide +kernel
  have f41 : (Cond.fieldLink RX3 41 "PlotPatch" "show" "LPlotPatch$Show;").before args s = true := C.w _ (by decide +kernel)
  refine q_aload_n (pc2 := 1) C 0 dX3_wantedByCues_0 rfl rfl rfl ?_
  refine q_iload_n (pc2 := 2) C 1 dX3_wantedByCues_1 rfl rfl rfl ?_
  have hx0 : ∀ E : String, (if (0 ≤ lm ∧ lm < x 0 0) then none else some eI) = some E → (if (0 ≤ lm ∧ lm < x 0 0) then none else some eI) = some E := fun E hE => by obtain ⟨hc, rfl⟩ := oc_some hE; exact (by rw [if_neg hc])
  refine q_tV (pc2 := 5) (As := [.int lm]) (st := []) (st2 := []) (b := (a 30)) (q0 := 0) (w2 := (wX ct a x)) C (c_X3_checkLamp l hl D ct a x lm) (cwV 1 C.w gX3_wantedByCues_X3_checkLamp rfl rfl rfl (by decide +kernel) ⟨Nat.le_of_ble_eq_true rfl, Nat.le_of_ble_eq_true rfl⟩) (wX_g0 ct a x) rfl [0, 1, 2, 3, 4, 5, 6, 7, 8, 9, 10, 11, 12, 13, 14, 15, 16, 17, 18, 19, 20, 21, 22, 23, 24, 25] [] [0, 1, 2, 3, 4, 5, 6, 7, 8, 9, 10, 11, 12, 13, 14, 15, 16, 17, 18, 19, 20, 21, 22, 23, 24, 25] rfl rfl (by decide) (by decide) (by decide) rfl (by decide) rfl dX3_wantedByCues_2 rfl rfl (Nat.le_of_ble_eq_true rfl) ⟨ocC_le (fun E hE => ⟨_, hx0 E hE⟩), ocS_le (fun E hE => ⟨_, hx0 E hE⟩)⟩ rfl rfl (fun E hE => q_outX C hQ htab (ocC_of (hx0 E hE)) (ocS_of (hx0 E hE)) ⟨hx0 E hE, rfl⟩) (fun hk0 => ?_)
  have k0 := oc_none hk0
  have hL := idxL (k := n) (by have z := k0; rw [hn] at z; exact z) (by omega)
  refine q_aload_n (pc2 := 6) C 0 dX3_wantedByCues_5 rfl rfl rfl ?_
  refine q_get (q0 := 0) (k := 6) (v := .ref (a 33)) (pc2 := 9) C hT3 f41 (wX_g0 ct a x) rfl (by decide) rfl rfl dX3_wantedByCues_6 rfl ?_
  refine q_iload_n (pc2 := 10) C 1 dX3_wantedByCues_9 rfl rfl rfl ?_
  refine q_cVN (pc2 := 13) (As := [.int lm]) (st := []) (st2 := [.int (wlX x lm.toNatClampNeg)]) (q0 := 0) (w2 := (wX ct a x)) (c2 := 0) (s2 := 0) C ((q_as (by rw [← hL.2]) (c_X2_wantedLevel l D ct a x lm.toNatClampNeg (by have := hL.1; omega) q hq hq8 hfd))) (⟨va_cnB 1 C.w gX3_wantedByCues_X2_wantedLevel_n188 rfl rfl rfl (C.2.1.nm 18 rfl) (C.w (.initialized RX2) (by decide +kernel)) (by decide +kernel) ⟨Nat.le_of_ble_eq_true rfl, Nat.le_of_ble_eq_true rfl⟩, C.w (.instanceMethod yX2_wantedLevel) (by decide +kernel), C.w (.selects RX2 yX2_wantedLevel yX2_wantedLevel) (by decide +kernel)⟩) rfl rfl [17, 18, 19, 20, 21, 22, 23, 24, 25] [0, 1, 2, 3, 4, 5, 6, 7, 8, 9, 10, 11, 12, 13, 14, 15, 16] [0, 1, 2, 3, 4, 5, 6, 7, 8, 9, 10, 11, 12, 13, 14, 15, 16, 17, 18, 19, 20, 21, 22, 23, 24, 25] rfl rfl (by decide) (by decide) (by decide) rfl (by decide) dX3_wantedByCues_10 rfl rfl (Nat.le_of_ble_eq_true rfl) ⟨Nat.zero_le _, Nat.zero_le _⟩ rfl rfl rfl rfl ?_
  exact q_zretX C hQ rfl (rfl) (Nat.zero_le _) (Nat.zero_le _) dX3_wantedByCues_13 ⟨(by rw [if_pos k0]), rfl, rfl⟩

set_option maxHeartbeats 4000000 in
set_option maxRecDepth 100000 in
theorem c_X3_bulb (l : Launch) (hl : l.stackTraces = false) (D : va_G) (ct : Nat → ClassId) (a : Nat → Nat) (x : Nat → Nat → Int32) (n : Nat) (hn : x 0 0 = nI n) (hn10 : n ≤ 10) (lm : Int32) : qMX l yX3_bulb wsX3_bulb ({ frames := 7, cells := (ocC (if (0 ≤ lm ∧ lm < x 0 0) then none else some eI)), slots := (ocS (if (0 ≤ lm ∧ lm < x 0 0) then none else some eI)), locals := 111 }) D ct [.ref (a 30), .int lm] (wX ct a x) (qDo (if (0 ≤ lm ∧ lm < x 0 0) then none else some eI) (some (.int (b2 ((b2 (x 3 lm.toNatClampNeg = 0)) = 0)))) (wX ct a (set2 x 3 (upd (x 3) lm.toNatClampNeg (b2 (x 3 lm.toNatClampNeg = 0)))))) (qDx (if (0 ≤ lm ∧ lm < x 0 0) then none else some eI) (wX ct a x)) (ocC (if (0 ≤ lm ∧ lm < x 0 0) then none else some eI)) (ocS (if (0 ≤ lm ∧ lm < x 0 0) then none else some eI)) := by
  refine q_startX (ret := some .boolean) (lv := [(0, .ref (a 30)), (1, .int lm)]) (by decide +kernel) rfl (Nat.le_of_ble_eq_true rfl) rfl ?_
  intro p e s m args below meth c A Q C hQ htab
  have hT3 : ∀ w ∈ u_ws RX3 TX3 7, w ∈ wsX3_bulb := by decide +kernel
  have f20 : (Cond.fieldLink RX3 20 "PlotPatch" "deaths" "[Z").before args s = true := C.w _ (by decide +kernel)
  refine q_aload_n (pc2 := 1) C 0 dX3_bulb_0 rfl rfl rfl ?_
  refine q_iload_n (pc2 := 2) C 1 dX3_bulb_1 rfl rfl rfl ?_
  have hx0 : ∀ E : String, (if (0 ≤ lm ∧ lm < x 0 0) then none else some eI) = some E → (if (0 ≤ lm ∧ lm < x 0 0) then none else some eI) = some E := fun E hE => by obtain ⟨hc, rfl⟩ := oc_some hE; exact (by rw [if_neg hc])
  refine q_tV (pc2 := 5) (As := [.int lm]) (st := []) (st2 := []) (b := (a 30)) (q0 := 0) (w2 := (wX ct a x)) C (c_X3_checkLamp l hl D ct a x lm) (cwV 1 C.w gX3_bulb_X3_checkLamp rfl rfl rfl (by decide +kernel) ⟨Nat.le_of_ble_eq_true rfl, Nat.le_of_ble_eq_true rfl⟩) (wX_g0 ct a x) rfl [0, 1, 2, 3, 4, 5, 6, 7, 8, 9, 10, 11, 12, 13, 14, 15, 16, 17, 18, 19, 20, 21, 22, 23, 24, 25] [] [0, 1, 2, 3, 4, 5, 6, 7, 8, 9, 10, 11, 12, 13, 14, 15, 16, 17, 18, 19, 20, 21, 22, 23, 24, 25] rfl rfl (by decide) (by decide) (by decide) rfl (by decide) rfl dX3_bulb_2 rfl rfl (Nat.le_of_ble_eq_true rfl) ⟨ocC_le (fun E hE => ⟨_, hx0 E hE⟩), ocS_le (fun E hE => ⟨_, hx0 E hE⟩)⟩ rfl rfl (fun E hE => q_outX C hQ htab (ocC_of (hx0 E hE)) (ocS_of (hx0 E hE)) ⟨hx0 E hE, rfl⟩) (fun hk0 => ?_)
  have k0 := oc_none hk0
  have hL := idxL (k := n) (by have z := k0; rw [hn] at z; exact z) (by omega)
  refine q_aload_n (pc2 := 6) C 0 dX3_bulb_5 rfl rfl rfl ?_
  refine q_get (q0 := 0) (k := 3) (v := .ref (a 3)) (pc2 := 9) C hT3 f20 (wX_g0 ct a x) rfl (by decide) rfl rfl dX3_bulb_6 rfl ?_
  refine q_iload_n (pc2 := 10) C 1 dX3_bulb_9 rfl rfl rfl ?_
  have hj24 : Cf p l e ({ frames := 7, cells := (ocC (if (0 ≤ lm ∧ lm < x 0 0) then none else some eI)), slots := (ocS (if (0 ≤ lm ∧ lm < x 0 0) then none else some eI)), locals := 111 }) s m args below meth c D A 2 0 0 Q 24 [(0, .ref (a 30)), (1, .int lm)] [.int (b2 (x 3 lm.toNatClampNeg = 0)), .int lm, .ref (a 3)] (wX ct a x) := by
    refine q_zast (q0 := 3) (f := (x 3)) (ws' := (wX ct a (set2 x 3 (upd (x 3) lm.toNatClampNeg (b2 (x 3 lm.toNatClampNeg = 0)))))) (pc2 := 25) C lm.toNatClampNeg (wX_g3 ct a x) rfl (hL.2) (by have := hL.1; omega) (by decide) (vp_b2 _) (wX_a3 ct a x (upd (x 3) lm.toNatClampNeg (b2 (x 3 lm.toNatClampNeg = 0)))) dX3_bulb_24 rfl ?_
    have hj39 : Cf p l e ({ frames := 7, cells := (ocC (if (0 ≤ lm ∧ lm < x 0 0) then none else some eI)), slots := (ocS (if (0 ≤ lm ∧ lm < x 0 0) then none else some eI)), locals := 111 }) s m args below meth c D A 2 0 0 Q 39 [(0, .ref (a 30)), (1, .int lm)] [.int (b2 ((b2 (x 3 lm.toNatClampNeg = 0)) = 0))] (wX ct a (set2 x 3 (upd (x 3) lm.toNatClampNeg (b2 (x 3 lm.toNatClampNeg = 0))))) := by
      exact q_zretX C hQ rfl (b2_nar _) (Nat.zero_le _) (Nat.zero_le _) dX3_bulb_39 ⟨(by rw [if_pos k0]), rfl, rfl⟩
    refine q_aload_n (pc2 := 26) C 0 dX3_bulb_25 rfl rfl rfl ?_
    refine q_get (q0 := 0) (k := 3) (v := .ref (a 3)) (pc2 := 29) C hT3 f20 (wX_g0 ct a (set2 x 3 (upd (x 3) lm.toNatClampNeg (b2 (x 3 lm.toNatClampNeg = 0))))) rfl (by decide) rfl rfl dX3_bulb_26 rfl ?_
    refine q_iload_n (pc2 := 30) C 1 dX3_bulb_29 rfl rfl rfl ?_
    refine q_zald (q0 := 3) (f := (upd (x 3) lm.toNatClampNeg (b2 (x 3 lm.toNatClampNeg = 0)))) (pc2 := 31) C lm.toNatClampNeg (wX_g3 ct a (set2 x 3 (upd (x 3) lm.toNatClampNeg (b2 (x 3 lm.toNatClampNeg = 0))))) rfl (hL.2) (by have := hL.1; omega) (by decide) dX3_bulb_30 rfl ?_
    refine q_eqi (y := (b2 (x 3 lm.toNatClampNeg = 0))) (upd_s) ?_
    refine q_if_ne (tgt := 38) (pc2 := 34) C dX3_bulb_31 (by decide) rfl (fun c31 => ?_) (fun c31 => ?_)
    · skip
      refine q_iconst (v := 0) (pc2 := 39) C dX3_bulb_38 (by decide) rfl ?_
      refine q_eqi (y := (b2 ((b2 (x 3 lm.toNatClampNeg = 0)) = 0))) ((b2_f (fun z : (b2 (x 3 lm.toNatClampNeg = 0)) = 0 => absurd z (c31))).symm) ?_
      exact hj39
    · skip
      refine q_iconst (v := 1) (pc2 := 35) C dX3_bulb_34 (by decide) rfl ?_
      refine q_goto (pc2 := 39) C dX3_bulb_35 (by decide) ?_
      refine q_eqi (y := (b2 ((b2 (x 3 lm.toNatClampNeg = 0)) = 0))) ((b2_t (c := (b2 (x 3 lm.toNatClampNeg = 0)) = 0) (c31)).symm) ?_
      exact hj39
  refine q_aload_n (pc2 := 11) C 0 dX3_bulb_10 rfl rfl rfl ?_
  refine q_get (q0 := 0) (k := 3) (v := .ref (a 3)) (pc2 := 14) C hT3 f20 (wX_g0 ct a x) rfl (by decide) rfl rfl dX3_bulb_11 rfl ?_
  refine q_iload_n (pc2 := 15) C 1 dX3_bulb_14 rfl rfl rfl ?_
  refine q_zald (q0 := 3) (f := (x 3)) (pc2 := 16) C lm.toNatClampNeg (wX_g3 ct a x) rfl (hL.2) (by have := hL.1; omega) (by decide) dX3_bulb_15 rfl ?_
  refine q_if_ne (tgt := 23) (pc2 := 19) C dX3_bulb_16 (by decide) rfl (fun c16 => ?_) (fun c16 => ?_)
  · skip
    refine q_iconst (v := 0) (pc2 := 24) C dX3_bulb_23 (by decide) rfl ?_
    refine q_eqi (y := (b2 (x 3 lm.toNatClampNeg = 0))) ((b2_f (fun z : x 3 lm.toNatClampNeg = 0 => absurd z (c16))).symm) ?_
    exact hj24
  · skip
    refine q_iconst (v := 1) (pc2 := 20) C dX3_bulb_19 (by decide) rfl ?_
    refine q_goto (pc2 := 24) C dX3_bulb_20 (by decide) ?_
    refine q_eqi (y := (b2 (x 3 lm.toNatClampNeg = 0))) ((b2_t (c := x 3 lm.toNatClampNeg = 0) (c16)).symm) ?_
    exact hj24

set_option maxHeartbeats 4000000 in
set_option maxRecDepth 100000 in
theorem c_X3_standIn (l : Launch) (hl : l.stackTraces = false) (D : va_G) (ct : Nat → ClassId) (a : Nat → Nat) (x : Nat → Nat → Int32) (n : Nat) (hn : x 0 0 = nI n) (hn10 : n ≤ 10) (q : Nat) (hq : x 16 0 = nI q) (hq8 : q ≤ 8) (dead other : Int32) : qMX l yX3_standIn wsX3_standIn ({ frames := 7, cells := (ocC (if (0 ≤ dead ∧ dead < x 0 0) then (if (0 ≤ other ∧ other < x 0 0) then (if (dead ≠ other) then (if (x 3 dead.toNatClampNeg ≠ 0 ∧ x 3 other.toNatClampNeg = 0) then none else some eS) else some eA) else some eI) else some eI)), slots := (ocS (if (0 ≤ dead ∧ dead < x 0 0) then (if (0 ≤ other ∧ other < x 0 0) then (if (dead ≠ other) then (if (x 3 dead.toNatClampNeg ≠ 0 ∧ x 3 other.toNatClampNeg = 0) then none else some eS) else some eA) else some eI) else some eI)), locals := 111 }) D ct [.ref (a 30), .int dead, .int other] (wX ct a x) (qDo (if (0 ≤ dead ∧ dead < x 0 0) then (if (0 ≤ other ∧ other < x 0 0) then (if (dead ≠ other) then (if (x 3 dead.toNatClampNeg ≠ 0 ∧ x 3 other.toNatClampNeg = 0) then none else some eS) else some eA) else some eI) else some eI) (some (.int (hov (x 20) dead.toNatClampNeg other.toNatClampNeg q).2)) (wX ct a (set2 x 20 (hov (x 20) dead.toNatClampNeg other.toNatClampNeg q).1))) (qDx (if (0 ≤ dead ∧ dead < x 0 0) then (if (0 ≤ other ∧ other < x 0 0) then (if (dead ≠ other) then (if (x 3 dead.toNatClampNeg ≠ 0 ∧ x 3 other.toNatClampNeg = 0) then none else some eS) else some eA) else some eI) else some eI) (wX ct a x)) (ocC (if (0 ≤ dead ∧ dead < x 0 0) then (if (0 ≤ other ∧ other < x 0 0) then (if (dead ≠ other) then (if (x 3 dead.toNatClampNeg ≠ 0 ∧ x 3 other.toNatClampNeg = 0) then none else some eS) else some eA) else some eI) else some eI)) (ocS (if (0 ≤ dead ∧ dead < x 0 0) then (if (0 ≤ other ∧ other < x 0 0) then (if (dead ≠ other) then (if (x 3 dead.toNatClampNeg ≠ 0 ∧ x 3 other.toNatClampNeg = 0) then none else some eS) else some eA) else some eI) else some eI)) := by
  refine q_startX (ret := some .int) (lv := [(0, .ref (a 30)), (1, .int dead), (2, .int other)]) (by decide +kernel) rfl (Nat.le_of_ble_eq_true rfl) rfl ?_
  intro p e s m args below meth c A Q C hQ htab
  have hT3 : ∀ w ∈ u_ws RX3 TX3 7, w ∈ wsX3_standIn := by decide +kernel
  have f20 : (Cond.fieldLink RX3 20 "PlotPatch" "deaths" "[Z").before args s = true := C.w _ (by decide +kernel)
  have f41 : (Cond.fieldLink RX3 41 "PlotPatch" "show" "LPlotPatch$Show;").before args s = true := C.w _ (by decide +kernel)
  refine q_aload_n (pc2 := 1) C 0 dX3_standIn_0 rfl rfl rfl ?_
  refine q_iload_n (pc2 := 2) C 1 dX3_standIn_1 rfl rfl rfl ?_
  have hx0 : ∀ E : String, (if (0 ≤ dead ∧ dead < x 0 0) then none else some eI) = some E → (if (0 ≤ dead ∧ dead < x 0 0) then (if (0 ≤ other ∧ other < x 0 0) then (if (dead ≠ other) then (if (x 3 dead.toNatClampNeg ≠ 0 ∧ x 3 other.toNatClampNeg = 0) then none else some eS) else some eA) else some eI) else some eI) = some E := fun E hE => by obtain ⟨hc, rfl⟩ := oc_some hE; exact (by rw [if_neg hc])
  refine q_tV (pc2 := 5) (As := [.int dead]) (st := []) (st2 := []) (b := (a 30)) (q0 := 0) (w2 := (wX ct a x)) C (c_X3_checkLamp l hl D ct a x dead) (cwV 1 C.w gX3_standIn_X3_checkLamp rfl rfl rfl (by decide +kernel) ⟨Nat.le_of_ble_eq_true rfl, Nat.le_of_ble_eq_true rfl⟩) (wX_g0 ct a x) rfl [0, 1, 2, 3, 4, 5, 6, 7, 8, 9, 10, 11, 12, 13, 14, 15, 16, 17, 18, 19, 20, 21, 22, 23, 24, 25] [] [0, 1, 2, 3, 4, 5, 6, 7, 8, 9, 10, 11, 12, 13, 14, 15, 16, 17, 18, 19, 20, 21, 22, 23, 24, 25] rfl rfl (by decide) (by decide) (by decide) rfl (by decide) rfl dX3_standIn_2 rfl rfl (Nat.le_of_ble_eq_true rfl) ⟨ocC_le (fun E hE => ⟨_, hx0 E hE⟩), ocS_le (fun E hE => ⟨_, hx0 E hE⟩)⟩ rfl rfl (fun E hE => q_outX C hQ htab (ocC_of (hx0 E hE)) (ocS_of (hx0 E hE)) ⟨hx0 E hE, rfl⟩) (fun hk0 => ?_)
  have k0 := oc_none hk0
  have hDe := idxL (k := n) (by have z := k0; rw [hn] at z; exact z) (by omega)
  refine q_aload_n (pc2 := 6) C 0 dX3_standIn_5 rfl rfl rfl ?_
  refine q_iload_n (pc2 := 7) C 2 dX3_standIn_6 rfl rfl rfl ?_
  have hx1 : ∀ E : String, (if (0 ≤ other ∧ other < x 0 0) then none else some eI) = some E → (if (0 ≤ dead ∧ dead < x 0 0) then (if (0 ≤ other ∧ other < x 0 0) then (if (dead ≠ other) then (if (x 3 dead.toNatClampNeg ≠ 0 ∧ x 3 other.toNatClampNeg = 0) then none else some eS) else some eA) else some eI) else some eI) = some E := fun E hE => by obtain ⟨hc, rfl⟩ := oc_some hE; exact (by rw [if_pos k0, if_neg hc])
  refine q_tV (pc2 := 10) (As := [.int other]) (st := []) (st2 := []) (b := (a 30)) (q0 := 0) (w2 := (wX ct a x)) C (c_X3_checkLamp l hl D ct a x other) (cwV 1 C.w gX3_standIn_X3_checkLamp rfl rfl rfl (by decide +kernel) ⟨Nat.le_of_ble_eq_true rfl, Nat.le_of_ble_eq_true rfl⟩) (wX_g0 ct a x) rfl [0, 1, 2, 3, 4, 5, 6, 7, 8, 9, 10, 11, 12, 13, 14, 15, 16, 17, 18, 19, 20, 21, 22, 23, 24, 25] [] [0, 1, 2, 3, 4, 5, 6, 7, 8, 9, 10, 11, 12, 13, 14, 15, 16, 17, 18, 19, 20, 21, 22, 23, 24, 25] rfl rfl (by decide) (by decide) (by decide) rfl (by decide) rfl dX3_standIn_7 rfl rfl (Nat.le_of_ble_eq_true rfl) ⟨ocC_le (fun E hE => ⟨_, hx1 E hE⟩), ocS_le (fun E hE => ⟨_, hx1 E hE⟩)⟩ rfl rfl (fun E hE => q_outX C hQ htab (ocC_of (hx1 E hE)) (ocS_of (hx1 E hE)) ⟨hx1 E hE, rfl⟩) (fun hk1 => ?_)
  have k1 := oc_none hk1
  have hOt := idxL (k := n) (by have z := k1; rw [hn] at z; exact z) (by omega)
  refine q_iload_n (pc2 := 11) C 1 dX3_standIn_10 rfl rfl rfl ?_
  refine q_iload_n (pc2 := 12) C 2 dX3_standIn_11 rfl rfl rfl ?_
  refine q_icmp_ne (tgt := 25) (pc2 := 15) C dX3_standIn_12 (by decide) rfl (fun c12 => ?_) (fun c12 => ?_)
  · skip
    have k2 : (dead ≠ other) := c12
    refine q_aload_n (pc2 := 26) C 0 dX3_standIn_25 rfl rfl rfl ?_
    refine q_get (q0 := 0) (k := 3) (v := .ref (a 3)) (pc2 := 29) C hT3 f20 (wX_g0 ct a x) rfl (by decide) rfl rfl dX3_standIn_26 rfl ?_
    refine q_iload_n (pc2 := 30) C 1 dX3_standIn_29 rfl rfl rfl ?_
    refine q_zald (q0 := 3) (f := (x 3)) (pc2 := 31) C dead.toNatClampNeg (wX_g3 ct a x) rfl (hDe.2) (by have := hDe.1; omega) (by decide) dX3_standIn_30 rfl ?_
    refine q_if_eq (tgt := 43) (pc2 := 34) C dX3_standIn_31 (by decide) rfl (fun c31 => ?_) (fun c31 => ?_)
    · skip
      have hoc : (if (0 ≤ dead ∧ dead < x 0 0) then (if (0 ≤ other ∧ other < x 0 0) then (if (dead ≠ other) then (if (x 3 dead.toNatClampNeg ≠ 0 ∧ x 3 other.toNatClampNeg = 0) then none else some eS) else some eA) else some eI) else some eI) = some eS := (by rw [if_pos k0, if_pos k1, if_pos k2, if_neg (fun z => z.1 c31)])
      exact q_throwS C hl hQ htab (cls := "java/lang/IllegalStateException") (names := ["java/lang/RuntimeException", "java/lang/Exception"]) rfl 7 rfl (by decide +kernel) (by decide +kernel) (C.w (.classLink RX3 59 "java/lang/IllegalStateException") (by decide +kernel)) (C.w (.initialized "java/lang/IllegalStateException") (by decide +kernel)) (q_atS C.2.1 (fun w hw => C.w w (List.mem_cons_of_mem _ (List.mem_append_left _ (List.mem_append_right _ hw)))) q_ng2 (by decide +kernel)) q_ot2 dX3_standIn_43 dX3_standIn_46 dX3_standIn_47 dX3_standIn_49 dX3_standIn_52 (Nat.le_of_ble_eq_true rfl) (Nat.le_of_ble_eq_true rfl) (ocC_of hoc) (ocS_of hoc) (ocC_of hoc) (ocS_of hoc) ⟨hoc, rfl⟩
    · skip
      refine q_aload_n (pc2 := 35) C 0 dX3_standIn_34 rfl rfl rfl ?_
      refine q_get (q0 := 0) (k := 3) (v := .ref (a 3)) (pc2 := 38) C hT3 f20 (wX_g0 ct a x) rfl (by decide) rfl rfl dX3_standIn_35 rfl ?_
      refine q_iload_n (pc2 := 39) C 2 dX3_standIn_38 rfl rfl rfl ?_
      refine q_zald (q0 := 3) (f := (x 3)) (pc2 := 40) C other.toNatClampNeg (wX_g3 ct a x) rfl (hOt.2) (by have := hOt.1; omega) (by decide) dX3_standIn_39 rfl ?_
      refine q_if_eq (tgt := 53) (pc2 := 43) C dX3_standIn_40 (by decide) rfl (fun c40 => ?_) (fun c40 => ?_)
      · skip
        have k3 : (x 3 dead.toNatClampNeg ≠ 0 ∧ x 3 other.toNatClampNeg = 0) := ⟨c31, c40⟩
        refine q_aload_n (pc2 := 54) C 0 dX3_standIn_53 rfl rfl rfl ?_
        refine q_get (q0 := 0) (k := 6) (v := .ref (a 33)) (pc2 := 57) C hT3 f41 (wX_g0 ct a x) rfl (by decide) rfl rfl dX3_standIn_54 rfl ?_
        refine q_iload_n (pc2 := 58) C 1 dX3_standIn_57 rfl rfl rfl ?_
        refine q_iload_n (pc2 := 59) C 2 dX3_standIn_58 rfl rfl rfl ?_
        refine q_cVN (pc2 := 62) (As := [.int dead, .int other]) (st := []) (st2 := [.int (hov (x 20) dead.toNatClampNeg other.toNatClampNeg q).2]) (q0 := 0) (w2 := (wX ct a (set2 x 20 (hov (x 20) dead.toNatClampNeg other.toNatClampNeg q).1))) (c2 := 0) (s2 := 0) C ((q_as (by rw [← hDe.2, ← hOt.2]) (c_X2_handOver l D ct a x q hq hq8 dead.toNatClampNeg (by have := hDe.1; omega) other.toNatClampNeg (by have := hOt.1; omega)))) (⟨va_cnB 2 C.w gX3_standIn_X2_handOver_n198 rfl rfl rfl (C.2.1.nm 19 rfl) (C.w (.initialized RX2) (by decide +kernel)) (by decide +kernel) ⟨Nat.le_of_ble_eq_true rfl, Nat.le_of_ble_eq_true rfl⟩, C.w (.instanceMethod yX2_handOver) (by decide +kernel), C.w (.selects RX2 yX2_handOver yX2_handOver) (by decide +kernel)⟩) rfl rfl [17, 18, 19, 20, 21, 22, 23, 24, 25] [0, 1, 2, 3, 4, 5, 6, 7, 8, 9, 10, 11, 12, 13, 14, 15, 16] [0, 1, 2, 3, 4, 5, 6, 7, 8, 9, 10, 11, 12, 13, 14, 15, 16, 17, 18, 19, 20, 21, 22, 23, 24, 25] rfl rfl (by decide) (by decide) (by decide) rfl (by decide) dX3_standIn_59 rfl rfl (Nat.le_of_ble_eq_true rfl) ⟨Nat.zero_le _, Nat.zero_le _⟩ rfl rfl rfl rfl ?_
        exact q_zretX C hQ rfl (rfl) (Nat.zero_le _) (Nat.zero_le _) dX3_standIn_62 ⟨(by rw [if_pos k0, if_pos k1, if_pos k2, if_pos k3]), rfl, rfl⟩
      · skip
        have hoc : (if (0 ≤ dead ∧ dead < x 0 0) then (if (0 ≤ other ∧ other < x 0 0) then (if (dead ≠ other) then (if (x 3 dead.toNatClampNeg ≠ 0 ∧ x 3 other.toNatClampNeg = 0) then none else some eS) else some eA) else some eI) else some eI) = some eS := (by rw [if_pos k0, if_pos k1, if_pos k2, if_neg (fun z => c40 z.2)])
        exact q_throwS C hl hQ htab (cls := "java/lang/IllegalStateException") (names := ["java/lang/RuntimeException", "java/lang/Exception"]) rfl 7 rfl (by decide +kernel) (by decide +kernel) (C.w (.classLink RX3 59 "java/lang/IllegalStateException") (by decide +kernel)) (C.w (.initialized "java/lang/IllegalStateException") (by decide +kernel)) (q_atS C.2.1 (fun w hw => C.w w (List.mem_cons_of_mem _ (List.mem_append_left _ (List.mem_append_right _ hw)))) q_ng2 (by decide +kernel)) q_ot2 dX3_standIn_43 dX3_standIn_46 dX3_standIn_47 dX3_standIn_49 dX3_standIn_52 (Nat.le_of_ble_eq_true rfl) (Nat.le_of_ble_eq_true rfl) (ocC_of hoc) (ocS_of hoc) (ocC_of hoc) (ocS_of hoc) ⟨hoc, rfl⟩
  · skip
    have hoc : (if (0 ≤ dead ∧ dead < x 0 0) then (if (0 ≤ other ∧ other < x 0 0) then (if (dead ≠ other) then (if (x 3 dead.toNatClampNeg ≠ 0 ∧ x 3 other.toNatClampNeg = 0) then none else some eS) else some eA) else some eI) else some eI) = some eA := (by rw [if_pos k0, if_pos k1, if_neg (fun z => z c12)])
    exact q_throwS C hl hQ htab (cls := "java/lang/IllegalArgumentException") (names := ["java/lang/RuntimeException", "java/lang/Exception"]) rfl 6 rfl (by decide +kernel) (by decide +kernel) (C.w (.classLink RX3 191 "java/lang/IllegalArgumentException") (by decide +kernel)) (C.w (.initialized "java/lang/IllegalArgumentException") (by decide +kernel)) (q_atS C.2.1 (fun w hw => C.w w (List.mem_cons_of_mem _ (List.mem_append_left _ (List.mem_append_left _ (List.mem_append_right _ hw))))) q_ng1 (by decide +kernel)) q_ot1 dX3_standIn_15 dX3_standIn_18 dX3_standIn_19 dX3_standIn_21 dX3_standIn_24 (Nat.le_of_ble_eq_true rfl) (Nat.le_of_ble_eq_true rfl) (ocC_of hoc) (ocS_of hoc) (ocC_of hoc) (ocS_of hoc) ⟨hoc, rfl⟩

set_option maxHeartbeats 4000000 in
set_option maxRecDepth 100000 in
theorem c_X3_colour (l : Launch) (hl : l.stackTraces = false) (D : va_G) (ct : Nat → ClassId) (a : Nat → Nat) (x : Nat → Nat → Int32) (n : Nat) (hn : x 0 0 = nI n) (hn10 : n ≤ 10) (lm col : Int32) : qMX l yX3_colour wsX3_colour ({ frames := 7, cells := (ocC (if (0 ≤ lm ∧ lm < x 0 0) then (if (0 ≤ col ∧ col ≤ 20) then none else some eA) else some eI)), slots := (ocS (if (0 ≤ lm ∧ lm < x 0 0) then (if (0 ≤ col ∧ col ≤ 20) then none else some eA) else some eI)), locals := 112 }) D ct [.ref (a 30), .int lm, .int col] (wX ct a x) (qDo (if (0 ≤ lm ∧ lm < x 0 0) then (if (0 ≤ col ∧ col ≤ 20) then none else some eA) else some eI) (some (.int (x 1 lm.toNatClampNeg))) (wX ct a (set2 (set2 x 1 (upd (x 1) lm.toNatClampNeg col)) 2 (upd (x 2) lm.toNatClampNeg 0)))) (qDx (if (0 ≤ lm ∧ lm < x 0 0) then (if (0 ≤ col ∧ col ≤ 20) then none else some eA) else some eI) (wX ct a x)) (ocC (if (0 ≤ lm ∧ lm < x 0 0) then (if (0 ≤ col ∧ col ≤ 20) then none else some eA) else some eI)) (ocS (if (0 ≤ lm ∧ lm < x 0 0) then (if (0 ≤ col ∧ col ≤ 20) then none else some eA) else some eI)) := by
  refine q_startX (ret := some .int) (lv := [(0, .ref (a 30)), (1, .int lm), (2, .int col)]) (by decide +kernel) rfl (Nat.le_of_ble_eq_true rfl) rfl ?_
  intro p e s m args below meth c A Q C hQ htab
  have hT3 : ∀ w ∈ u_ws RX3 TX3 7, w ∈ wsX3_colour := by decide +kernel
  have f13 : (Cond.fieldLink RX3 13 "PlotPatch" "colours" "[I").before args s = true := C.w _ (by decide +kernel)
  have f17 : (Cond.fieldLink RX3 17 "PlotPatch" "burns" "[I").before args s = true := C.w _ (by decide +kernel)
  refine q_aload_n (pc2 := 1) C 0 dX3_colour_0 rfl rfl rfl ?_
  refine q_iload_n (pc2 := 2) C 1 dX3_colour_1 rfl rfl rfl ?_
  have hx0 : ∀ E : String, (if (0 ≤ lm ∧ lm < x 0 0) then none else some eI) = some E → (if (0 ≤ lm ∧ lm < x 0 0) then (if (0 ≤ col ∧ col ≤ 20) then none else some eA) else some eI) = some E := fun E hE => by obtain ⟨hc, rfl⟩ := oc_some hE; exact (by rw [if_neg hc])
  refine q_tV (pc2 := 5) (As := [.int lm]) (st := []) (st2 := []) (b := (a 30)) (q0 := 0) (w2 := (wX ct a x)) C (c_X3_checkLamp l hl D ct a x lm) (cwV 1 C.w gX3_colour_X3_checkLamp rfl rfl rfl (by decide +kernel) ⟨Nat.le_of_ble_eq_true rfl, Nat.le_of_ble_eq_true rfl⟩) (wX_g0 ct a x) rfl [0, 1, 2, 3, 4, 5, 6, 7, 8, 9, 10, 11, 12, 13, 14, 15, 16, 17, 18, 19, 20, 21, 22, 23, 24, 25] [] [0, 1, 2, 3, 4, 5, 6, 7, 8, 9, 10, 11, 12, 13, 14, 15, 16, 17, 18, 19, 20, 21, 22, 23, 24, 25] rfl rfl (by decide) (by decide) (by decide) rfl (by decide) rfl dX3_colour_2 rfl rfl (Nat.le_of_ble_eq_true rfl) ⟨ocC_le (fun E hE => ⟨_, hx0 E hE⟩), ocS_le (fun E hE => ⟨_, hx0 E hE⟩)⟩ rfl rfl (fun E hE => q_outX C hQ htab (ocC_of (hx0 E hE)) (ocS_of (hx0 E hE)) ⟨hx0 E hE, rfl⟩) (fun hk0 => ?_)
  have k0 := oc_none hk0
  have hL := idxL (k := n) (by have z := k0; rw [hn] at z; exact z) (by omega)
  refine q_iload_n (pc2 := 6) C 2 dX3_colour_5 rfl rfl rfl ?_
  refine q_iconst (v := 0) (pc2 := 7) C dX3_colour_6 (by decide) rfl ?_
  refine q_bipush (v := 20) (pc2 := 9) C dX3_colour_7 (by decide) rfl ?_
  have hx1 : ∀ E : String, (if (0 ≤ col ∧ col ≤ 20) then none else some eA) = some E → (if (0 ≤ lm ∧ lm < x 0 0) then (if (0 ≤ col ∧ col ≤ 20) then none else some eA) else some eI) = some E := fun E hE => by obtain ⟨hc, rfl⟩ := oc_some hE; exact (by rw [if_pos k0, if_neg hc])
  refine q_tS (pc2 := 12) (As := [.int col, .int 0, .int 20]) (st := []) (st2 := []) (w2 := (wX ct a x)) C (c_X3_checkRange l hl D ct col 0 20) (va_cwS 3 C.w gX3_colour_X3_checkRange rfl rfl rfl (by decide +kernel) ⟨Nat.le_of_ble_eq_true rfl, Nat.le_of_ble_eq_true rfl⟩) [] [0, 1, 2, 3, 4, 5, 6, 7, 8, 9, 10, 11, 12, 13, 14, 15, 16, 17, 18, 19, 20, 21, 22, 23, 24, 25] [0, 1, 2, 3, 4, 5, 6, 7, 8, 9, 10, 11, 12, 13, 14, 15, 16, 17, 18, 19, 20, 21, 22, 23, 24, 25] rfl rfl (by decide) (by decide) (by decide) rfl (by decide) rfl dX3_colour_9 rfl rfl (Nat.le_of_ble_eq_true rfl) ⟨ocC_le (fun E hE => ⟨_, hx1 E hE⟩), ocS_le (fun E hE => ⟨_, hx1 E hE⟩)⟩ rfl rfl (fun E hE => q_outX C hQ htab (ocC_of (hx1 E hE)) (ocS_of (hx1 E hE)) ⟨hx1 E hE, rfl⟩) (fun hk1 => ?_)
  have k1 := oc_none hk1
  refine q_aload_n (pc2 := 13) C 0 dX3_colour_12 rfl rfl rfl ?_
  refine q_get (q0 := 0) (k := 1) (v := .ref (a 1)) (pc2 := 16) C hT3 f13 (wX_g0 ct a x) rfl (by decide) rfl rfl dX3_colour_13 rfl ?_
  refine q_iload_n (pc2 := 17) C 1 dX3_colour_16 rfl rfl rfl ?_
  refine q_iald (q0 := 1) (f := (x 1)) (pc2 := 18) C lm.toNatClampNeg (wX_g1 ct a x) rfl (hL.2) (by have := hL.1; omega) (by decide) dX3_colour_17 rfl ?_
  refine q_istore_n (lv' := [(3, .int ((x 1) lm.toNatClampNeg)), (0, .ref (a 30)), (1, .int lm), (2, .int col)]) (pc2 := 19) C dX3_colour_18 rfl (by decide) rfl rfl ?_
  refine q_aload_n (pc2 := 20) C 1 dX3_colour_19 rfl rfl rfl ?_
  refine q_get (q0 := 0) (k := 1) (v := .ref (a 1)) (pc2 := 23) C hT3 f13 (wX_g0 ct a x) rfl (by decide) rfl rfl dX3_colour_20 rfl ?_
  refine q_iload_n (pc2 := 24) C 2 dX3_colour_23 rfl rfl rfl ?_
  refine q_iload_n (pc2 := 25) C 3 dX3_colour_24 rfl rfl rfl ?_
  refine q_iast (q0 := 1) (f := (x 1)) (ws' := (wX ct a (set2 x 1 (upd (x 1) lm.toNatClampNeg col)))) (pc2 := 26) C lm.toNatClampNeg (wX_g1 ct a x) rfl (hL.2) (by have := hL.1; omega) (by decide) (wX_a1 ct a x (upd (x 1) lm.toNatClampNeg col)) dX3_colour_25 rfl ?_
  refine q_aload_n (pc2 := 27) C 1 dX3_colour_26 rfl rfl rfl ?_
  refine q_get (q0 := 0) (k := 2) (v := .ref (a 2)) (pc2 := 30) C hT3 f17 (wX_g0 ct a (set2 x 1 (upd (x 1) lm.toNatClampNeg col))) rfl (by decide) rfl rfl dX3_colour_27 rfl ?_
  refine q_iload_n (pc2 := 31) C 2 dX3_colour_30 rfl rfl rfl ?_
  refine q_iconst (v := 0) (pc2 := 32) C dX3_colour_31 (by decide) rfl ?_
  refine q_iast (q0 := 2) (f := (x 2)) (ws' := (wX ct a (set2 (set2 x 1 (upd (x 1) lm.toNatClampNeg col)) 2 (upd (x 2) lm.toNatClampNeg 0)))) (pc2 := 33) C lm.toNatClampNeg (wX_g2 ct a (set2 x 1 (upd (x 1) lm.toNatClampNeg col))) rfl (hL.2) (by have := hL.1; omega) (by decide) (wX_a2 ct a (set2 x 1 (upd (x 1) lm.toNatClampNeg col)) (upd (x 2) lm.toNatClampNeg 0)) dX3_colour_32 rfl ?_
  refine q_iload_n (pc2 := 34) C 0 dX3_colour_33 rfl rfl rfl ?_
  exact q_zretX C hQ rfl (rfl) (Nat.zero_le _) (Nat.zero_le _) dX3_colour_34 ⟨(by rw [if_pos k0, if_pos k1]), rfl, rfl⟩

theorem or_0 (v : Int32) : v ||| 0 = v := by apply Int32.toBitVec_inj.mp; simp

set_option maxHeartbeats 4000000 in
set_option maxRecDepth 100000 in
theorem c_X3_burnt (l : Launch) (D : va_G) (ct : Nat → ClassId) (a : Nat → Nat) (x : Nat → Nat → Int32) (n : Nat) (hn : x 0 0 = nI n) (hn10 : n ≤ 10) : qM l yX3_burnt wsX3_burnt ({ frames := 0, cells := 0, slots := 0, locals := 0 }) D ct [.ref (a 30)] (wX ct a x) (qD (some (.int (orf (fun k => if 30 ≤ x 2 k then (1 <<< (nI k &&& 31) : Int32) else 0) n))) (wX ct a x)) 0 0 := by
  refine q_start (ret := some .int) (lv := [(0, .ref (a 30))]) (by decide +kernel) rfl (Nat.le_of_ble_eq_true rfl) rfl ?_
  intro p e s m args below meth c A Q C hQ hnm
  have hT3 : ∀ w ∈ u_ws RX3 TX3 7, w ∈ wsX3_burnt := by decide +kernel
  have f7 : (Cond.fieldLink RX3 7 "PlotPatch" "lampCount" "I").before args s = true := C.w _ (by decide +kernel)
  have f17 : (Cond.fieldLink RX3 17 "PlotPatch" "burns" "[I").before args s = true := C.w _ (by decide +kernel)
  refine q_iconst (v := 0) (pc2 := 1) C dX3_burnt_0 (by decide) rfl ?_
  refine q_istore_n (lv' := [(1, .int 0), (0, .ref (a 30))]) (pc2 := 2) C dX3_burnt_1 rfl (by decide) rfl rfl ?_
  refine q_iconst (v := 0) (pc2 := 3) C dX3_burnt_2 (by decide) rfl ?_
  refine q_istore_n (lv' := [(2, .int 0), (1, .int 0), (0, .ref (a 30))]) (pc2 := 4) C dX3_burnt_3 rfl (by decide) rfl rfl ?_
  refine q_lv (lv' := [(2, .int 0), (1, .int 0), (0, .ref (a 30))]) [0, 1, 2] rfl ?_
  refine lp_up (P := fun i => Cf p l e ({ frames := 0, cells := 0, slots := 0, locals := 0 }) s m args below meth c D A 3 0 0 Q 4 [(2, .int (nI i)), (1, .int (orf (fun k => if 30 ≤ x 2 k then (1 <<< (nI k &&& 31) : Int32) else 0) i)), (0, .ref (a 30))] [] (wX ct a x)) (n) (fun i hi ihi => ?_) ?_
  · skip
    refine q_iload_n (pc2 := 5) C 0 dX3_burnt_4 rfl rfl rfl ?_
    refine q_aload_n (pc2 := 6) C 2 dX3_burnt_5 rfl rfl rfl ?_
    refine q_get (q0 := 0) (k := 0) (v := .int (x 0 0)) (pc2 := 9) C hT3 f7 (wX_g0 ct a x) rfl (by decide) rfl rfl dX3_burnt_6 rfl ?_
    refine q_icmp_ge (tgt := 35) (pc2 := 12) C dX3_burnt_9 (by decide) rfl (fun c9 => (q_absurd (a := n) (b := i) (show nI n ≤ nI i by rw [← hn]; exact c9) hi (by omega))) (fun _ => ?_)
    refine q_aload_n (pc2 := 13) C 2 dX3_burnt_12 rfl rfl rfl ?_
    refine q_get (q0 := 0) (k := 2) (v := .ref (a 2)) (pc2 := 16) C hT3 f17 (wX_g0 ct a x) rfl (by decide) rfl rfl dX3_burnt_13 rfl ?_
    refine q_iload_n (pc2 := 17) C 0 dX3_burnt_16 rfl rfl rfl ?_
    refine q_iald (q0 := 2) (f := (x 2)) (pc2 := 18) C i (wX_g2 ct a x) rfl (rfl) (by omega) (by decide) dX3_burnt_17 rfl ?_
    refine q_bipush (v := 30) (pc2 := 20) C dX3_burnt_18 (by decide) rfl ?_
    refine q_icmp_lt (tgt := 29) (pc2 := 23) C dX3_burnt_20 (by decide) rfl (fun c20 => ?_) (fun c20 => ?_)
    · skip
      refine q_iinc (v := nI (i + 1)) (lv' := [(2, .int (nI (i + 1))), (1, .int (orf (fun k => if 30 ≤ x 2 k then (1 <<< (nI k &&& 31) : Int32) else 0) i)), (0, .ref (a 30))]) (pc2 := 32) C 0 dX3_burnt_29 rfl (nI_1 i) (by decide) rfl rfl ?_
      refine q_goto (pc2 := 4) C dX3_burnt_32 (by decide) ?_
      refine q_lv (lv' := [(2, .int (nI (i + 1))), (1, .int (orf (fun k => if 30 ≤ x 2 k then (1 <<< (nI k &&& 31) : Int32) else 0) i)), (0, .ref (a 30))]) [0, 1, 2] rfl ?_
      refine q_eql (lv' := [(2, .int (nI (i + 1))), (1, .int (orf (fun k => if 30 ≤ x 2 k then (1 <<< (nI k &&& 31) : Int32) else 0) (i + 1))), (0, .ref (a 30))]) (by simp only [orf]; rw [if_neg (Int32.not_le.mpr c20), or_0]) ?_
      exact ihi
    · skip
      refine q_iload_n (pc2 := 24) C 1 dX3_burnt_23 rfl rfl rfl ?_
      refine q_iconst (v := 1) (pc2 := 25) C dX3_burnt_24 (by decide) rfl ?_
      refine q_iload_n (pc2 := 26) C 0 dX3_burnt_25 rfl rfl rfl ?_
      refine q_ishl (pc2 := 27) C dX3_burnt_26 rfl rfl ?_
      refine q_ior (pc2 := 28) C dX3_burnt_27 rfl rfl ?_
      refine q_istore_n (lv' := [(1, .int ((orf (fun k => if 30 ≤ x 2 k then (1 <<< (nI k &&& 31) : Int32) else 0) i) ||| (1 <<< ((nI i) &&& 31)))), (2, .int (nI i)), (0, .ref (a 30))]) (pc2 := 29) C dX3_burnt_28 rfl (by decide) rfl rfl ?_
      refine q_iinc (v := nI (i + 1)) (lv' := [(2, .int (nI (i + 1))), (1, .int ((orf (fun k => if 30 ≤ x 2 k then (1 <<< (nI k &&& 31) : Int32) else 0) i) ||| (1 <<< ((nI i) &&& 31)))), (0, .ref (a 30))]) (pc2 := 32) C 1 dX3_burnt_29 rfl (nI_1 i) (by decide) rfl rfl ?_
      refine q_goto (pc2 := 4) C dX3_burnt_32 (by decide) ?_
      refine q_lv (lv' := [(2, .int (nI (i + 1))), (1, .int ((orf (fun k => if 30 ≤ x 2 k then (1 <<< (nI k &&& 31) : Int32) else 0) i) ||| (1 <<< ((nI i) &&& 31)))), (0, .ref (a 30))]) [0, 1, 2] rfl ?_
      refine q_eql (lv' := [(2, .int (nI (i + 1))), (1, .int (orf (fun k => if 30 ≤ x 2 k then (1 <<< (nI k &&& 31) : Int32) else 0) (i + 1))), (0, .ref (a 30))]) (by simp only [orf]; rw [if_pos (Int32.not_lt.mp c20)]) ?_
      exact ihi
  · skip
    refine q_iload_n (pc2 := 5) C 0 dX3_burnt_4 rfl rfl rfl ?_
    refine q_aload_n (pc2 := 6) C 2 dX3_burnt_5 rfl rfl rfl ?_
    refine q_get (q0 := 0) (k := 0) (v := .int (x 0 0)) (pc2 := 9) C hT3 f7 (wX_g0 ct a x) rfl (by decide) rfl rfl dX3_burnt_6 rfl ?_
    refine q_icmp_ge (tgt := 35) (pc2 := 12) C dX3_burnt_9 (by decide) rfl (fun _ => ?_) (fun c9 => (absurd (show (x 0 0) ≤ nI n by rw [hn]; exact nI_le (Nat.le_refl n) (by omega)) c9))
    refine q_iload_n (pc2 := 36) C 1 dX3_burnt_35 rfl rfl rfl ?_
    exact q_zret C hQ rfl (rfl) (Nat.zero_le _) (Nat.zero_le _) dX3_burnt_36 ⟨rfl, rfl⟩
