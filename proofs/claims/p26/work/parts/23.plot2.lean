/-! PlotPatch's public methods, first half -/

set_option maxHeartbeats 4000000 in
set_option maxRecDepth 100000 in
theorem c_X3_bar (l : Launch) (hl : l.stackTraces = false) (D : va_G) (ct : Nat → ClassId) (a : Nat → Nat) (x : Nat → Nat → Int32) (hB : ∀ t, t < 2 → 0 ≤ x 5 t) (house len lim : Int32) : qMX l yX3_bar wsX3_bar ({ frames := 7, cells := (ocC (if (0 ≤ house ∧ house < 2) then (if (0 ≤ len ∧ len ≤ 100) then (if (1 ≤ lim ∧ lim ≤ 500) then (if (x 5 house.toNatClampNeg < 4) then none else some eS) else some eA) else some eA) else some eI)), slots := (ocS (if (0 ≤ house ∧ house < 2) then (if (0 ≤ len ∧ len ≤ 100) then (if (1 ≤ lim ∧ lim ≤ 500) then (if (x 5 house.toNatClampNeg < 4) then none else some eS) else some eA) else some eA) else some eI)), locals := 112 }) D ct [.ref (a 30), .int house, .int len, .int lim] (wX ct a x) (qDo (if (0 ≤ house ∧ house < 2) then (if (0 ≤ len ∧ len ≤ 100) then (if (1 ≤ lim ∧ lim ≤ 500) then (if (x 5 house.toNatClampNeg < 4) then none else some eS) else some eA) else some eA) else some eI) (some (.int (nI (x 5 house.toNatClampNeg).toNatClampNeg))) (wX ct a (set2 (set2 (set2 x 5 (upd (x 5) house.toNatClampNeg (x 5 house.toNatClampNeg + 1))) 6 (upd (x 6) (4 * house.toNatClampNeg + (x 5 house.toNatClampNeg).toNatClampNeg) len)) 7 (upd (x 7) (4 * house.toNatClampNeg + (x 5 house.toNatClampNeg).toNatClampNeg) lim)))) (qDx (if (0 ≤ house ∧ house < 2) then (if (0 ≤ len ∧ len ≤ 100) then (if (1 ≤ lim ∧ lim ≤ 500) then (if (x 5 house.toNatClampNeg < 4) then none else some eS) else some eA) else some eA) else some eI) (wX ct a x)) (ocC (if (0 ≤ house ∧ house < 2) then (if (0 ≤ len ∧ len ≤ 100) then (if (1 ≤ lim ∧ lim ≤ 500) then (if (x 5 house.toNatClampNeg < 4) then none else some eS) else some eA) else some eA) else some eI)) (ocS (if (0 ≤ house ∧ house < 2) then (if (0 ≤ len ∧ len ≤ 100) then (if (1 ≤ lim ∧ lim ≤ 500) then (if (x 5 house.toNatClampNeg < 4) then none else some eS) else some eA) else some eA) else some eI)) := by
  refine q_startX (ret := some .int) (lv := [(0, .ref (a 30)), (1, .int house), (2, .int len), (3, .int lim)]) (by decide +kernel) rfl (Nat.le_of_ble_eq_true rfl) rfl ?_
  intro p e s m args below meth c A Q C hQ htab
  have hT3 : ∀ w ∈ u_ws RX3 TX3 7, w ∈ wsX3_bar := by decide +kernel
  have hT1 : ∀ w ∈ u_ws RX1 TX1 8, w ∈ wsX3_bar := by decide +kernel
  have f27 : (Cond.fieldLink RX3 27 "PlotPatch" "rig" "LPlotPatch$Rig;").before args s = true := C.w _ (by decide +kernel)
  refine q_iload_n (pc2 := 1) C 1 dX3_bar_0 rfl rfl rfl ?_
  refine q_if_lt (tgt := 9) (pc2 := 4) C dX3_bar_1 (by decide) rfl (fun c1 => ?_) (fun c1 => ?_)
  · skip
    have hoc : (if (0 ≤ house ∧ house < 2) then (if (0 ≤ len ∧ len ≤ 100) then (if (1 ≤ lim ∧ lim ≤ 500) then (if (x 5 house.toNatClampNeg < 4) then none else some eS) else some eA) else some eA) else some eI) = some eI := (by rw [if_neg (fun z => absurd c1 (Int32.not_lt.mpr z.1))])
    exact q_throwS C hl hQ htab (cls := "java/lang/IndexOutOfBoundsException") (names := ["java/lang/RuntimeException", "java/lang/Exception"]) rfl 12 rfl (by decide +kernel) (by decide +kernel) (C.w (.classLink RX3 45 "java/lang/IndexOutOfBoundsException") (by decide +kernel)) (C.w (.initialized "java/lang/IndexOutOfBoundsException") (by decide +kernel)) (q_atS C.2.1 (fun w hw => C.w w (List.mem_cons_of_mem _ (List.mem_append_left _ (List.mem_append_left _ (List.mem_append_right _ hw))))) q_ng0 (by decide +kernel)) q_ot0 dX3_bar_9 dX3_bar_12 dX3_bar_13 dX3_bar_15 dX3_bar_18 (Nat.le_of_ble_eq_true rfl) (Nat.le_of_ble_eq_true rfl) (ocC_of hoc) (ocS_of hoc) (ocC_of hoc) (ocS_of hoc) ⟨hoc, rfl⟩
  · skip
    refine q_iload_n (pc2 := 5) C 1 dX3_bar_4 rfl rfl rfl ?_
    refine q_iconst (v := 2) (pc2 := 6) C dX3_bar_5 (by decide) rfl ?_
    refine q_icmp_lt (tgt := 19) (pc2 := 9) C dX3_bar_6 (by decide) rfl (fun c6 => ?_) (fun c6 => ?_)
    · skip
      have k0 : (0 ≤ house ∧ house < 2) := ⟨Int32.not_lt.mp c1, c6⟩
      have hH := idxL (k := 2) k0 (by decide)
      refine q_iload_n (pc2 := 20) C 2 dX3_bar_19 rfl rfl rfl ?_
      refine q_iconst (v := 0) (pc2 := 21) C dX3_bar_20 (by decide) rfl ?_
      refine q_bipush (v := 100) (pc2 := 23) C dX3_bar_21 (by decide) rfl ?_
      have hx1 : ∀ E : String, (if (0 ≤ len ∧ len ≤ 100) then none else some eA) = some E → (if (0 ≤ house ∧ house < 2) then (if (0 ≤ len ∧ len ≤ 100) then (if (1 ≤ lim ∧ lim ≤ 500) then (if (x 5 house.toNatClampNeg < 4) then none else some eS) else some eA) else some eA) else some eI) = some E := fun E hE => by obtain ⟨hc, rfl⟩ := oc_some hE; exact (by rw [if_pos k0, if_neg hc])
      refine q_tS (pc2 := 26) (As := [.int len, .int 0, .int 100]) (st := []) (st2 := []) (w2 := (wX ct a x)) C (c_X3_checkRange l hl D ct len 0 100) (va_cwS 3 C.w gX3_bar_X3_checkRange rfl rfl rfl (by decide +kernel) ⟨Nat.le_of_ble_eq_true rfl, Nat.le_of_ble_eq_true rfl⟩) [] [0, 1, 2, 3, 4, 5, 6, 7, 8, 9, 10, 11, 12, 13, 14, 15, 16, 17, 18, 19, 20, 21, 22, 23, 24, 25] [0, 1, 2, 3, 4, 5, 6, 7, 8, 9, 10, 11, 12, 13, 14, 15, 16, 17, 18, 19, 20, 21, 22, 23, 24, 25] rfl rfl (by decide) (by decide) (by decide) rfl (by decide) rfl dX3_bar_23 rfl rfl (Nat.le_of_ble_eq_true rfl) ⟨ocC_le (fun E hE => ⟨_, hx1 E hE⟩), ocS_le (fun E hE => ⟨_, hx1 E hE⟩)⟩ rfl rfl (fun E hE => q_outX C hQ htab (ocC_of (hx1 E hE)) (ocS_of (hx1 E hE)) ⟨hx1 E hE, rfl⟩) (fun hk1 => ?_)
      have k1 := oc_none hk1
      refine q_iload_n (pc2 := 27) C 3 dX3_bar_26 rfl rfl rfl ?_
      refine q_iconst (v := 1) (pc2 := 28) C dX3_bar_27 (by decide) rfl ?_
      refine q_sipush (v := 500) (pc2 := 31) C dX3_bar_28 (by decide) rfl ?_
      have hx2 : ∀ E : String, (if (1 ≤ lim ∧ lim ≤ 500) then none else some eA) = some E → (if (0 ≤ house ∧ house < 2) then (if (0 ≤ len ∧ len ≤ 100) then (if (1 ≤ lim ∧ lim ≤ 500) then (if (x 5 house.toNatClampNeg < 4) then none else some eS) else some eA) else some eA) else some eI) = some E := fun E hE => by obtain ⟨hc, rfl⟩ := oc_some hE; exact (by rw [if_pos k0, if_pos k1, if_neg hc])
      refine q_tS (pc2 := 34) (As := [.int lim, .int 1, .int 500]) (st := []) (st2 := []) (w2 := (wX ct a x)) C (c_X3_checkRange l hl D ct lim 1 500) (va_cwS 3 C.w gX3_bar_X3_checkRange rfl rfl rfl (by decide +kernel) ⟨Nat.le_of_ble_eq_true rfl, Nat.le_of_ble_eq_true rfl⟩) [] [0, 1, 2, 3, 4, 5, 6, 7, 8, 9, 10, 11, 12, 13, 14, 15, 16, 17, 18, 19, 20, 21, 22, 23, 24, 25] [0, 1, 2, 3, 4, 5, 6, 7, 8, 9, 10, 11, 12, 13, 14, 15, 16, 17, 18, 19, 20, 21, 22, 23, 24, 25] rfl rfl (by decide) (by decide) (by decide) rfl (by decide) rfl dX3_bar_31 rfl rfl (Nat.le_of_ble_eq_true rfl) ⟨ocC_le (fun E hE => ⟨_, hx2 E hE⟩), ocS_le (fun E hE => ⟨_, hx2 E hE⟩)⟩ rfl rfl (fun E hE => q_outX C hQ htab (ocC_of (hx2 E hE)) (ocS_of (hx2 E hE)) ⟨hx2 E hE, rfl⟩) (fun hk2 => ?_)
      have k2 := oc_none hk2
      refine q_aload_n (pc2 := 35) C 0 dX3_bar_34 rfl rfl rfl ?_
      refine q_get (q0 := 0) (k := 4) (v := .ref (a 31)) (pc2 := 38) C hT3 f27 (wX_g0 ct a x) rfl (by decide) rfl rfl dX3_bar_35 rfl ?_
      refine q_getN (q0 := 4) (k := 1) (v := .ref (a 5)) (pc2 := 41) C hT1 (C.2.1.nf 0 rfl) (wX_g4 ct a x) rfl (by decide) rfl rfl dX3_bar_38 rfl ?_
      refine q_iload_n (pc2 := 42) C 1 dX3_bar_41 rfl rfl rfl ?_
      refine q_iald (q0 := 5) (f := (x 5)) (pc2 := 43) C house.toNatClampNeg (wX_g5 ct a x) rfl (hH.2) (hH.1) (by decide) dX3_bar_42 rfl ?_
      refine q_iconst (v := 4) (pc2 := 44) C dX3_bar_43 (by decide) rfl ?_
      refine q_icmp_lt (tgt := 57) (pc2 := 47) C dX3_bar_44 (by decide) rfl (fun c44 => ?_) (fun c44 => ?_)
      · skip
        have k3 : (x 5 house.toNatClampNeg < 4) := c44
        have hK := idxL (k := 4) ⟨hB _ hH.1, k3⟩ (by decide)
        refine q_aload_n (pc2 := 58) C 0 dX3_bar_57 rfl rfl rfl ?_
        refine q_get (q0 := 0) (k := 4) (v := .ref (a 31)) (pc2 := 61) C hT3 f27 (wX_g0 ct a x) rfl (by decide) rfl rfl dX3_bar_58 rfl ?_
        refine q_iload_n (pc2 := 62) C 1 dX3_bar_61 rfl rfl rfl ?_
        refine q_iload_n (pc2 := 63) C 2 dX3_bar_62 rfl rfl rfl ?_
        refine q_iload_n (pc2 := 64) C 3 dX3_bar_63 rfl rfl rfl ?_
        refine q_cVN (pc2 := 67) (As := [.int house, .int len, .int lim]) (st := []) (st2 := [.int (nI (x 5 house.toNatClampNeg).toNatClampNeg)]) (q0 := 0) (w2 := (wX ct a (set2 (set2 (set2 x 5 (upd (x 5) house.toNatClampNeg (x 5 house.toNatClampNeg + 1))) 6 (upd (x 6) (4 * house.toNatClampNeg + (x 5 house.toNatClampNeg).toNatClampNeg) len)) 7 (upd (x 7) (4 * house.toNatClampNeg + (x 5 house.toNatClampNeg).toNatClampNeg) lim)))) (c2 := 0) (s2 := 0) C ((q_as (by rw [← hH.2]) (c_X1_addBar l D ct a x house.toNatClampNeg (x 5 house.toNatClampNeg).toNatClampNeg hH.1 hK.2 hK.1 len lim))) (⟨va_cnB 3 C.w gX3_bar_X1_addBar_n64 rfl rfl rfl (C.2.1.nm 0 rfl) (C.w (.initialized RX1) (by decide +kernel)) (by decide +kernel) ⟨Nat.le_of_ble_eq_true rfl, Nat.le_of_ble_eq_true rfl⟩, C.w (.instanceMethod yX1_addBar) (by decide +kernel), C.w (.selects RX1 yX1_addBar yX1_addBar) (by decide +kernel)⟩) rfl rfl [4, 5, 6, 7, 8, 9, 10, 11] [0, 1, 2, 3, 12, 13, 14, 15, 16, 17, 18, 19, 20, 21, 22, 23, 24, 25] [0, 1, 2, 3, 18, 19, 20, 21, 22, 23, 24, 25, 4, 5, 6, 7, 8, 9, 10, 11, 12, 13, 14, 15, 16, 17] rfl rfl (by decide) (by decide) (by decide) rfl (by decide) dX3_bar_64 rfl rfl (Nat.le_of_ble_eq_true rfl) ⟨Nat.zero_le _, Nat.zero_le _⟩ rfl rfl rfl rfl ?_
        exact q_zretX C hQ rfl (rfl) (Nat.zero_le _) (Nat.zero_le _) dX3_bar_67 ⟨(by rw [if_pos k0, if_pos k1, if_pos k2, if_pos k3]), rfl, rfl⟩
      · skip
        have hoc : (if (0 ≤ house ∧ house < 2) then (if (0 ≤ len ∧ len ≤ 100) then (if (1 ≤ lim ∧ lim ≤ 500) then (if (x 5 house.toNatClampNeg < 4) then none else some eS) else some eA) else some eA) else some eI) = some eS := (by rw [if_pos k0, if_pos k1, if_pos k2, if_neg c44])
        exact q_throwS C hl hQ htab (cls := "java/lang/IllegalStateException") (names := ["java/lang/RuntimeException", "java/lang/Exception"]) rfl 13 rfl (by decide +kernel) (by decide +kernel) (C.w (.classLink RX3 59 "java/lang/IllegalStateException") (by decide +kernel)) (C.w (.initialized "java/lang/IllegalStateException") (by decide +kernel)) (q_atS C.2.1 (fun w hw => C.w w (List.mem_cons_of_mem _ (List.mem_append_left _ (List.mem_append_right _ hw)))) q_ng2 (by decide +kernel)) q_ot2 dX3_bar_47 dX3_bar_50 dX3_bar_51 dX3_bar_53 dX3_bar_56 (Nat.le_of_ble_eq_true rfl) (Nat.le_of_ble_eq_true rfl) (ocC_of hoc) (ocS_of hoc) (ocC_of hoc) (ocS_of hoc) ⟨hoc, rfl⟩
    · skip
      have hoc : (if (0 ≤ house ∧ house < 2) then (if (0 ≤ len ∧ len ≤ 100) then (if (1 ≤ lim ∧ lim ≤ 500) then (if (x 5 house.toNatClampNeg < 4) then none else some eS) else some eA) else some eA) else some eI) = some eI := (by rw [if_neg (fun z => c6 z.2)])
      exact q_throwS C hl hQ htab (cls := "java/lang/IndexOutOfBoundsException") (names := ["java/lang/RuntimeException", "java/lang/Exception"]) rfl 12 rfl (by decide +kernel) (by decide +kernel) (C.w (.classLink RX3 45 "java/lang/IndexOutOfBoundsException") (by decide +kernel)) (C.w (.initialized "java/lang/IndexOutOfBoundsException") (by decide +kernel)) (q_atS C.2.1 (fun w hw => C.w w (List.mem_cons_of_mem _ (List.mem_append_left _ (List.mem_append_left _ (List.mem_append_right _ hw))))) q_ng0 (by decide +kernel)) q_ot0 dX3_bar_9 dX3_bar_12 dX3_bar_13 dX3_bar_15 dX3_bar_18 (Nat.le_of_ble_eq_true rfl) (Nat.le_of_ble_eq_true rfl) (ocC_of hoc) (ocS_of hoc) (ocC_of hoc) (ocS_of hoc) ⟨hoc, rfl⟩

set_option maxHeartbeats 4000000 in
set_option maxRecDepth 100000 in
theorem c_X3_lamp (l : Launch) (hl : l.stackTraces = false) (D : va_G) (ct : Nat → ClassId) (a : Nat → Nat) (x : Nat → Nat → Int32) (n : Nat) (hn : x 0 0 = nI n) (hn10 : n ≤ 10) (kind col : Int32) : qMX l yX3_lamp wsX3_lamp ({ frames := 7, cells := (ocC (if (0 ≤ kind ∧ kind ≤ 3) then (if (0 ≤ col ∧ col ≤ 20) then (if (x 0 0 < 10) then none else some eS) else some eA) else some eA)), slots := (ocS (if (0 ≤ kind ∧ kind ≤ 3) then (if (0 ≤ col ∧ col ≤ 20) then (if (x 0 0 < 10) then none else some eS) else some eA) else some eA)), locals := 112 }) D ct [.ref (a 30), .int kind, .int col] (wX ct a x) (qDo (if (0 ≤ kind ∧ kind ≤ 3) then (if (0 ≤ col ∧ col ≤ 20) then (if (x 0 0 < 10) then none else some eS) else some eA) else some eA) (some (.int (x 0 0))) (wX ct a (set2 (set2 (set2 (set2 (set2 x 0 (fun _ => x 0 0 + 1)) 1 (upd (x 1) n col)) 8 (upd (x 8) n (wgh kind))) 13 (upd (x 13) n (wdX kind))) 15 (upd (x 15) n (drw kind))))) (qDx (if (0 ≤ kind ∧ kind ≤ 3) then (if (0 ≤ col ∧ col ≤ 20) then (if (x 0 0 < 10) then none else some eS) else some eA) else some eA) (wX ct a x)) (ocC (if (0 ≤ kind ∧ kind ≤ 3) then (if (0 ≤ col ∧ col ≤ 20) then (if (x 0 0 < 10) then none else some eS) else some eA) else some eA)) (ocS (if (0 ≤ kind ∧ kind ≤ 3) then (if (0 ≤ col ∧ col ≤ 20) then (if (x 0 0 < 10) then none else some eS) else some eA) else some eA)) := by
  refine q_startX (ret := some .int) (lv := [(0, .ref (a 30)), (1, .int kind), (2, .int col)]) (by decide +kernel) rfl (Nat.le_of_ble_eq_true rfl) rfl ?_
  intro p e s m args below meth c A Q C hQ htab
  have hT3 : ∀ w ∈ u_ws RX3 TX3 7, w ∈ wsX3_lamp := by decide +kernel
  have hT1 : ∀ w ∈ u_ws RX1 TX1 8, w ∈ wsX3_lamp := by decide +kernel
  have hT0 : ∀ w ∈ u_ws RX0 TX0 4, w ∈ wsX3_lamp := by decide +kernel
  have f7 : (Cond.fieldLink RX3 7 "PlotPatch" "lampCount" "I").before args s = true := C.w _ (by decide +kernel)
  have f13 : (Cond.fieldLink RX3 13 "PlotPatch" "colours" "[I").before args s = true := C.w _ (by decide +kernel)
  have f27 : (Cond.fieldLink RX3 27 "PlotPatch" "rig" "LPlotPatch$Rig;").before args s = true := C.w _ (by decide +kernel)
  have f34 : (Cond.fieldLink RX3 34 "PlotPatch" "board" "LPlotPatch$Board;").before args s = true := C.w _ (by decide +kernel)
  refine q_iload_n (pc2 := 1) C 1 dX3_lamp_0 rfl rfl rfl ?_
  refine q_iconst (v := 0) (pc2 := 2) C dX3_lamp_1 (by decide) rfl ?_
  refine q_iconst (v := 3) (pc2 := 3) C dX3_lamp_2 (by decide) rfl ?_
  have hx0 : ∀ E : String, (if (0 ≤ kind ∧ kind ≤ 3) then none else some eA) = some E → (if (0 ≤ kind ∧ kind ≤ 3) then (if (0 ≤ col ∧ col ≤ 20) then (if (x 0 0 < 10) then none else some eS) else some eA) else some eA) = some E := fun E hE => by obtain ⟨hc, rfl⟩ := oc_some hE; exact (by rw [if_neg hc])
  refine q_tS (pc2 := 6) (As := [.int kind, .int 0, .int 3]) (st := []) (st2 := []) (w2 := (wX ct a x)) C (c_X3_checkRange l hl D ct kind 0 3) (va_cwS 3 C.w gX3_lamp_X3_checkRange rfl rfl rfl (by decide +kernel) ⟨Nat.le_of_ble_eq_true rfl, Nat.le_of_ble_eq_true rfl⟩) [] [0, 1, 2, 3, 4, 5, 6, 7, 8, 9, 10, 11, 12, 13, 14, 15, 16, 17, 18, 19, 20, 21, 22, 23, 24, 25] [0, 1, 2, 3, 4, 5, 6, 7, 8, 9, 10, 11, 12, 13, 14, 15, 16, 17, 18, 19, 20, 21, 22, 23, 24, 25] rfl rfl (by decide) (by decide) (by decide) rfl (by decide) rfl dX3_lamp_3 rfl rfl (Nat.le_of_ble_eq_true rfl) ⟨ocC_le (fun E hE => ⟨_, hx0 E hE⟩), ocS_le (fun E hE => ⟨_, hx0 E hE⟩)⟩ rfl rfl (fun E hE => q_outX C hQ htab (ocC_of (hx0 E hE)) (ocS_of (hx0 E hE)) ⟨hx0 E hE, rfl⟩) (fun hk0 => ?_)
  have k0 := oc_none hk0
  refine q_iload_n (pc2 := 7) C 2 dX3_lamp_6 rfl rfl rfl ?_
  refine q_iconst (v := 0) (pc2 := 8) C dX3_lamp_7 (by decide) rfl ?_
  refine q_bipush (v := 20) (pc2 := 10) C dX3_lamp_8 (by decide) rfl ?_
  have hx1 : ∀ E : String, (if (0 ≤ col ∧ col ≤ 20) then none else some eA) = some E → (if (0 ≤ kind ∧ kind ≤ 3) then (if (0 ≤ col ∧ col ≤ 20) then (if (x 0 0 < 10) then none else some eS) else some eA) else some eA) = some E := fun E hE => by obtain ⟨hc, rfl⟩ := oc_some hE; exact (by rw [if_pos k0, if_neg hc])
  refine q_tS (pc2 := 13) (As := [.int col, .int 0, .int 20]) (st := []) (st2 := []) (w2 := (wX ct a x)) C (c_X3_checkRange l hl D ct col 0 20) (va_cwS 3 C.w gX3_lamp_X3_checkRange rfl rfl rfl (by decide +kernel) ⟨Nat.le_of_ble_eq_true rfl, Nat.le_of_ble_eq_true rfl⟩) [] [0, 1, 2, 3, 4, 5, 6, 7, 8, 9, 10, 11, 12, 13, 14, 15, 16, 17, 18, 19, 20, 21, 22, 23, 24, 25] [0, 1, 2, 3, 4, 5, 6, 7, 8, 9, 10, 11, 12, 13, 14, 15, 16, 17, 18, 19, 20, 21, 22, 23, 24, 25] rfl rfl (by decide) (by decide) (by decide) rfl (by decide) rfl dX3_lamp_10 rfl rfl (Nat.le_of_ble_eq_true rfl) ⟨ocC_le (fun E hE => ⟨_, hx1 E hE⟩), ocS_le (fun E hE => ⟨_, hx1 E hE⟩)⟩ rfl rfl (fun E hE => q_outX C hQ htab (ocC_of (hx1 E hE)) (ocS_of (hx1 E hE)) ⟨hx1 E hE, rfl⟩) (fun hk1 => ?_)
  have k1 := oc_none hk1
  refine q_aload_n (pc2 := 14) C 0 dX3_lamp_13 rfl rfl rfl ?_
  refine q_get (q0 := 0) (k := 0) (v := .int (x 0 0)) (pc2 := 17) C hT3 f7 (wX_g0 ct a x) rfl (by decide) rfl rfl dX3_lamp_14 rfl ?_
  refine q_bipush (v := 10) (pc2 := 19) C dX3_lamp_17 (by decide) rfl ?_
  refine q_icmp_lt (tgt := 32) (pc2 := 22) C dX3_lamp_19 (by decide) rfl (fun c19 => ?_) (fun c19 => ?_)
  · skip
    have k2 : (x 0 0 < 10) := c19
    have hn9 : n < 10 := (nI_ltI (by omega) (by decide)).mp (show nI n < nI 10 by rw [← hn]; exact k2)
    refine q_aload_n (pc2 := 33) C 0 dX3_lamp_32 rfl rfl rfl ?_
    refine q_get (q0 := 0) (k := 0) (v := .int (x 0 0)) (pc2 := 36) C hT3 f7 (wX_g0 ct a x) rfl (by decide) rfl rfl dX3_lamp_33 rfl ?_
    refine q_istore_n (lv' := [(3, .int (x 0 0)), (0, .ref (a 30)), (1, .int kind), (2, .int col)]) (pc2 := 37) C dX3_lamp_36 rfl (by decide) rfl rfl ?_
    refine q_aload_n (pc2 := 38) C 1 dX3_lamp_37 rfl rfl rfl ?_
    refine q_dup (pc2 := 39) C dX3_lamp_38 rfl rfl ?_
    refine q_get (q0 := 0) (k := 0) (v := .int (x 0 0)) (pc2 := 42) C hT3 f7 (wX_g0 ct a x) rfl (by decide) rfl rfl dX3_lamp_39 rfl ?_
    refine q_iconst (v := 1) (pc2 := 43) C dX3_lamp_42 (by decide) rfl ?_
    refine q_iadd (pc2 := 44) C dX3_lamp_43 rfl rfl ?_
    refine q_put (q0 := 0) (k := 0) (ty := .int) (ws' := (wX ct a (set2 x 0 (fun _ => ((x 0 0) + 1))))) (pc2 := 47) C hT3 tyX3_ok nmX3 f7 (wX_g0 ct a x) rfl (by decide) rfl rfl (by decide +kernel) rfl rfl (Nat.le_of_ble_eq_true rfl) (wX_s0_0 ct a x ((x 0 0) + 1)) dX3_lamp_44 rfl ?_
    refine q_aload_n (pc2 := 48) C 1 dX3_lamp_47 rfl rfl rfl ?_
    refine q_get (q0 := 0) (k := 1) (v := .ref (a 1)) (pc2 := 51) C hT3 f13 (wX_g0 ct a (set2 x 0 (fun _ => ((x 0 0) + 1)))) rfl (by decide) rfl rfl dX3_lamp_48 rfl ?_
    refine q_iload_n (pc2 := 52) C 0 dX3_lamp_51 rfl rfl rfl ?_
    refine q_iload_n (pc2 := 53) C 3 dX3_lamp_52 rfl rfl rfl ?_
    refine q_iast (q0 := 1) (f := (x 1)) (ws' := (wX ct a (set2 (set2 x 0 (fun _ => ((x 0 0) + 1))) 1 (upd (x 1) n col)))) (pc2 := 54) C n (wX_g1 ct a (set2 x 0 (fun _ => ((x 0 0) + 1)))) rfl (hn) (hn9) (by decide) (wX_a1 ct a (set2 x 0 (fun _ => ((x 0 0) + 1))) (upd (x 1) n col)) dX3_lamp_53 rfl ?_
    refine q_aload_n (pc2 := 55) C 1 dX3_lamp_54 rfl rfl rfl ?_
    refine q_get (q0 := 0) (k := 4) (v := .ref (a 31)) (pc2 := 58) C hT3 f27 (wX_g0 ct a (set2 (set2 x 0 (fun _ => ((x 0 0) + 1))) 1 (upd (x 1) n col))) rfl (by decide) rfl rfl dX3_lamp_55 rfl ?_
    refine q_getN (q0 := 4) (k := 4) (v := .ref (a 8)) (pc2 := 61) C hT1 (C.2.1.nf 1 rfl) (wX_g4 ct a (set2 (set2 x 0 (fun _ => ((x 0 0) + 1))) 1 (upd (x 1) n col))) rfl (by decide) rfl rfl dX3_lamp_58 rfl ?_
    refine q_iload_n (pc2 := 62) C 0 dX3_lamp_61 rfl rfl rfl ?_
    refine q_iload_n (pc2 := 63) C 2 dX3_lamp_62 rfl rfl rfl ?_
    refine q_cS (pc2 := 66) (As := [.int kind]) (st := [.int (x 0 0), .ref (a 8)]) (st2 := [.int (wgh kind), .int (x 0 0), .ref (a 8)]) (w2 := (wX ct a (set2 (set2 x 0 (fun _ => ((x 0 0) + 1))) 1 (upd (x 1) n col)))) (c2 := 0) (s2 := 0) C (c_X3_weightOfKind l D ct kind) (va_cwS 1 C.w gX3_lamp_X3_weightOfKind rfl rfl rfl (by decide +kernel) ⟨Nat.le_of_ble_eq_true rfl, Nat.le_of_ble_eq_true rfl⟩) [] [0, 1, 2, 3, 4, 5, 6, 7, 8, 9, 10, 11, 12, 13, 14, 15, 16, 17, 18, 19, 20, 21, 22, 23, 24, 25] [0, 1, 2, 3, 4, 5, 6, 7, 8, 9, 10, 11, 12, 13, 14, 15, 16, 17, 18, 19, 20, 21, 22, 23, 24, 25] rfl rfl (by decide) (by decide) (by decide) rfl (by decide) dX3_lamp_63 rfl rfl (Nat.le_of_ble_eq_true rfl) ⟨Nat.zero_le _, Nat.zero_le _⟩ rfl rfl rfl rfl ?_
    refine q_iast (q0 := 8) (f := (x 8)) (ws' := (wX ct a (set2 (set2 (set2 x 0 (fun _ => ((x 0 0) + 1))) 1 (upd (x 1) n col)) 8 (upd (x 8) n (wgh kind))))) (pc2 := 67) C n (wX_g8 ct a (set2 (set2 x 0 (fun _ => ((x 0 0) + 1))) 1 (upd (x 1) n col))) rfl (hn) (hn9) (by decide) (wX_a8 ct a (set2 (set2 x 0 (fun _ => ((x 0 0) + 1))) 1 (upd (x 1) n col)) (upd (x 8) n (wgh kind))) dX3_lamp_66 rfl ?_
    refine q_aload_n (pc2 := 68) C 1 dX3_lamp_67 rfl rfl rfl ?_
    refine q_get (q0 := 0) (k := 5) (v := .ref (a 32)) (pc2 := 71) C hT3 f34 (wX_g0 ct a (set2 (set2 (set2 x 0 (fun _ => ((x 0 0) + 1))) 1 (upd (x 1) n col)) 8 (upd (x 8) n (wgh kind)))) rfl (by decide) rfl rfl dX3_lamp_68 rfl ?_
    refine q_getN (q0 := 12) (k := 1) (v := .ref (a 13)) (pc2 := 74) C hT0 (C.2.1.nf 2 rfl) (wX_g12 ct a (set2 (set2 (set2 x 0 (fun _ => ((x 0 0) + 1))) 1 (upd (x 1) n col)) 8 (upd (x 8) n (wgh kind)))) rfl (by decide) rfl rfl dX3_lamp_71 rfl ?_
    refine q_iload_n (pc2 := 75) C 0 dX3_lamp_74 rfl rfl rfl ?_
    refine q_iload_n (pc2 := 76) C 2 dX3_lamp_75 rfl rfl rfl ?_
    refine q_cS (pc2 := 79) (As := [.int kind]) (st := [.int (x 0 0), .ref (a 13)]) (st2 := [.int (wdX kind), .int (x 0 0), .ref (a 13)]) (w2 := (wX ct a (set2 (set2 (set2 x 0 (fun _ => ((x 0 0) + 1))) 1 (upd (x 1) n col)) 8 (upd (x 8) n (wgh kind))))) (c2 := 0) (s2 := 0) C (c_X3_widthOfKind l D ct kind) (va_cwS 1 C.w gX3_lamp_X3_widthOfKind rfl rfl rfl (by decide +kernel) ⟨Nat.le_of_ble_eq_true rfl, Nat.le_of_ble_eq_true rfl⟩) [] [0, 1, 2, 3, 4, 5, 6, 7, 8, 9, 10, 11, 12, 13, 14, 15, 16, 17, 18, 19, 20, 21, 22, 23, 24, 25] [0, 1, 2, 3, 4, 5, 6, 7, 8, 9, 10, 11, 12, 13, 14, 15, 16, 17, 18, 19, 20, 21, 22, 23, 24, 25] rfl rfl (by decide) (by decide) (by decide) rfl (by decide) dX3_lamp_76 rfl rfl (Nat.le_of_ble_eq_true rfl) ⟨Nat.zero_le _, Nat.zero_le _⟩ rfl rfl rfl rfl ?_
    refine q_iast (q0 := 14) (f := (x 13)) (ws' := (wX ct a (set2 (set2 (set2 (set2 x 0 (fun _ => ((x 0 0) + 1))) 1 (upd (x 1) n col)) 8 (upd (x 8) n (wgh kind))) 13 (upd (x 13) n (wdX kind))))) (pc2 := 80) C n (wX_g14 ct a (set2 (set2 (set2 x 0 (fun _ => ((x 0 0) + 1))) 1 (upd (x 1) n col)) 8 (upd (x 8) n (wgh kind)))) rfl (hn) (hn9) (by decide) (wX_a14 ct a (set2 (set2 (set2 x 0 (fun _ => ((x 0 0) + 1))) 1 (upd (x 1) n col)) 8 (upd (x 8) n (wgh kind))) (upd (x 13) n (wdX kind))) dX3_lamp_79 rfl ?_
    refine q_aload_n (pc2 := 81) C 1 dX3_lamp_80 rfl rfl rfl ?_
    refine q_get (q0 := 0) (k := 5) (v := .ref (a 32)) (pc2 := 84) C hT3 f34 (wX_g0 ct a (set2 (set2 (set2 (set2 x 0 (fun _ => ((x 0 0) + 1))) 1 (upd (x 1) n col)) 8 (upd (x 8) n (wgh kind))) 13 (upd (x 13) n (wdX kind)))) rfl (by decide) rfl rfl dX3_lamp_81 rfl ?_
    refine q_getN (q0 := 12) (k := 3) (v := .ref (a 15)) (pc2 := 87) C hT0 (C.2.1.nf 3 rfl) (wX_g12 ct a (set2 (set2 (set2 (set2 x 0 (fun _ => ((x 0 0) + 1))) 1 (upd (x 1) n col)) 8 (upd (x 8) n (wgh kind))) 13 (upd (x 13) n (wdX kind)))) rfl (by decide) rfl rfl dX3_lamp_84 rfl ?_
    refine q_iload_n (pc2 := 88) C 0 dX3_lamp_87 rfl rfl rfl ?_
    refine q_iload_n (pc2 := 89) C 2 dX3_lamp_88 rfl rfl rfl ?_
    refine q_cS (pc2 := 92) (As := [.int kind]) (st := [.int (x 0 0), .ref (a 15)]) (st2 := [.int (drw kind), .int (x 0 0), .ref (a 15)]) (w2 := (wX ct a (set2 (set2 (set2 (set2 x 0 (fun _ => ((x 0 0) + 1))) 1 (upd (x 1) n col)) 8 (upd (x 8) n (wgh kind))) 13 (upd (x 13) n (wdX kind))))) (c2 := 0) (s2 := 0) C (c_X3_wattsOfKind l D ct kind) (va_cwS 1 C.w gX3_lamp_X3_wattsOfKind rfl rfl rfl (by decide +kernel) ⟨Nat.le_of_ble_eq_true rfl, Nat.le_of_ble_eq_true rfl⟩) [] [0, 1, 2, 3, 4, 5, 6, 7, 8, 9, 10, 11, 12, 13, 14, 15, 16, 17, 18, 19, 20, 21, 22, 23, 24, 25] [0, 1, 2, 3, 4, 5, 6, 7, 8, 9, 10, 11, 12, 13, 14, 15, 16, 17, 18, 19, 20, 21, 22, 23, 24, 25] rfl rfl (by decide) (by decide) (by decide) rfl (by decide) dX3_lamp_89 rfl rfl (Nat.le_of_ble_eq_true rfl) ⟨Nat.zero_le _, Nat.zero_le _⟩ rfl rfl rfl rfl ?_
    refine q_iast (q0 := 16) (f := (x 15)) (ws' := (wX ct a (set2 (set2 (set2 (set2 (set2 x 0 (fun _ => ((x 0 0) + 1))) 1 (upd (x 1) n col)) 8 (upd (x 8) n (wgh kind))) 13 (upd (x 13) n (wdX kind))) 15 (upd (x 15) n (drw kind))))) (pc2 := 93) C n (wX_g16 ct a (set2 (set2 (set2 (set2 x 0 (fun _ => ((x 0 0) + 1))) 1 (upd (x 1) n col)) 8 (upd (x 8) n (wgh kind))) 13 (upd (x 13) n (wdX kind)))) rfl (hn) (hn9) (by decide) (wX_a16 ct a (set2 (set2 (set2 (set2 x 0 (fun _ => ((x 0 0) + 1))) 1 (upd (x 1) n col)) 8 (upd (x 8) n (wgh kind))) 13 (upd (x 13) n (wdX kind))) (upd (x 15) n (drw kind))) dX3_lamp_92 rfl ?_
    refine q_iload_n (pc2 := 94) C 0 dX3_lamp_93 rfl rfl rfl ?_
    exact q_zretX C hQ rfl (rfl) (Nat.zero_le _) (Nat.zero_le _) dX3_lamp_94 ⟨(by rw [if_pos k0, if_pos k1, if_pos k2]), rfl, rfl⟩
  · skip
    have hoc : (if (0 ≤ kind ∧ kind ≤ 3) then (if (0 ≤ col ∧ col ≤ 20) then (if (x 0 0 < 10) then none else some eS) else some eA) else some eA) = some eS := (by rw [if_pos k0, if_pos k1, if_neg c19])
    exact q_throwS C hl hQ htab (cls := "java/lang/IllegalStateException") (names := ["java/lang/RuntimeException", "java/lang/Exception"]) rfl 14 rfl (by decide +kernel) (by decide +kernel) (C.w (.classLink RX3 59 "java/lang/IllegalStateException") (by decide +kernel)) (C.w (.initialized "java/lang/IllegalStateException") (by decide +kernel)) (q_atS C.2.1 (fun w hw => C.w w (List.mem_cons_of_mem _ (List.mem_append_left _ (List.mem_append_right _ hw)))) q_ng2 (by decide +kernel)) q_ot2 dX3_lamp_22 dX3_lamp_25 dX3_lamp_26 dX3_lamp_28 dX3_lamp_31 (Nat.le_of_ble_eq_true rfl) (Nat.le_of_ble_eq_true rfl) (ocC_of hoc) (ocS_of hoc) (ocC_of hoc) (ocS_of hoc) ⟨hoc, rfl⟩

set_option maxHeartbeats 4000000 in
set_option maxRecDepth 100000 in
theorem c_X3_hang (l : Launch) (hl : l.stackTraces = false) (D : va_G) (ct : Nat → ClassId) (a : Nat → Nat) (x : Nat → Nat → Int32) (n : Nat) (hn : x 0 0 = nI n) (hn10 : n ≤ 10) (h : Nat) (hh : x 4 0 = nI h) (hlt : h < 2) (kb : Nat) (hkb : x 5 h = nI kb) (hkb4 : kb ≤ 4) (lm bar place : Int32) : qMX l yX3_hang wsX3_hang ({ frames := 7, cells := (ocC (if (0 ≤ lm ∧ lm < x 0 0) then (if (0 ≤ bar ∧ bar < x 5 h) then (if (plcX x h bar.toNatClampNeg place) then (if (bearX x h lm.toNatClampNeg bar.toNatClampNeg ∧ clrX x lm bar place) then none else some eS) else some eI) else some eI) else some eI)), slots := (ocS (if (0 ≤ lm ∧ lm < x 0 0) then (if (0 ≤ bar ∧ bar < x 5 h) then (if (plcX x h bar.toNatClampNeg place) then (if (bearX x h lm.toNatClampNeg bar.toNatClampNeg ∧ clrX x lm bar place) then none else some eS) else some eI) else some eI) else some eI)), locals := 111 }) D ct [.ref (a 30), .int lm, .int bar, .int place] (wX ct a x) (qDo (if (0 ≤ lm ∧ lm < x 0 0) then (if (0 ≤ bar ∧ bar < x 5 h) then (if (plcX x h bar.toNatClampNeg place) then (if (bearX x h lm.toNatClampNeg bar.toNatClampNeg ∧ clrX x lm bar place) then none else some eS) else some eI) else some eI) else some eI) (some (.int (wOnX (set2 (set2 x 9 (upd (x 9) lm.toNatClampNeg bar)) 11 (upd (x 11) lm.toNatClampNeg place)) bar))) (wX ct a (set2 (set2 x 9 (upd (x 9) lm.toNatClampNeg bar)) 11 (upd (x 11) lm.toNatClampNeg place)))) (qDx (if (0 ≤ lm ∧ lm < x 0 0) then (if (0 ≤ bar ∧ bar < x 5 h) then (if (plcX x h bar.toNatClampNeg place) then (if (bearX x h lm.toNatClampNeg bar.toNatClampNeg ∧ clrX x lm bar place) then none else some eS) else some eI) else some eI) else some eI) (wX ct a x)) (ocC (if (0 ≤ lm ∧ lm < x 0 0) then (if (0 ≤ bar ∧ bar < x 5 h) then (if (plcX x h bar.toNatClampNeg place) then (if (bearX x h lm.toNatClampNeg bar.toNatClampNeg ∧ clrX x lm bar place) then none else some eS) else some eI) else some eI) else some eI)) (ocS (if (0 ≤ lm ∧ lm < x 0 0) then (if (0 ≤ bar ∧ bar < x 5 h) then (if (plcX x h bar.toNatClampNeg place) then (if (bearX x h lm.toNatClampNeg bar.toNatClampNeg ∧ clrX x lm bar place) then none else some eS) else some eI) else some eI) else some eI)) := by
  refine q_startX (ret := some .int) (lv := [(0, .ref (a 30)), (1, .int lm), (2, .int bar), (3, .int place)]) (by decide +kernel) rfl (Nat.le_of_ble_eq_true rfl) rfl ?_
  intro p e s m args below meth c A Q C hQ htab
  have hT3 : ∀ w ∈ u_ws RX3 TX3 7, w ∈ wsX3_hang := by decide +kernel
  have f27 : (Cond.fieldLink RX3 27 "PlotPatch" "rig" "LPlotPatch$Rig;").before args s = true := C.w _ (by decide +kernel)
  refine q_aload_n (pc2 := 1) C 0 dX3_hang_0 rfl rfl rfl ?_
  refine q_iload_n (pc2 := 2) C 1 dX3_hang_1 rfl rfl rfl ?_
  have hx0 : ∀ E : String, (if (0 ≤ lm ∧ lm < x 0 0) then none else some eI) = some E → (if (0 ≤ lm ∧ lm < x 0 0) then (if (0 ≤ bar ∧ bar < x 5 h) then (if (plcX x h bar.toNatClampNeg place) then (if (bearX x h lm.toNatClampNeg bar.toNatClampNeg ∧ clrX x lm bar place) then none else some eS) else some eI) else some eI) else some eI) = some E := fun E hE => by obtain ⟨hc, rfl⟩ := oc_some hE; exact (by rw [if_neg hc])
  refine q_tV (pc2 := 5) (As := [.int lm]) (st := []) (st2 := []) (b := (a 30)) (q0 := 0) (w2 := (wX ct a x)) C (c_X3_checkLamp l hl D ct a x lm) (cwV 1 C.w gX3_hang_X3_checkLamp rfl rfl rfl (by decide +kernel) ⟨Nat.le_of_ble_eq_true rfl, Nat.le_of_ble_eq_true rfl⟩) (wX_g0 ct a x) rfl [0, 1, 2, 3, 4, 5, 6, 7, 8, 9, 10, 11, 12, 13, 14, 15, 16, 17, 18, 19, 20, 21, 22, 23, 24, 25] [] [0, 1, 2, 3, 4, 5, 6, 7, 8, 9, 10, 11, 12, 13, 14, 15, 16, 17, 18, 19, 20, 21, 22, 23, 24, 25] rfl rfl (by decide) (by decide) (by decide) rfl (by decide) rfl dX3_hang_2 rfl rfl (Nat.le_of_ble_eq_true rfl) ⟨ocC_le (fun E hE => ⟨_, hx0 E hE⟩), ocS_le (fun E hE => ⟨_, hx0 E hE⟩)⟩ rfl rfl (fun E hE => q_outX C hQ htab (ocC_of (hx0 E hE)) (ocS_of (hx0 E hE)) ⟨hx0 E hE, rfl⟩) (fun hk0 => ?_)
  have k0 := oc_none hk0
  have hL := idxL (k := n) (by have z := k0; rw [hn] at z; exact z) (by omega)
  refine q_aload_n (pc2 := 6) C 0 dX3_hang_5 rfl rfl rfl ?_
  refine q_iload_n (pc2 := 7) C 2 dX3_hang_6 rfl rfl rfl ?_
  have hx1 : ∀ E : String, (if (0 ≤ bar ∧ bar < x 5 h) then none else some eI) = some E → (if (0 ≤ lm ∧ lm < x 0 0) then (if (0 ≤ bar ∧ bar < x 5 h) then (if (plcX x h bar.toNatClampNeg place) then (if (bearX x h lm.toNatClampNeg bar.toNatClampNeg ∧ clrX x lm bar place) then none else some eS) else some eI) else some eI) else some eI) = some E := fun E hE => by obtain ⟨hc, rfl⟩ := oc_some hE; exact (by rw [if_pos k0, if_neg hc])
  refine q_tV (pc2 := 10) (As := [.int bar]) (st := []) (st2 := []) (b := (a 30)) (q0 := 0) (w2 := (wX ct a x)) C (c_X3_checkBar l hl D ct a x h hh hlt bar) (cwV 1 C.w gX3_hang_X3_checkBar rfl rfl rfl (by decide +kernel) ⟨Nat.le_of_ble_eq_true rfl, Nat.le_of_ble_eq_true rfl⟩) (wX_g0 ct a x) rfl [0, 1, 2, 3, 4, 5, 6, 7, 8, 9, 10, 11, 12, 13, 14, 15, 16, 17, 18, 19, 20, 21, 22, 23, 24, 25] [] [0, 1, 2, 3, 4, 5, 6, 7, 8, 9, 10, 11, 12, 13, 14, 15, 16, 17, 18, 19, 20, 21, 22, 23, 24, 25] rfl rfl (by decide) (by decide) (by decide) rfl (by decide) rfl dX3_hang_7 rfl rfl (Nat.le_of_ble_eq_true rfl) ⟨ocC_le (fun E hE => ⟨_, hx1 E hE⟩), ocS_le (fun E hE => ⟨_, hx1 E hE⟩)⟩ rfl rfl (fun E hE => q_outX C hQ htab (ocC_of (hx1 E hE)) (ocS_of (hx1 E hE)) ⟨hx1 E hE, rfl⟩) (fun hk1 => ?_)
  have k1 := oc_none hk1
  have hBr := idxL (k := kb) (by have z := k1; rw [hkb] at z; exact z) (by omega)
  have hB4 : bar.toNatClampNeg < 4 := by omega
  refine q_aload_n (pc2 := 11) C 0 dX3_hang_10 rfl rfl rfl ?_
  refine q_get (q0 := 0) (k := 4) (v := .ref (a 31)) (pc2 := 14) C hT3 f27 (wX_g0 ct a x) rfl (by decide) rfl rfl dX3_hang_11 rfl ?_
  refine q_iload_n (pc2 := 15) C 2 dX3_hang_14 rfl rfl rfl ?_
  refine q_iload_n (pc2 := 16) C 3 dX3_hang_15 rfl rfl rfl ?_
  refine q_cVN (pc2 := 19) (As := [.int bar, .int place]) (st := []) (st2 := [.int (b2 (plcX x h bar.toNatClampNeg place))]) (q0 := 0) (w2 := (wX ct a x)) (c2 := 0) (s2 := 0) C ((q_as (by rw [← hBr.2]) (c_X1_hasPlace l D ct a x h hh hlt bar.toNatClampNeg hB4 place))) (⟨va_cnB 2 C.w gX3_hang_X1_hasPlace_n96 rfl rfl rfl (C.2.1.nm 7 rfl) (C.w (.initialized RX1) (by decide +kernel)) (by decide +kernel) ⟨Nat.le_of_ble_eq_true rfl, Nat.le_of_ble_eq_true rfl⟩, C.w (.instanceMethod yX1_hasPlace) (by decide +kernel), C.w (.selects RX1 yX1_hasPlace yX1_hasPlace) (by decide +kernel)⟩) rfl rfl [4, 5, 6, 7, 8, 9, 10, 11] [0, 1, 2, 3, 12, 13, 14, 15, 16, 17, 18, 19, 20, 21, 22, 23, 24, 25] [0, 1, 2, 3, 18, 19, 20, 21, 22, 23, 24, 25, 4, 5, 6, 7, 8, 9, 10, 11, 12, 13, 14, 15, 16, 17] rfl rfl (by decide) (by decide) (by decide) rfl (by decide) dX3_hang_16 rfl rfl (Nat.le_of_ble_eq_true rfl) ⟨Nat.zero_le _, Nat.zero_le _⟩ rfl rfl rfl rfl ?_
  refine q_if_ne (tgt := 32) (pc2 := 22) C dX3_hang_19 (by decide) rfl (fun c19 => ?_) (fun c19 => ?_)
  · skip
    have k2 : (plcX x h bar.toNatClampNeg place) := b2_ne.mp c19
    refine q_aload_n (pc2 := 33) C 0 dX3_hang_32 rfl rfl rfl ?_
    refine q_get (q0 := 0) (k := 4) (v := .ref (a 31)) (pc2 := 36) C hT3 f27 (wX_g0 ct a x) rfl (by decide) rfl rfl dX3_hang_33 rfl ?_
    refine q_iload_n (pc2 := 37) C 1 dX3_hang_36 rfl rfl rfl ?_
    refine q_iload_n (pc2 := 38) C 2 dX3_hang_37 rfl rfl rfl ?_
    refine q_cVN (pc2 := 41) (As := [.int lm, .int bar]) (st := []) (st2 := [.int (b2 (bearX x h lm.toNatClampNeg bar.toNatClampNeg))]) (q0 := 0) (w2 := (wX ct a x)) (c2 := 0) (s2 := 0) C ((q_as (by rw [← hL.2, ← hBr.2]) (c_X1_bears l D ct a x h hh hlt lm.toNatClampNeg (by have := hL.1; omega) bar.toNatClampNeg hB4))) (⟨va_cnB 2 C.w gX3_hang_X1_bears_n102 rfl rfl rfl (C.2.1.nm 6 rfl) (C.w (.initialized RX1) (by decide +kernel)) (by decide +kernel) ⟨Nat.le_of_ble_eq_true rfl, Nat.le_of_ble_eq_true rfl⟩, C.w (.instanceMethod yX1_bears) (by decide +kernel), C.w (.selects RX1 yX1_bears yX1_bears) (by decide +kernel)⟩) rfl rfl [4, 5, 6, 7, 8, 9, 10, 11] [0, 1, 2, 3, 12, 13, 14, 15, 16, 17, 18, 19, 20, 21, 22, 23, 24, 25] [0, 1, 2, 3, 18, 19, 20, 21, 22, 23, 24, 25, 4, 5, 6, 7, 8, 9, 10, 11, 12, 13, 14, 15, 16, 17] rfl rfl (by decide) (by decide) (by decide) rfl (by decide) dX3_hang_38 rfl rfl (Nat.le_of_ble_eq_true rfl) ⟨Nat.zero_le _, Nat.zero_le _⟩ rfl rfl rfl rfl ?_
    refine q_if_eq (tgt := 57) (pc2 := 44) C dX3_hang_41 (by decide) rfl (fun c41 => ?_) (fun c41 => ?_)
    · skip
      have hoc : (if (0 ≤ lm ∧ lm < x 0 0) then (if (0 ≤ bar ∧ bar < x 5 h) then (if (plcX x h bar.toNatClampNeg place) then (if (bearX x h lm.toNatClampNeg bar.toNatClampNeg ∧ clrX x lm bar place) then none else some eS) else some eI) else some eI) else some eI) = some eS := (by rw [if_pos k0, if_pos k1, if_pos k2, if_neg (fun z => b2_eq.mp c41 z.1)])
      exact q_throwS C hl hQ htab (cls := "java/lang/IllegalStateException") (names := ["java/lang/RuntimeException", "java/lang/Exception"]) rfl 1 rfl (by decide +kernel) (by decide +kernel) (C.w (.classLink RX3 59 "java/lang/IllegalStateException") (by decide +kernel)) (C.w (.initialized "java/lang/IllegalStateException") (by decide +kernel)) (q_atS C.2.1 (fun w hw => C.w w (List.mem_cons_of_mem _ (List.mem_append_right _ hw))) q_ng2 (by decide +kernel)) q_ot2 dX3_hang_57 dX3_hang_60 dX3_hang_61 dX3_hang_63 dX3_hang_66 (Nat.le_of_ble_eq_true rfl) (Nat.le_of_ble_eq_true rfl) (ocC_of hoc) (ocS_of hoc) (ocC_of hoc) (ocS_of hoc) ⟨hoc, rfl⟩
    · skip
      refine q_aload_n (pc2 := 45) C 0 dX3_hang_44 rfl rfl rfl ?_
      refine q_get (q0 := 0) (k := 4) (v := .ref (a 31)) (pc2 := 48) C hT3 f27 (wX_g0 ct a x) rfl (by decide) rfl rfl dX3_hang_45 rfl ?_
      refine q_iload_n (pc2 := 49) C 1 dX3_hang_48 rfl rfl rfl ?_
      refine q_iload_n (pc2 := 50) C 2 dX3_hang_49 rfl rfl rfl ?_
      refine q_iload_n (pc2 := 51) C 3 dX3_hang_50 rfl rfl rfl ?_
      refine q_cVN (pc2 := 54) (As := [.int lm, .int bar, .int place]) (st := []) (st2 := [.int (b2 (clrX x lm bar place))]) (q0 := 0) (w2 := (wX ct a x)) (c2 := 0) (s2 := 0) C (c_X1_isClear l D ct a x lm bar place) (⟨va_cnB 3 C.w gX3_hang_X1_isClear_n105 rfl rfl rfl (C.2.1.nm 8 rfl) (C.w (.initialized RX1) (by decide +kernel)) (by decide +kernel) ⟨Nat.le_of_ble_eq_true rfl, Nat.le_of_ble_eq_true rfl⟩, C.w (.instanceMethod yX1_isClear) (by decide +kernel), C.w (.selects RX1 yX1_isClear yX1_isClear) (by decide +kernel)⟩) rfl rfl [4, 5, 6, 7, 8, 9, 10, 11] [0, 1, 2, 3, 12, 13, 14, 15, 16, 17, 18, 19, 20, 21, 22, 23, 24, 25] [0, 1, 2, 3, 18, 19, 20, 21, 22, 23, 24, 25, 4, 5, 6, 7, 8, 9, 10, 11, 12, 13, 14, 15, 16, 17] rfl rfl (by decide) (by decide) (by decide) rfl (by decide) dX3_hang_51 rfl rfl (Nat.le_of_ble_eq_true rfl) ⟨Nat.zero_le _, Nat.zero_le _⟩ rfl rfl rfl rfl ?_
      refine q_if_ne (tgt := 67) (pc2 := 57) C dX3_hang_54 (by decide) rfl (fun c54 => ?_) (fun c54 => ?_)
      · skip
        have k3 : (bearX x h lm.toNatClampNeg bar.toNatClampNeg ∧ clrX x lm bar place) := ⟨b2_ne.mp c41, b2_ne.mp c54⟩
        refine q_aload_n (pc2 := 68) C 0 dX3_hang_67 rfl rfl rfl ?_
        refine q_get (q0 := 0) (k := 4) (v := .ref (a 31)) (pc2 := 71) C hT3 f27 (wX_g0 ct a x) rfl (by decide) rfl rfl dX3_hang_68 rfl ?_
        refine q_iload_n (pc2 := 72) C 1 dX3_hang_71 rfl rfl rfl ?_
        refine q_iload_n (pc2 := 73) C 2 dX3_hang_72 rfl rfl rfl ?_
        refine q_iload_n (pc2 := 74) C 3 dX3_hang_73 rfl rfl rfl ?_
        refine q_cVN (pc2 := 77) (As := [.int lm, .int bar, .int place]) (st := []) (st2 := []) (q0 := 0) (w2 := (wX ct a (set2 (set2 x 9 (upd (x 9) lm.toNatClampNeg bar)) 11 (upd (x 11) lm.toNatClampNeg place)))) (c2 := 0) (s2 := 0) C ((q_as (by rw [← hL.2]) (c_X1_put l D ct a x lm.toNatClampNeg (by have := hL.1; omega) bar place))) (⟨va_cnB 3 C.w gX3_hang_X1_put_n111 rfl rfl rfl (C.2.1.nm 9 rfl) (C.w (.initialized RX1) (by decide +kernel)) (by decide +kernel) ⟨Nat.le_of_ble_eq_true rfl, Nat.le_of_ble_eq_true rfl⟩, C.w (.instanceMethod yX1_put) (by decide +kernel), C.w (.selects RX1 yX1_put yX1_put) (by decide +kernel)⟩) rfl rfl [4, 5, 6, 7, 8, 9, 10, 11] [0, 1, 2, 3, 12, 13, 14, 15, 16, 17, 18, 19, 20, 21, 22, 23, 24, 25] [0, 1, 2, 3, 18, 19, 20, 21, 22, 23, 24, 25, 4, 5, 6, 7, 8, 9, 10, 11, 12, 13, 14, 15, 16, 17] rfl rfl (by decide) (by decide) (by decide) rfl (by decide) dX3_hang_74 rfl rfl (Nat.le_of_ble_eq_true rfl) ⟨Nat.zero_le _, Nat.zero_le _⟩ rfl rfl rfl rfl ?_
        refine q_aload_n (pc2 := 78) C 0 dX3_hang_77 rfl rfl rfl ?_
        refine q_get (q0 := 0) (k := 4) (v := .ref (a 31)) (pc2 := 81) C hT3 f27 (wX_g0 ct a (set2 (set2 x 9 (upd (x 9) lm.toNatClampNeg bar)) 11 (upd (x 11) lm.toNatClampNeg place))) rfl (by decide) rfl rfl dX3_hang_78 rfl ?_
        refine q_iload_n (pc2 := 82) C 2 dX3_hang_81 rfl rfl rfl ?_
        refine q_cVN (pc2 := 85) (As := [.int bar]) (st := []) (st2 := [.int (wOnX (set2 (set2 x 9 (upd (x 9) lm.toNatClampNeg bar)) 11 (upd (x 11) lm.toNatClampNeg place)) bar)]) (q0 := 0) (w2 := (wX ct a (set2 (set2 x 9 (upd (x 9) lm.toNatClampNeg bar)) 11 (upd (x 11) lm.toNatClampNeg place)))) (c2 := 0) (s2 := 0) C (c_X1_weightOn l D ct a (set2 (set2 x 9 (upd (x 9) lm.toNatClampNeg bar)) 11 (upd (x 11) lm.toNatClampNeg place)) bar) (⟨va_cnB 1 C.w gX3_hang_X1_weightOn_n114 rfl rfl rfl (C.2.1.nm 10 rfl) (C.w (.initialized RX1) (by decide +kernel)) (by decide +kernel) ⟨Nat.le_of_ble_eq_true rfl, Nat.le_of_ble_eq_true rfl⟩, C.w (.instanceMethod yX1_weightOn) (by decide +kernel), C.w (.selects RX1 yX1_weightOn yX1_weightOn) (by decide +kernel)⟩) rfl rfl [4, 5, 6, 7, 8, 9, 10, 11] [0, 1, 2, 3, 12, 13, 14, 15, 16, 17, 18, 19, 20, 21, 22, 23, 24, 25] [0, 1, 2, 3, 18, 19, 20, 21, 22, 23, 24, 25, 4, 5, 6, 7, 8, 9, 10, 11, 12, 13, 14, 15, 16, 17] rfl rfl (by decide) (by decide) (by decide) rfl (by decide) dX3_hang_82 rfl rfl (Nat.le_of_ble_eq_true rfl) ⟨Nat.zero_le _, Nat.zero_le _⟩ rfl rfl rfl rfl ?_
        exact q_zretX C hQ rfl (rfl) (Nat.zero_le _) (Nat.zero_le _) dX3_hang_85 ⟨(by rw [if_pos k0, if_pos k1, if_pos k2, if_pos k3]), rfl, rfl⟩
      · skip
        have hoc : (if (0 ≤ lm ∧ lm < x 0 0) then (if (0 ≤ bar ∧ bar < x 5 h) then (if (plcX x h bar.toNatClampNeg place) then (if (bearX x h lm.toNatClampNeg bar.toNatClampNeg ∧ clrX x lm bar place) then none else some eS) else some eI) else some eI) else some eI) = some eS := (by rw [if_pos k0, if_pos k1, if_pos k2, if_neg (fun z => b2_eq.mp c54 z.2)])
        exact q_throwS C hl hQ htab (cls := "java/lang/IllegalStateException") (names := ["java/lang/RuntimeException", "java/lang/Exception"]) rfl 1 rfl (by decide +kernel) (by decide +kernel) (C.w (.classLink RX3 59 "java/lang/IllegalStateException") (by decide +kernel)) (C.w (.initialized "java/lang/IllegalStateException") (by decide +kernel)) (q_atS C.2.1 (fun w hw => C.w w (List.mem_cons_of_mem _ (List.mem_append_right _ hw))) q_ng2 (by decide +kernel)) q_ot2 dX3_hang_57 dX3_hang_60 dX3_hang_61 dX3_hang_63 dX3_hang_66 (Nat.le_of_ble_eq_true rfl) (Nat.le_of_ble_eq_true rfl) (ocC_of hoc) (ocS_of hoc) (ocC_of hoc) (ocS_of hoc) ⟨hoc, rfl⟩
  · skip
    have hoc : (if (0 ≤ lm ∧ lm < x 0 0) then (if (0 ≤ bar ∧ bar < x 5 h) then (if (plcX x h bar.toNatClampNeg place) then (if (bearX x h lm.toNatClampNeg bar.toNatClampNeg ∧ clrX x lm bar place) then none else some eS) else some eI) else some eI) else some eI) = some eI := (by rw [if_pos k0, if_pos k1, if_neg (b2_eq.mp c19)])
    exact q_throwS C hl hQ htab (cls := "java/lang/IndexOutOfBoundsException") (names := ["java/lang/RuntimeException", "java/lang/Exception"]) rfl 0 rfl (by decide +kernel) (by decide +kernel) (C.w (.classLink RX3 45 "java/lang/IndexOutOfBoundsException") (by decide +kernel)) (C.w (.initialized "java/lang/IndexOutOfBoundsException") (by decide +kernel)) (q_atS C.2.1 (fun w hw => C.w w (List.mem_cons_of_mem _ (List.mem_append_left _ (List.mem_append_right _ hw)))) q_ng0 (by decide +kernel)) q_ot0 dX3_hang_22 dX3_hang_25 dX3_hang_26 dX3_hang_28 dX3_hang_31 (Nat.le_of_ble_eq_true rfl) (Nat.le_of_ble_eq_true rfl) (ocC_of hoc) (ocS_of hoc) (ocC_of hoc) (ocS_of hoc) ⟨hoc, rfl⟩

set_option maxHeartbeats 4000000 in
set_option maxRecDepth 100000 in
theorem c_X3_down (l : Launch) (hl : l.stackTraces = false) (D : va_G) (ct : Nat → ClassId) (a : Nat → Nat) (x : Nat → Nat → Int32) (n : Nat) (hn : x 0 0 = nI n) (hn10 : n ≤ 10) (lm : Int32) : qMX l yX3_down wsX3_down ({ frames := 7, cells := (ocC (if (0 ≤ lm ∧ lm < x 0 0) then none else some eI)), slots := (ocS (if (0 ≤ lm ∧ lm < x 0 0) then none else some eI)), locals := 111 }) D ct [.ref (a 30), .int lm] (wX ct a x) (qDo (if (0 ≤ lm ∧ lm < x 0 0) then none else some eI) (some (.int (b2 (x 9 lm.toNatClampNeg ≠ -1)))) (wX ct a (set2 x 9 (upd (x 9) lm.toNatClampNeg (-1))))) (qDx (if (0 ≤ lm ∧ lm < x 0 0) then none else some eI) (wX ct a x)) (ocC (if (0 ≤ lm ∧ lm < x 0 0) then none else some eI)) (ocS (if (0 ≤ lm ∧ lm < x 0 0) then none else some eI)) := by
  refine q_startX (ret := some .boolean) (lv := [(0, .ref (a 30)), (1, .int lm)]) (by decide +kernel) rfl (Nat.le_of_ble_eq_true rfl) rfl ?_
  intro p e s m args below meth c A Q C hQ htab
  have hT3 : ∀ w ∈ u_ws RX3 TX3 7, w ∈ wsX3_down := by decide +kernel
  have hT1 : ∀ w ∈ u_ws RX1 TX1 8, w ∈ wsX3_down := by decide +kernel
  have f27 : (Cond.fieldLink RX3 27 "PlotPatch" "rig" "LPlotPatch$Rig;").before args s = true := C.w _ (by decide +kernel)
  refine q_aload_n (pc2 := 1) C 0 dX3_down_0 rfl rfl rfl ?_
  refine q_iload_n (pc2 := 2) C 1 dX3_down_1 rfl rfl rfl ?_
  have hx0 : ∀ E : String, (if (0 ≤ lm ∧ lm < x 0 0) then none else some eI) = some E → (if (0 ≤ lm ∧ lm < x 0 0) then none else some eI) = some E := fun E hE => by obtain ⟨hc, rfl⟩ := oc_some hE; exact (by rw [if_neg hc])
  refine q_tV (pc2 := 5) (As := [.int lm]) (st := []) (st2 := []) (b := (a 30)) (q0 := 0) (w2 := (wX ct a x)) C (c_X3_checkLamp l hl D ct a x lm) (cwV 1 C.w gX3_down_X3_checkLamp rfl rfl rfl (by decide +kernel) ⟨Nat.le_of_ble_eq_true rfl, Nat.le_of_ble_eq_true rfl⟩) (wX_g0 ct a x) rfl [0, 1, 2, 3, 4, 5, 6, 7, 8, 9, 10, 11, 12, 13, 14, 15, 16, 17, 18, 19, 20, 21, 22, 23, 24, 25] [] [0, 1, 2, 3, 4, 5, 6, 7, 8, 9, 10, 11, 12, 13, 14, 15, 16, 17, 18, 19, 20, 21, 22, 23, 24, 25] rfl rfl (by decide) (by decide) (by decide) rfl (by decide) rfl dX3_down_2 rfl rfl (Nat.le_of_ble_eq_true rfl) ⟨ocC_le (fun E hE => ⟨_, hx0 E hE⟩), ocS_le (fun E hE => ⟨_, hx0 E hE⟩)⟩ rfl rfl (fun E hE => q_outX C hQ htab (ocC_of (hx0 E hE)) (ocS_of (hx0 E hE)) ⟨hx0 E hE, rfl⟩) (fun hk0 => ?_)
  have k0 := oc_none hk0
  have hL := idxL (k := n) (by have z := k0; rw [hn] at z; exact z) (by omega)
  refine q_aload_n (pc2 := 6) C 0 dX3_down_5 rfl rfl rfl ?_
  refine q_get (q0 := 0) (k := 4) (v := .ref (a 31)) (pc2 := 9) C hT3 f27 (wX_g0 ct a x) rfl (by decide) rfl rfl dX3_down_6 rfl ?_
  refine q_iload_n (pc2 := 10) C 1 dX3_down_9 rfl rfl rfl ?_
  refine q_cVN (pc2 := 13) (As := [.int lm]) (st := []) (st2 := [.int (b2 (x 9 lm.toNatClampNeg ≠ -1))]) (q0 := 0) (w2 := (wX ct a x)) (c2 := 0) (s2 := 0) C ((q_as (by rw [← hL.2]) (c_X1_hangs l D ct a x lm.toNatClampNeg (by have := hL.1; omega)))) (⟨va_cnB 1 C.w gX3_down_X1_hangs_n117 rfl rfl rfl (C.2.1.nm 3 rfl) (C.w (.initialized RX1) (by decide +kernel)) (by decide +kernel) ⟨Nat.le_of_ble_eq_true rfl, Nat.le_of_ble_eq_true rfl⟩, C.w (.instanceMethod yX1_hangs) (by decide +kernel), C.w (.selects RX1 yX1_hangs yX1_hangs) (by decide +kernel)⟩) rfl rfl [4, 5, 6, 7, 8, 9, 10, 11] [0, 1, 2, 3, 12, 13, 14, 15, 16, 17, 18, 19, 20, 21, 22, 23, 24, 25] [0, 1, 2, 3, 18, 19, 20, 21, 22, 23, 24, 25, 4, 5, 6, 7, 8, 9, 10, 11, 12, 13, 14, 15, 16, 17] rfl rfl (by decide) (by decide) (by decide) rfl (by decide) dX3_down_10 rfl rfl (Nat.le_of_ble_eq_true rfl) ⟨Nat.zero_le _, Nat.zero_le _⟩ rfl rfl rfl rfl ?_
  refine q_istore_n (lv' := [(2, .int (b2 (x 9 lm.toNatClampNeg ≠ -1))), (0, .ref (a 30)), (1, .int lm)]) (pc2 := 14) C dX3_down_13 rfl (by decide) rfl rfl ?_
  refine q_aload_n (pc2 := 15) C 1 dX3_down_14 rfl rfl rfl ?_
  refine q_get (q0 := 0) (k := 4) (v := .ref (a 31)) (pc2 := 18) C hT3 f27 (wX_g0 ct a x) rfl (by decide) rfl rfl dX3_down_15 rfl ?_
  refine q_getN (q0 := 4) (k := 5) (v := .ref (a 9)) (pc2 := 21) C hT1 (C.2.1.nf 4 rfl) (wX_g4 ct a x) rfl (by decide) rfl rfl dX3_down_18 rfl ?_
  refine q_iload_n (pc2 := 22) C 2 dX3_down_21 rfl rfl rfl ?_
  refine q_iconst (v := (-1)) (pc2 := 23) C dX3_down_22 (by decide) rfl ?_
  refine q_iast (q0 := 9) (f := (x 9)) (ws' := (wX ct a (set2 x 9 (upd (x 9) lm.toNatClampNeg (-1))))) (pc2 := 24) C lm.toNatClampNeg (wX_g9 ct a x) rfl (hL.2) (by have := hL.1; omega) (by decide) (wX_a9 ct a x (upd (x 9) lm.toNatClampNeg (-1))) dX3_down_23 rfl ?_
  refine q_iload_n (pc2 := 25) C 0 dX3_down_24 rfl rfl rfl ?_
  exact q_zretX C hQ rfl (b2_nar _) (Nat.zero_le _) (Nat.zero_le _) dX3_down_25 ⟨(by rw [if_pos k0]), rfl, rfl⟩

set_option maxHeartbeats 4000000 in
set_option maxRecDepth 100000 in
theorem c_X3_onBar (l : Launch) (hl : l.stackTraces = false) (D : va_G) (ct : Nat → ClassId) (a : Nat → Nat) (x : Nat → Nat → Int32) (h : Nat) (hh : x 4 0 = nI h) (hlt : h < 2) (kb : Nat) (hkb : x 5 h = nI kb) (hkb4 : kb ≤ 4) (bar rank : Int32) : qMX l yX3_onBar wsX3_onBar ({ frames := 7, cells := (ocC (if (0 ≤ bar ∧ bar < x 5 h) then (if ((rnkX x bar rank) ≠ -1) then none else some eI) else some eI)), slots := (ocS (if (0 ≤ bar ∧ bar < x 5 h) then (if ((rnkX x bar rank) ≠ -1) then none else some eI) else some eI)), locals := 111 }) D ct [.ref (a 30), .int bar, .int rank] (wX ct a x) (qDo (if (0 ≤ bar ∧ bar < x 5 h) then (if ((rnkX x bar rank) ≠ -1) then none else some eI) else some eI) (some (.int (rnkX x bar rank))) (wX ct a x)) (qDx (if (0 ≤ bar ∧ bar < x 5 h) then (if ((rnkX x bar rank) ≠ -1) then none else some eI) else some eI) (wX ct a x)) (ocC (if (0 ≤ bar ∧ bar < x 5 h) then (if ((rnkX x bar rank) ≠ -1) then none else some eI) else some eI)) (ocS (if (0 ≤ bar ∧ bar < x 5 h) then (if ((rnkX x bar rank) ≠ -1) then none else some eI) else some eI)) := by
  refine q_startX (ret := some .int) (lv := [(0, .ref (a 30)), (1, .int bar), (2, .int rank)]) (by decide +kernel) rfl (Nat.le_of_ble_eq_true rfl) rfl ?_
  intro p e s m args below meth c A Q C hQ htab
  have hT3 : ∀ w ∈ u_ws RX3 TX3 7, w ∈ wsX3_onBar := by decide +kernel
  have f27 : (Cond.fieldLink RX3 27 "PlotPatch" "rig" "LPlotPatch$Rig;").before args s = true := C.w _ (by decide +kernel)
  refine q_aload_n (pc2 := 1) C 0 dX3_onBar_0 rfl rfl rfl ?_
  refine q_iload_n (pc2 := 2) C 1 dX3_onBar_1 rfl rfl rfl ?_
  have hx0 : ∀ E : String, (if (0 ≤ bar ∧ bar < x 5 h) then none else some eI) = some E → (if (0 ≤ bar ∧ bar < x 5 h) then (if ((rnkX x bar rank) ≠ -1) then none else some eI) else some eI) = some E := fun E hE => by obtain ⟨hc, rfl⟩ := oc_some hE; exact (by rw [if_neg hc])
  refine q_tV (pc2 := 5) (As := [.int bar]) (st := []) (st2 := []) (b := (a 30)) (q0 := 0) (w2 := (wX ct a x)) C (c_X3_checkBar l hl D ct a x h hh hlt bar) (cwV 1 C.w gX3_onBar_X3_checkBar rfl rfl rfl (by decide +kernel) ⟨Nat.le_of_ble_eq_true rfl, Nat.le_of_ble_eq_true rfl⟩) (wX_g0 ct a x) rfl [0, 1, 2, 3, 4, 5, 6, 7, 8, 9, 10, 11, 12, 13, 14, 15, 16, 17, 18, 19, 20, 21, 22, 23, 24, 25] [] [0, 1, 2, 3, 4, 5, 6, 7, 8, 9, 10, 11, 12, 13, 14, 15, 16, 17, 18, 19, 20, 21, 22, 23, 24, 25] rfl rfl (by decide) (by decide) (by decide) rfl (by decide) rfl dX3_onBar_2 rfl rfl (Nat.le_of_ble_eq_true rfl) ⟨ocC_le (fun E hE => ⟨_, hx0 E hE⟩), ocS_le (fun E hE => ⟨_, hx0 E hE⟩)⟩ rfl rfl (fun E hE => q_outX C hQ htab (ocC_of (hx0 E hE)) (ocS_of (hx0 E hE)) ⟨hx0 E hE, rfl⟩) (fun hk0 => ?_)
  have k0 := oc_none hk0
  have hBr := idxL (k := kb) (by have z := k0; rw [hkb] at z; exact z) (by omega)
  have hB4 : bar.toNatClampNeg < 4 := by omega
  refine q_aload_n (pc2 := 6) C 0 dX3_onBar_5 rfl rfl rfl ?_
  refine q_get (q0 := 0) (k := 4) (v := .ref (a 31)) (pc2 := 9) C hT3 f27 (wX_g0 ct a x) rfl (by decide) rfl rfl dX3_onBar_6 rfl ?_
  refine q_iload_n (pc2 := 10) C 1 dX3_onBar_9 rfl rfl rfl ?_
  refine q_iload_n (pc2 := 11) C 2 dX3_onBar_10 rfl rfl rfl ?_
  refine q_cVN (pc2 := 14) (As := [.int bar, .int rank]) (st := []) (st2 := [.int (rnkX x bar rank)]) (q0 := 0) (w2 := (wX ct a x)) (c2 := 0) (s2 := 0) C (c_X1_ranked l D ct a x bar rank) (⟨va_cnB 2 C.w gX3_onBar_X1_ranked_n124 rfl rfl rfl (C.2.1.nm 15 rfl) (C.w (.initialized RX1) (by decide +kernel)) (by decide +kernel) ⟨Nat.le_of_ble_eq_true rfl, Nat.le_of_ble_eq_true rfl⟩, C.w (.instanceMethod yX1_ranked) (by decide +kernel), C.w (.selects RX1 yX1_ranked yX1_ranked) (by decide +kernel)⟩) rfl rfl [4, 5, 6, 7, 8, 9, 10, 11] [0, 1, 2, 3, 12, 13, 14, 15, 16, 17, 18, 19, 20, 21, 22, 23, 24, 25] [0, 1, 2, 3, 18, 19, 20, 21, 22, 23, 24, 25, 4, 5, 6, 7, 8, 9, 10, 11, 12, 13, 14, 15, 16, 17] rfl rfl (by decide) (by decide) (by decide) rfl (by decide) dX3_onBar_11 rfl rfl (Nat.le_of_ble_eq_true rfl) ⟨Nat.zero_le _, Nat.zero_le _⟩ rfl rfl rfl rfl ?_
  refine q_istore_n (lv' := [(3, .int (rnkX x bar rank)), (0, .ref (a 30)), (1, .int bar), (2, .int rank)]) (pc2 := 15) C dX3_onBar_14 rfl (by decide) rfl rfl ?_
  refine q_iload_n (pc2 := 16) C 0 dX3_onBar_15 rfl rfl rfl ?_
  refine q_iconst (v := (-1)) (pc2 := 17) C dX3_onBar_16 (by decide) rfl ?_
  refine q_icmp_ne (tgt := 30) (pc2 := 20) C dX3_onBar_17 (by decide) rfl (fun c17 => ?_) (fun c17 => ?_)
  · skip
    have k1 : ((rnkX x bar rank) ≠ -1) := c17
    refine q_iload_n (pc2 := 31) C 0 dX3_onBar_30 rfl rfl rfl ?_
    exact q_zretX C hQ rfl (rfl) (Nat.zero_le _) (Nat.zero_le _) dX3_onBar_31 ⟨(by rw [if_pos k0, if_pos k1]), rfl, rfl⟩
  · skip
    have hoc : (if (0 ≤ bar ∧ bar < x 5 h) then (if ((rnkX x bar rank) ≠ -1) then none else some eI) else some eI) = some eI := (by rw [if_pos k0, if_neg (fun z => z c17)])
    exact q_throwS C hl hQ htab (cls := "java/lang/IndexOutOfBoundsException") (names := ["java/lang/RuntimeException", "java/lang/Exception"]) rfl 2 rfl (by decide +kernel) (by decide +kernel) (C.w (.classLink RX3 45 "java/lang/IndexOutOfBoundsException") (by decide +kernel)) (C.w (.initialized "java/lang/IndexOutOfBoundsException") (by decide +kernel)) (q_atS C.2.1 (fun w hw => C.w w (List.mem_cons_of_mem _ (List.mem_append_right _ hw))) q_ng0 (by decide +kernel)) q_ot0 dX3_onBar_20 dX3_onBar_23 dX3_onBar_24 dX3_onBar_26 dX3_onBar_29 (Nat.le_of_ble_eq_true rfl) (Nat.le_of_ble_eq_true rfl) (ocC_of hoc) (ocS_of hoc) (ocC_of hoc) (ocS_of hoc) ⟨hoc, rfl⟩

set_option maxHeartbeats 4000000 in
set_option maxRecDepth 100000 in
theorem c_X3_where (l : Launch) (hl : l.stackTraces = false) (D : va_G) (ct : Nat → ClassId) (a : Nat → Nat) (x : Nat → Nat → Int32) (n : Nat) (hn : x 0 0 = nI n) (hn10 : n ≤ 10) (lm : Int32) : qMX l yX3_where wsX3_where ({ frames := 7, cells := (ocC (if (0 ≤ lm ∧ lm < x 0 0) then none else some eI)), slots := (ocS (if (0 ≤ lm ∧ lm < x 0 0) then none else some eI)), locals := 111 }) D ct [.ref (a 30), .int lm] (wX ct a x) (qDo (if (0 ≤ lm ∧ lm < x 0 0) then none else some eI) (some (.int (if x 9 lm.toNatClampNeg ≠ -1 then 1000 * x 9 lm.toNatClampNeg + x 11 lm.toNatClampNeg else -1))) (wX ct a x)) (qDx (if (0 ≤ lm ∧ lm < x 0 0) then none else some eI) (wX ct a x)) (ocC (if (0 ≤ lm ∧ lm < x 0 0) then none else some eI)) (ocS (if (0 ≤ lm ∧ lm < x 0 0) then none else some eI)) := by
  refine q_startX (ret := some .int) (lv := [(0, .ref (a 30)), (1, .int lm)]) (by decide +kernel) rfl (Nat.le_of_ble_eq_true rfl) rfl ?_
  intro p e s m args below meth c A Q C hQ htab
  have hT3 : ∀ w ∈ u_ws RX3 TX3 7, w ∈ wsX3_where := by decide +kernel
  have hT1 : ∀ w ∈ u_ws RX1 TX1 8, w ∈ wsX3_where := by decide +kernel
  have f27 : (Cond.fieldLink RX3 27 "PlotPatch" "rig" "LPlotPatch$Rig;").before args s = true := C.w _ (by decide +kernel)
  refine q_aload_n (pc2 := 1) C 0 dX3_where_0 rfl rfl rfl ?_
  refine q_iload_n (pc2 := 2) C 1 dX3_where_1 rfl rfl rfl ?_
  have hx0 : ∀ E : String, (if (0 ≤ lm ∧ lm < x 0 0) then none else some eI) = some E → (if (0 ≤ lm ∧ lm < x 0 0) then none else some eI) = some E := fun E hE => by obtain ⟨hc, rfl⟩ := oc_some hE; exact (by rw [if_neg hc])
  refine q_tV (pc2 := 5) (As := [.int lm]) (st := []) (st2 := []) (b := (a 30)) (q0 := 0) (w2 := (wX ct a x)) C (c_X3_checkLamp l hl D ct a x lm) (cwV 1 C.w gX3_where_X3_checkLamp rfl rfl rfl (by decide +kernel) ⟨Nat.le_of_ble_eq_true rfl, Nat.le_of_ble_eq_true rfl⟩) (wX_g0 ct a x) rfl [0, 1, 2, 3, 4, 5, 6, 7, 8, 9, 10, 11, 12, 13, 14, 15, 16, 17, 18, 19, 20, 21, 22, 23, 24, 25] [] [0, 1, 2, 3, 4, 5, 6, 7, 8, 9, 10, 11, 12, 13, 14, 15, 16, 17, 18, 19, 20, 21, 22, 23, 24, 25] rfl rfl (by decide) (by decide) (by decide) rfl (by decide) rfl dX3_where_2 rfl rfl (Nat.le_of_ble_eq_true rfl) ⟨ocC_le (fun E hE => ⟨_, hx0 E hE⟩), ocS_le (fun E hE => ⟨_, hx0 E hE⟩)⟩ rfl rfl (fun E hE => q_outX C hQ htab (ocC_of (hx0 E hE)) (ocS_of (hx0 E hE)) ⟨hx0 E hE, rfl⟩) (fun hk0 => ?_)
  have k0 := oc_none hk0
  have hL := idxL (k := n) (by have z := k0; rw [hn] at z; exact z) (by omega)
  refine q_aload_n (pc2 := 6) C 0 dX3_where_5 rfl rfl rfl ?_
  refine q_get (q0 := 0) (k := 4) (v := .ref (a 31)) (pc2 := 9) C hT3 f27 (wX_g0 ct a x) rfl (by decide) rfl rfl dX3_where_6 rfl ?_
  refine q_iload_n (pc2 := 10) C 1 dX3_where_9 rfl rfl rfl ?_
  refine q_cVN (pc2 := 13) (As := [.int lm]) (st := []) (st2 := [.int (b2 (x 9 lm.toNatClampNeg ≠ -1))]) (q0 := 0) (w2 := (wX ct a x)) (c2 := 0) (s2 := 0) C ((q_as (by rw [← hL.2]) (c_X1_hangs l D ct a x lm.toNatClampNeg (by have := hL.1; omega)))) (⟨va_cnB 1 C.w gX3_where_X1_hangs_n117 rfl rfl rfl (C.2.1.nm 3 rfl) (C.w (.initialized RX1) (by decide +kernel)) (by decide +kernel) ⟨Nat.le_of_ble_eq_true rfl, Nat.le_of_ble_eq_true rfl⟩, C.w (.instanceMethod yX1_hangs) (by decide +kernel), C.w (.selects RX1 yX1_hangs yX1_hangs) (by decide +kernel)⟩) rfl rfl [4, 5, 6, 7, 8, 9, 10, 11] [0, 1, 2, 3, 12, 13, 14, 15, 16, 17, 18, 19, 20, 21, 22, 23, 24, 25] [0, 1, 2, 3, 18, 19, 20, 21, 22, 23, 24, 25, 4, 5, 6, 7, 8, 9, 10, 11, 12, 13, 14, 15, 16, 17] rfl rfl (by decide) (by decide) (by decide) rfl (by decide) dX3_where_10 rfl rfl (Nat.le_of_ble_eq_true rfl) ⟨Nat.zero_le _, Nat.zero_le _⟩ rfl rfl rfl rfl ?_
  refine q_if_eq (tgt := 42) (pc2 := 16) C dX3_where_13 (by decide) rfl (fun c13 => ?_) (fun c13 => ?_)
  · skip
    refine q_iconst (v := (-1)) (pc2 := 43) C dX3_where_42 (by decide) rfl ?_
    exact q_zretX C hQ rfl (rfl) (Nat.zero_le _) (Nat.zero_le _) dX3_where_43 ⟨(by rw [if_pos k0]), by rw [if_neg (b2_eq.mp c13)], rfl⟩
  · skip
    refine q_sipush (v := 1000) (pc2 := 19) C dX3_where_16 (by decide) rfl ?_
    refine q_aload_n (pc2 := 20) C 0 dX3_where_19 rfl rfl rfl ?_
    refine q_get (q0 := 0) (k := 4) (v := .ref (a 31)) (pc2 := 23) C hT3 f27 (wX_g0 ct a x) rfl (by decide) rfl rfl dX3_where_20 rfl ?_
    refine q_getN (q0 := 4) (k := 5) (v := .ref (a 9)) (pc2 := 26) C hT1 (C.2.1.nf 4 rfl) (wX_g4 ct a x) rfl (by decide) rfl rfl dX3_where_23 rfl ?_
    refine q_iload_n (pc2 := 27) C 1 dX3_where_26 rfl rfl rfl ?_
    refine q_iald (q0 := 9) (f := (x 9)) (pc2 := 28) C lm.toNatClampNeg (wX_g9 ct a x) rfl (hL.2) (by have := hL.1; omega) (by decide) dX3_where_27 rfl ?_
    refine q_imul (pc2 := 29) C dX3_where_28 rfl rfl ?_
    refine q_aload_n (pc2 := 30) C 0 dX3_where_29 rfl rfl rfl ?_
    refine q_get (q0 := 0) (k := 4) (v := .ref (a 31)) (pc2 := 33) C hT3 f27 (wX_g0 ct a x) rfl (by decide) rfl rfl dX3_where_30 rfl ?_
    refine q_getN (q0 := 4) (k := 7) (v := .ref (a 11)) (pc2 := 36) C hT1 (C.2.1.nf 5 rfl) (wX_g4 ct a x) rfl (by decide) rfl rfl dX3_where_33 rfl ?_
    refine q_iload_n (pc2 := 37) C 1 dX3_where_36 rfl rfl rfl ?_
    refine q_iald (q0 := 11) (f := (x 11)) (pc2 := 38) C lm.toNatClampNeg (wX_g11 ct a x) rfl (hL.2) (by have := hL.1; omega) (by decide) dX3_where_37 rfl ?_
    refine q_iadd (pc2 := 39) C dX3_where_38 rfl rfl ?_
    refine q_goto (pc2 := 43) C dX3_where_39 (by decide) ?_
    exact q_zretX C hQ rfl (rfl) (Nat.zero_le _) (Nat.zero_le _) dX3_where_43 ⟨(by rw [if_pos k0]), by rw [if_pos (b2_ne.mp c13)], rfl⟩

set_option maxHeartbeats 4000000 in
set_option maxRecDepth 100000 in
theorem c_X3_tour (l : Launch) (D : va_G) (ct : Nat → ClassId) (a : Nat → Nat) (x : Nat → Nat → Int32) (h : Nat) (hh : x 4 0 = nI h) (hlt : h < 2) (kb : Nat) (hkb : x 5 (1 - h) = nI kb) (hkb4 : kb ≤ 4) : qM l yX3_tour wsX3_tour ({ frames := 5, cells := 0, slots := 0, locals := 114 }) D ct [.ref (a 30)] (wX ct a x) (qD (some (.int (trn (tr0 x (1 - h)) (1 - h) 10).2.2)) (wX ct a (set2 (set2 (tr0 x (1 - h)) 9 (trn (tr0 x (1 - h)) (1 - h) 10).1) 11 (trn (tr0 x (1 - h)) (1 - h) 10).2.1))) 0 0 := by
  refine q_start (ret := some .int) (lv := [(0, .ref (a 30))]) (by decide +kernel) rfl (Nat.le_of_ble_eq_true rfl) rfl ?_
  intro p e s m args below meth c A Q C hQ hnm
  have hT3 : ∀ w ∈ u_ws RX3 TX3 7, w ∈ wsX3_tour := by decide +kernel
  have f27 : (Cond.fieldLink RX3 27 "PlotPatch" "rig" "LPlotPatch$Rig;").before args s = true := C.w _ (by decide +kernel)
  refine q_aload_n (pc2 := 1) C 0 dX3_tour_0 rfl rfl rfl ?_
  refine q_get (q0 := 0) (k := 4) (v := .ref (a 31)) (pc2 := 4) C hT3 f27 (wX_g0 ct a x) rfl (by decide) rfl rfl dX3_tour_1 rfl ?_
  refine q_cVN (pc2 := 7) (As := []) (st := []) (st2 := [.int (trn (tr0 x (1 - h)) (1 - h) 10).2.2]) (q0 := 0) (w2 := (wX ct a (set2 (set2 (set2 (set2 x 10 (fun k => if k < 10 then x 9 k else x 10 k)) 4 (fun _ => nI (1 - h))) 9 (trn (tr0 x (1 - h)) (1 - h) 10).1) 11 (trn (tr0 x (1 - h)) (1 - h) 10).2.1))) (c2 := 0) (s2 := 0) C (c_X1_changeHouse l D ct a x h hh hlt kb hkb hkb4) (⟨va_cnB 0 C.w gX3_tour_X1_changeHouse_n133 rfl rfl rfl (C.2.1.nm 21 rfl) (C.w (.initialized RX1) (by decide +kernel)) (by decide +kernel) ⟨Nat.le_of_ble_eq_true rfl, Nat.le_of_ble_eq_true rfl⟩, C.w (.instanceMethod yX1_changeHouse) (by decide +kernel), C.w (.selects RX1 yX1_changeHouse yX1_changeHouse) (by decide +kernel)⟩) rfl rfl [4, 5, 6, 7, 8, 9, 10, 11] [0, 1, 2, 3, 12, 13, 14, 15, 16, 17, 18, 19, 20, 21, 22, 23, 24, 25] [0, 1, 2, 3, 18, 19, 20, 21, 22, 23, 24, 25, 4, 5, 6, 7, 8, 9, 10, 11, 12, 13, 14, 15, 16, 17] rfl rfl (by decide) (by decide) (by decide) rfl (by decide) dX3_tour_4 rfl rfl (Nat.le_of_ble_eq_true rfl) ⟨Nat.zero_le _, Nat.zero_le _⟩ rfl rfl rfl rfl ?_
  exact q_zret C hQ rfl (rfl) (Nat.zero_le _) (Nat.zero_le _) dX3_tour_7 ⟨rfl, rfl⟩

set_option maxHeartbeats 4000000 in
set_option maxRecDepth 100000 in
theorem c_X3_patch (l : Launch) (hl : l.stackTraces = false) (D : va_G) (ct : Nat → ClassId) (a : Nat → Nat) (x : Nat → Nat → Int32) (n : Nat) (hn : x 0 0 = nI n) (hn10 : n ≤ 10) (lm first : Int32) : qMX l yX3_patch wsX3_patch ({ frames := 7, cells := (ocC (if (0 ≤ lm ∧ lm < x 0 0) then (if (-1 ≤ first ∧ first ≤ 100 - x 13 lm.toNatClampNeg) then none else some eA) else some eI)), slots := (ocS (if (0 ≤ lm ∧ lm < x 0 0) then (if (-1 ≤ first ∧ first ≤ 100 - x 13 lm.toNatClampNeg) then none else some eA) else some eI)), locals := 112 }) D ct [.ref (a 30), .int lm, .int first] (wX ct a x) (qDo (if (0 ≤ lm ∧ lm < x 0 0) then (if (-1 ≤ first ∧ first ≤ 100 - x 13 lm.toNatClampNeg) then none else some eA) else some eI) (some (.int (dbl (fun k => cntH (set2 x 12 (upd (x 12) lm.toNatClampNeg first)) (nI k))))) (wX ct a (set2 x 12 (upd (x 12) lm.toNatClampNeg first)))) (qDx (if (0 ≤ lm ∧ lm < x 0 0) then (if (-1 ≤ first ∧ first ≤ 100 - x 13 lm.toNatClampNeg) then none else some eA) else some eI) (wX ct a x)) (ocC (if (0 ≤ lm ∧ lm < x 0 0) then (if (-1 ≤ first ∧ first ≤ 100 - x 13 lm.toNatClampNeg) then none else some eA) else some eI)) (ocS (if (0 ≤ lm ∧ lm < x 0 0) then (if (-1 ≤ first ∧ first ≤ 100 - x 13 lm.toNatClampNeg) then none else some eA) else some eI)) := by
  refine q_startX (ret := some .int) (lv := [(0, .ref (a 30)), (1, .int lm), (2, .int first)]) (by decide +kernel) rfl (Nat.le_of_ble_eq_true rfl) rfl ?_
  intro p e s m args below meth c A Q C hQ htab
  have hT3 : ∀ w ∈ u_ws RX3 TX3 7, w ∈ wsX3_patch := by decide +kernel
  have hT0 : ∀ w ∈ u_ws RX0 TX0 4, w ∈ wsX3_patch := by decide +kernel
  have f34 : (Cond.fieldLink RX3 34 "PlotPatch" "board" "LPlotPatch$Board;").before args s = true := C.w _ (by decide +kernel)
  refine q_aload_n (pc2 := 1) C 0 dX3_patch_0 rfl rfl rfl ?_
  refine q_iload_n (pc2 := 2) C 1 dX3_patch_1 rfl rfl rfl ?_
  have hx0 : ∀ E : String, (if (0 ≤ lm ∧ lm < x 0 0) then none else some eI) = some E → (if (0 ≤ lm ∧ lm < x 0 0) then (if (-1 ≤ first ∧ first ≤ 100 - x 13 lm.toNatClampNeg) then none else some eA) else some eI) = some E := fun E hE => by obtain ⟨hc, rfl⟩ := oc_some hE; exact (by rw [if_neg hc])
  refine q_tV (pc2 := 5) (As := [.int lm]) (st := []) (st2 := []) (b := (a 30)) (q0 := 0) (w2 := (wX ct a x)) C (c_X3_checkLamp l hl D ct a x lm) (cwV 1 C.w gX3_patch_X3_checkLamp rfl rfl rfl (by decide +kernel) ⟨Nat.le_of_ble_eq_true rfl, Nat.le_of_ble_eq_true rfl⟩) (wX_g0 ct a x) rfl [0, 1, 2, 3, 4, 5, 6, 7, 8, 9, 10, 11, 12, 13, 14, 15, 16, 17, 18, 19, 20, 21, 22, 23, 24, 25] [] [0, 1, 2, 3, 4, 5, 6, 7, 8, 9, 10, 11, 12, 13, 14, 15, 16, 17, 18, 19, 20, 21, 22, 23, 24, 25] rfl rfl (by decide) (by decide) (by decide) rfl (by decide) rfl dX3_patch_2 rfl rfl (Nat.le_of_ble_eq_true rfl) ⟨ocC_le (fun E hE => ⟨_, hx0 E hE⟩), ocS_le (fun E hE => ⟨_, hx0 E hE⟩)⟩ rfl rfl (fun E hE => q_outX C hQ htab (ocC_of (hx0 E hE)) (ocS_of (hx0 E hE)) ⟨hx0 E hE, rfl⟩) (fun hk0 => ?_)
  have k0 := oc_none hk0
  have hL := idxL (k := n) (by have z := k0; rw [hn] at z; exact z) (by omega)
  refine q_iload_n (pc2 := 6) C 2 dX3_patch_5 rfl rfl rfl ?_
  refine q_iconst (v := (-1)) (pc2 := 7) C dX3_patch_6 (by decide) rfl ?_
  refine q_bipush (v := 100) (pc2 := 9) C dX3_patch_7 (by decide) rfl ?_
  refine q_aload_n (pc2 := 10) C 0 dX3_patch_9 rfl rfl rfl ?_
  refine q_get (q0 := 0) (k := 5) (v := .ref (a 32)) (pc2 := 13) C hT3 f34 (wX_g0 ct a x) rfl (by decide) rfl rfl dX3_patch_10 rfl ?_
  refine q_getN (q0 := 12) (k := 1) (v := .ref (a 13)) (pc2 := 16) C hT0 (C.2.1.nf 2 rfl) (wX_g12 ct a x) rfl (by decide) rfl rfl dX3_patch_13 rfl ?_
  refine q_iload_n (pc2 := 17) C 1 dX3_patch_16 rfl rfl rfl ?_
  refine q_iald (q0 := 14) (f := (x 13)) (pc2 := 18) C lm.toNatClampNeg (wX_g14 ct a x) rfl (hL.2) (by have := hL.1; omega) (by decide) dX3_patch_17 rfl ?_
  refine q_isub (pc2 := 19) C dX3_patch_18 rfl rfl ?_
  have hx1 : ∀ E : String, (if (-1 ≤ first ∧ first ≤ 100 - x 13 lm.toNatClampNeg) then none else some eA) = some E → (if (0 ≤ lm ∧ lm < x 0 0) then (if (-1 ≤ first ∧ first ≤ 100 - x 13 lm.toNatClampNeg) then none else some eA) else some eI) = some E := fun E hE => by obtain ⟨hc, rfl⟩ := oc_some hE; exact (by rw [if_pos k0, if_neg hc])
  refine q_tS (pc2 := 22) (As := [.int first, .int (-1), .int (100 - ((x 13) lm.toNatClampNeg))]) (st := []) (st2 := []) (w2 := (wX ct a x)) C (c_X3_checkRange l hl D ct first (-1) (100 - ((x 13) lm.toNatClampNeg))) (va_cwS 3 C.w gX3_patch_X3_checkRange rfl rfl rfl (by decide +kernel) ⟨Nat.le_of_ble_eq_true rfl, Nat.le_of_ble_eq_true rfl⟩) [] [0, 1, 2, 3, 4, 5, 6, 7, 8, 9, 10, 11, 12, 13, 14, 15, 16, 17, 18, 19, 20, 21, 22, 23, 24, 25] [0, 1, 2, 3, 4, 5, 6, 7, 8, 9, 10, 11, 12, 13, 14, 15, 16, 17, 18, 19, 20, 21, 22, 23, 24, 25] rfl rfl (by decide) (by decide) (by decide) rfl (by decide) rfl dX3_patch_19 rfl rfl (Nat.le_of_ble_eq_true rfl) ⟨ocC_le (fun E hE => ⟨_, hx1 E hE⟩), ocS_le (fun E hE => ⟨_, hx1 E hE⟩)⟩ rfl rfl (fun E hE => q_outX C hQ htab (ocC_of (hx1 E hE)) (ocS_of (hx1 E hE)) ⟨hx1 E hE, rfl⟩) (fun hk1 => ?_)
  have k1 := oc_none hk1
  refine q_aload_n (pc2 := 23) C 0 dX3_patch_22 rfl rfl rfl ?_
  refine q_get (q0 := 0) (k := 5) (v := .ref (a 32)) (pc2 := 26) C hT3 f34 (wX_g0 ct a x) rfl (by decide) rfl rfl dX3_patch_23 rfl ?_
  refine q_getN (q0 := 12) (k := 0) (v := .ref (a 12)) (pc2 := 29) C hT0 (C.2.1.nf 6 rfl) (wX_g12 ct a x) rfl (by decide) rfl rfl dX3_patch_26 rfl ?_
  refine q_iload_n (pc2 := 30) C 1 dX3_patch_29 rfl rfl rfl ?_
  refine q_iload_n (pc2 := 31) C 2 dX3_patch_30 rfl rfl rfl ?_
  refine q_iast (q0 := 13) (f := (x 12)) (ws' := (wX ct a (set2 x 12 (upd (x 12) lm.toNatClampNeg first)))) (pc2 := 32) C lm.toNatClampNeg (wX_g13 ct a x) rfl (hL.2) (by have := hL.1; omega) (by decide) (wX_a13 ct a x (upd (x 12) lm.toNatClampNeg first)) dX3_patch_31 rfl ?_
  refine q_aload_n (pc2 := 33) C 0 dX3_patch_32 rfl rfl rfl ?_
  refine q_get (q0 := 0) (k := 5) (v := .ref (a 32)) (pc2 := 36) C hT3 f34 (wX_g0 ct a (set2 x 12 (upd (x 12) lm.toNatClampNeg first))) rfl (by decide) rfl rfl dX3_patch_33 rfl ?_
  refine q_cVN (pc2 := 39) (As := []) (st := []) (st2 := [.int (dbl (fun k => cntH (set2 x 12 (upd (x 12) lm.toNatClampNeg first)) (nI k)))]) (q0 := 0) (w2 := (wX ct a (set2 x 12 (upd (x 12) lm.toNatClampNeg first)))) (c2 := 0) (s2 := 0) C (c_X0_countDoubles l D ct a (set2 x 12 (upd (x 12) lm.toNatClampNeg first))) (⟨va_cnB 0 C.w gX3_patch_X0_countDoubles_n140 rfl rfl rfl (C.2.1.nm 16 rfl) (C.w (.initialized RX0) (by decide +kernel)) (by decide +kernel) ⟨Nat.le_of_ble_eq_true rfl, Nat.le_of_ble_eq_true rfl⟩, C.w (.instanceMethod yX0_countDoubles) (by decide +kernel), C.w (.selects RX0 yX0_countDoubles yX0_countDoubles) (by decide +kernel)⟩) rfl rfl [12, 13, 14, 15, 16] [0, 1, 2, 3, 4, 5, 6, 7, 8, 9, 10, 11, 17, 18, 19, 20, 21, 22, 23, 24, 25] [0, 1, 2, 3, 4, 5, 6, 7, 8, 9, 10, 11, 21, 22, 23, 24, 25, 12, 13, 14, 15, 16, 17, 18, 19, 20] rfl rfl (by decide) (by decide) (by decide) rfl (by decide) dX3_patch_36 rfl rfl (Nat.le_of_ble_eq_true rfl) ⟨Nat.zero_le _, Nat.zero_le _⟩ rfl rfl rfl rfl ?_
  exact q_zretX C hQ rfl (rfl) (Nat.zero_le _) (Nat.zero_le _) dX3_patch_39 ⟨(by rw [if_pos k0, if_pos k1]), rfl, rfl⟩

set_option maxHeartbeats 4000000 in
set_option maxRecDepth 100000 in
theorem c_X3_gap (l : Launch) (hl : l.stackTraces = false) (D : va_G) (ct : Nat → ClassId) (a : Nat → Nat) (x : Nat → Nat → Int32) (many : Int32) : qMX l yX3_gap wsX3_gap ({ frames := 7, cells := (ocC (if (1 ≤ many ∧ many ≤ 100) then none else some eA)), slots := (ocS (if (1 ≤ many ∧ many ≤ 100) then none else some eA)), locals := 112 }) D ct [.ref (a 30), .int many] (wX ct a x) (qDo (if (1 ≤ many ∧ many ≤ 100) then none else some eA) (some (.int (gapf (fun k => cntH x (nI k)) many))) (wX ct a x)) (qDx (if (1 ≤ many ∧ many ≤ 100) then none else some eA) (wX ct a x)) (ocC (if (1 ≤ many ∧ many ≤ 100) then none else some eA)) (ocS (if (1 ≤ many ∧ many ≤ 100) then none else some eA)) := by
  refine q_startX (ret := some .int) (lv := [(0, .ref (a 30)), (1, .int many)]) (by decide +kernel) rfl (Nat.le_of_ble_eq_true rfl) rfl ?_
  intro p e s m args below meth c A Q C hQ htab
  have hT3 : ∀ w ∈ u_ws RX3 TX3 7, w ∈ wsX3_gap := by decide +kernel
  have f34 : (Cond.fieldLink RX3 34 "PlotPatch" "board" "LPlotPatch$Board;").before args s = true := C.w _ (by decide +kernel)
  refine q_iload_n (pc2 := 1) C 1 dX3_gap_0 rfl rfl rfl ?_
  refine q_iconst (v := 1) (pc2 := 2) C dX3_gap_1 (by decide) rfl ?_
  refine q_bipush (v := 100) (pc2 := 4) C dX3_gap_2 (by decide) rfl ?_
  have hx0 : ∀ E : String, (if (1 ≤ many ∧ many ≤ 100) then none else some eA) = some E → (if (1 ≤ many ∧ many ≤ 100) then none else some eA) = some E := fun E hE => by obtain ⟨hc, rfl⟩ := oc_some hE; exact (by rw [if_neg hc])
  refine q_tS (pc2 := 7) (As := [.int many, .int 1, .int 100]) (st := []) (st2 := []) (w2 := (wX ct a x)) C (c_X3_checkRange l hl D ct many 1 100) (va_cwS 3 C.w gX3_gap_X3_checkRange rfl rfl rfl (by decide +kernel) ⟨Nat.le_of_ble_eq_true rfl, Nat.le_of_ble_eq_true rfl⟩) [] [0, 1, 2, 3, 4, 5, 6, 7, 8, 9, 10, 11, 12, 13, 14, 15, 16, 17, 18, 19, 20, 21, 22, 23, 24, 25] [0, 1, 2, 3, 4, 5, 6, 7, 8, 9, 10, 11, 12, 13, 14, 15, 16, 17, 18, 19, 20, 21, 22, 23, 24, 25] rfl rfl (by decide) (by decide) (by decide) rfl (by decide) rfl dX3_gap_4 rfl rfl (Nat.le_of_ble_eq_true rfl) ⟨ocC_le (fun E hE => ⟨_, hx0 E hE⟩), ocS_le (fun E hE => ⟨_, hx0 E hE⟩)⟩ rfl rfl (fun E hE => q_outX C hQ htab (ocC_of (hx0 E hE)) (ocS_of (hx0 E hE)) ⟨hx0 E hE, rfl⟩) (fun hk0 => ?_)
  have k0 := oc_none hk0
  refine q_aload_n (pc2 := 8) C 0 dX3_gap_7 rfl rfl rfl ?_
  refine q_get (q0 := 0) (k := 5) (v := .ref (a 32)) (pc2 := 11) C hT3 f34 (wX_g0 ct a x) rfl (by decide) rfl rfl dX3_gap_8 rfl ?_
  refine q_iload_n (pc2 := 12) C 1 dX3_gap_11 rfl rfl rfl ?_
  refine q_cVN (pc2 := 15) (As := [.int many]) (st := []) (st2 := [.int (gapf (fun k => cntH x (nI k)) many)]) (q0 := 0) (w2 := (wX ct a x)) (c2 := 0) (s2 := 0) C (c_X0_lowestGap l D ct a x many) (⟨va_cnB 1 C.w gX3_gap_X0_lowestGap_n143 rfl rfl rfl (C.2.1.nm 4 rfl) (C.w (.initialized RX0) (by decide +kernel)) (by decide +kernel) ⟨Nat.le_of_ble_eq_true rfl, Nat.le_of_ble_eq_true rfl⟩, C.w (.instanceMethod yX0_lowestGap) (by decide +kernel), C.w (.selects RX0 yX0_lowestGap yX0_lowestGap) (by decide +kernel)⟩) rfl rfl [12, 13, 14, 15, 16] [0, 1, 2, 3, 4, 5, 6, 7, 8, 9, 10, 11, 17, 18, 19, 20, 21, 22, 23, 24, 25] [0, 1, 2, 3, 4, 5, 6, 7, 8, 9, 10, 11, 21, 22, 23, 24, 25, 12, 13, 14, 15, 16, 17, 18, 19, 20] rfl rfl (by decide) (by decide) (by decide) rfl (by decide) dX3_gap_12 rfl rfl (Nat.le_of_ble_eq_true rfl) ⟨Nat.zero_le _, Nat.zero_le _⟩ rfl rfl rfl rfl ?_
  exact q_zretX C hQ rfl (rfl) (Nat.zero_le _) (Nat.zero_le _) dX3_gap_15 ⟨(by rw [if_pos k0]), rfl, rfl⟩

set_option maxHeartbeats 4000000 in
set_option maxRecDepth 100000 in
theorem c_X3_plug (l : Launch) (hl : l.stackTraces = false) (D : va_G) (ct : Nat → ClassId) (a : Nat → Nat) (x : Nat → Nat → Int32) (n : Nat) (hn : x 0 0 = nI n) (hn10 : n ≤ 10) (lm circ : Int32) : qMX l yX3_plug wsX3_plug ({ frames := 7, cells := (ocC (if (0 ≤ lm ∧ lm < x 0 0) then (if (circ = -1 ∨ (0 ≤ circ ∧ circ < 4)) then none else some eI) else some eI)), slots := (ocS (if (0 ≤ lm ∧ lm < x 0 0) then (if (circ = -1 ∨ (0 ≤ circ ∧ circ < 4)) then none else some eI) else some eI)), locals := 111 }) D ct [.ref (a 30), .int lm, .int circ] (wX ct a x) (qDo (if (0 ≤ lm ∧ lm < x 0 0) then (if (circ = -1 ∨ (0 ≤ circ ∧ circ < 4)) then none else some eI) else some eI) (some (.int (x 14 lm.toNatClampNeg))) (wX ct a (set2 x 14 (upd (x 14) lm.toNatClampNeg circ)))) (qDx (if (0 ≤ lm ∧ lm < x 0 0) then (if (circ = -1 ∨ (0 ≤ circ ∧ circ < 4)) then none else some eI) else some eI) (wX ct a x)) (ocC (if (0 ≤ lm ∧ lm < x 0 0) then (if (circ = -1 ∨ (0 ≤ circ ∧ circ < 4)) then none else some eI) else some eI)) (ocS (if (0 ≤ lm ∧ lm < x 0 0) then (if (circ = -1 ∨ (0 ≤ circ ∧ circ < 4)) then none else some eI) else some eI)) := by
  refine q_startX (ret := some .int) (lv := [(0, .ref (a 30)), (1, .int lm), (2, .int circ)]) (by decide +kernel) rfl (Nat.le_of_ble_eq_true rfl) rfl ?_
  intro p e s m args below meth c A Q C hQ htab
  have hT3 : ∀ w ∈ u_ws RX3 TX3 7, w ∈ wsX3_plug := by decide +kernel
  have hT0 : ∀ w ∈ u_ws RX0 TX0 4, w ∈ wsX3_plug := by decide +kernel
  have f34 : (Cond.fieldLink RX3 34 "PlotPatch" "board" "LPlotPatch$Board;").before args s = true := C.w _ (by decide +kernel)
  refine q_aload_n (pc2 := 1) C 0 dX3_plug_0 rfl rfl rfl ?_
  refine q_iload_n (pc2 := 2) C 1 dX3_plug_1 rfl rfl rfl ?_
  have hx0 : ∀ E : String, (if (0 ≤ lm ∧ lm < x 0 0) then none else some eI) = some E → (if (0 ≤ lm ∧ lm < x 0 0) then (if (circ = -1 ∨ (0 ≤ circ ∧ circ < 4)) then none else some eI) else some eI) = some E := fun E hE => by obtain ⟨hc, rfl⟩ := oc_some hE; exact (by rw [if_neg hc])
  refine q_tV (pc2 := 5) (As := [.int lm]) (st := []) (st2 := []) (b := (a 30)) (q0 := 0) (w2 := (wX ct a x)) C (c_X3_checkLamp l hl D ct a x lm) (cwV 1 C.w gX3_plug_X3_checkLamp rfl rfl rfl (by decide +kernel) ⟨Nat.le_of_ble_eq_true rfl, Nat.le_of_ble_eq_true rfl⟩) (wX_g0 ct a x) rfl [0, 1, 2, 3, 4, 5, 6, 7, 8, 9, 10, 11, 12, 13, 14, 15, 16, 17, 18, 19, 20, 21, 22, 23, 24, 25] [] [0, 1, 2, 3, 4, 5, 6, 7, 8, 9, 10, 11, 12, 13, 14, 15, 16, 17, 18, 19, 20, 21, 22, 23, 24, 25] rfl rfl (by decide) (by decide) (by decide) rfl (by decide) rfl dX3_plug_2 rfl rfl (Nat.le_of_ble_eq_true rfl) ⟨ocC_le (fun E hE => ⟨_, hx0 E hE⟩), ocS_le (fun E hE => ⟨_, hx0 E hE⟩)⟩ rfl rfl (fun E hE => q_outX C hQ htab (ocC_of (hx0 E hE)) (ocS_of (hx0 E hE)) ⟨hx0 E hE, rfl⟩) (fun hk0 => ?_)
  have k0 := oc_none hk0
  have hL := idxL (k := n) (by have z := k0; rw [hn] at z; exact z) (by omega)
  refine q_iload_n (pc2 := 6) C 2 dX3_plug_5 rfl rfl rfl ?_
  refine q_iconst (v := (-1)) (pc2 := 7) C dX3_plug_6 (by decide) rfl ?_
  refine q_icmp_eq (tgt := 14) (pc2 := 10) C dX3_plug_7 (by decide) rfl (fun c7 => ?_) (fun c7 => ?_)
  · skip
    have k1 : (circ = -1 ∨ (0 ≤ circ ∧ circ < 4)) := Or.inl c7
    refine q_aload_n (pc2 := 15) C 0 dX3_plug_14 rfl rfl rfl ?_
    refine q_get (q0 := 0) (k := 5) (v := .ref (a 32)) (pc2 := 18) C hT3 f34 (wX_g0 ct a x) rfl (by decide) rfl rfl dX3_plug_15 rfl ?_
    refine q_getN (q0 := 12) (k := 2) (v := .ref (a 14)) (pc2 := 21) C hT0 (C.2.1.nf 7 rfl) (wX_g12 ct a x) rfl (by decide) rfl rfl dX3_plug_18 rfl ?_
    refine q_iload_n (pc2 := 22) C 1 dX3_plug_21 rfl rfl rfl ?_
    refine q_iald (q0 := 15) (f := (x 14)) (pc2 := 23) C lm.toNatClampNeg (wX_g15 ct a x) rfl (hL.2) (by have := hL.1; omega) (by decide) dX3_plug_22 rfl ?_
    refine q_istore_n (lv' := [(3, .int ((x 14) lm.toNatClampNeg)), (0, .ref (a 30)), (1, .int lm), (2, .int circ)]) (pc2 := 24) C dX3_plug_23 rfl (by decide) rfl rfl ?_
    refine q_aload_n (pc2 := 25) C 1 dX3_plug_24 rfl rfl rfl ?_
    refine q_get (q0 := 0) (k := 5) (v := .ref (a 32)) (pc2 := 28) C hT3 f34 (wX_g0 ct a x) rfl (by decide) rfl rfl dX3_plug_25 rfl ?_
    refine q_getN (q0 := 12) (k := 2) (v := .ref (a 14)) (pc2 := 31) C hT0 (C.2.1.nf 7 rfl) (wX_g12 ct a x) rfl (by decide) rfl rfl dX3_plug_28 rfl ?_
    refine q_iload_n (pc2 := 32) C 2 dX3_plug_31 rfl rfl rfl ?_
    refine q_iload_n (pc2 := 33) C 3 dX3_plug_32 rfl rfl rfl ?_
    refine q_iast (q0 := 15) (f := (x 14)) (ws' := (wX ct a (set2 x 14 (upd (x 14) lm.toNatClampNeg circ)))) (pc2 := 34) C lm.toNatClampNeg (wX_g15 ct a x) rfl (hL.2) (by have := hL.1; omega) (by decide) (wX_a15 ct a x (upd (x 14) lm.toNatClampNeg circ)) dX3_plug_33 rfl ?_
    refine q_iload_n (pc2 := 35) C 0 dX3_plug_34 rfl rfl rfl ?_
    exact q_zretX C hQ rfl (rfl) (Nat.zero_le _) (Nat.zero_le _) dX3_plug_35 ⟨(by rw [if_pos k0, if_pos k1]), rfl, rfl⟩
  · skip
    refine q_iload_n (pc2 := 11) C 2 dX3_plug_10 rfl rfl rfl ?_
    have hpc : (0 ≤ circ ∧ circ < 4) ↔ (circ = -1 ∨ (0 ≤ circ ∧ circ < 4)) := ⟨Or.inr, fun z => z.elim (fun z1 => absurd z1 c7) id⟩
    have hx1 : ∀ E : String, (if (0 ≤ circ ∧ circ < 4) then none else some eI) = some E → (if (0 ≤ lm ∧ lm < x 0 0) then (if (circ = -1 ∨ (0 ≤ circ ∧ circ < 4)) then none else some eI) else some eI) = some E := fun E hE => by obtain ⟨hc, rfl⟩ := oc_some hE; exact (by rw [if_pos k0, if_neg (fun z => hc (hpc.mpr z))])
    refine q_tS (pc2 := 14) (As := [.int circ]) (st := []) (st2 := []) (w2 := (wX ct a x)) C (c_X3_checkCircuit l hl D ct circ) (va_cwS 1 C.w gX3_plug_X3_checkCircuit rfl rfl rfl (by decide +kernel) ⟨Nat.le_of_ble_eq_true rfl, Nat.le_of_ble_eq_true rfl⟩) [] [0, 1, 2, 3, 4, 5, 6, 7, 8, 9, 10, 11, 12, 13, 14, 15, 16, 17, 18, 19, 20, 21, 22, 23, 24, 25] [0, 1, 2, 3, 4, 5, 6, 7, 8, 9, 10, 11, 12, 13, 14, 15, 16, 17, 18, 19, 20, 21, 22, 23, 24, 25] rfl rfl (by decide) (by decide) (by decide) rfl (by decide) rfl dX3_plug_11 rfl rfl (Nat.le_of_ble_eq_true rfl) ⟨ocC_le (fun E hE => ⟨_, hx1 E hE⟩), ocS_le (fun E hE => ⟨_, hx1 E hE⟩)⟩ rfl rfl (fun E hE => q_outX C hQ htab (ocC_of (hx1 E hE)) (ocS_of (hx1 E hE)) ⟨hx1 E hE, rfl⟩) (fun hk1 => ?_)
    have k1 := hpc.mp (oc_none hk1)
    refine q_aload_n (pc2 := 15) C 0 dX3_plug_14 rfl rfl rfl ?_
    refine q_get (q0 := 0) (k := 5) (v := .ref (a 32)) (pc2 := 18) C hT3 f34 (wX_g0 ct a x) rfl (by decide) rfl rfl dX3_plug_15 rfl ?_
    refine q_getN (q0 := 12) (k := 2) (v := .ref (a 14)) (pc2 := 21) C hT0 (C.2.1.nf 7 rfl) (wX_g12 ct a x) rfl (by decide) rfl rfl dX3_plug_18 rfl ?_
    refine q_iload_n (pc2 := 22) C 1 dX3_plug_21 rfl rfl rfl ?_
    refine q_iald (q0 := 15) (f := (x 14)) (pc2 := 23) C lm.toNatClampNeg (wX_g15 ct a x) rfl (hL.2) (by have := hL.1; omega) (by decide) dX3_plug_22 rfl ?_
    refine q_istore_n (lv' := [(3, .int ((x 14) lm.toNatClampNeg)), (0, .ref (a 30)), (1, .int lm), (2, .int circ)]) (pc2 := 24) C dX3_plug_23 rfl (by decide) rfl rfl ?_
    refine q_aload_n (pc2 := 25) C 1 dX3_plug_24 rfl rfl rfl ?_
    refine q_get (q0 := 0) (k := 5) (v := .ref (a 32)) (pc2 := 28) C hT3 f34 (wX_g0 ct a x) rfl (by decide) rfl rfl dX3_plug_25 rfl ?_
    refine q_getN (q0 := 12) (k := 2) (v := .ref (a 14)) (pc2 := 31) C hT0 (C.2.1.nf 7 rfl) (wX_g12 ct a x) rfl (by decide) rfl rfl dX3_plug_28 rfl ?_
    refine q_iload_n (pc2 := 32) C 2 dX3_plug_31 rfl rfl rfl ?_
    refine q_iload_n (pc2 := 33) C 3 dX3_plug_32 rfl rfl rfl ?_
    refine q_iast (q0 := 15) (f := (x 14)) (ws' := (wX ct a (set2 x 14 (upd (x 14) lm.toNatClampNeg circ)))) (pc2 := 34) C lm.toNatClampNeg (wX_g15 ct a x) rfl (hL.2) (by have := hL.1; omega) (by decide) (wX_a15 ct a x (upd (x 14) lm.toNatClampNeg circ)) dX3_plug_33 rfl ?_
    refine q_iload_n (pc2 := 35) C 0 dX3_plug_34 rfl rfl rfl ?_
    exact q_zretX C hQ rfl (rfl) (Nat.zero_le _) (Nat.zero_le _) dX3_plug_35 ⟨(by rw [if_pos k0, if_pos k1]), rfl, rfl⟩
