theorem wOk_27 {y : Nat → Nat → Int32} {g : Nat → Int32} {i : Nat} (h : wOk y i) : wOk (set2 y 27 g) i := h
theorem wlM_27 (y : Nat → Nat → Int32) (g : Nat → Int32) (i : Nat) : wlM (set2 y 27 g) i = wlM y i := rfl
theorem lvM_27 (y : Nat → Nat → Int32) (g : Nat → Int32) (i : Nat) : lvM (set2 y 27 g) i = lvM y i := rfl

set_option maxHeartbeats 4000000 in
set_option maxRecDepth 100000 in
theorem c_X4_load (l : Launch) (D : va_G) (ct : Nat → ClassId) (b : Nat → Nat) (y : Nat → Nat → Int32) (n : Nat) (hn : y 4 0 = nI n) (hn10 : n ≤ 10) (hok : ∀ k, k < 10 → wOk y k) (circ : Int32) : qM l yX4_load wsX4_load ({ frames := 3, cells := 0, slots := 0, locals := 67 }) D ct [.ref (b 30), .int circ] (wM ct b y) (qD (some (.int (if T1 (inR circ 0 3) = 0 then sumf (fun k => if y 10 k = circ then drw (y 5 k) * lvM y k / 100 else 0) n else 0))) (wM ct b (if T1 (inR circ 0 3) = 0 then (set2 y 27 (fun _ => T1 (inR circ 0 3))) else (set2 y 27 (fun _ => T1 (inR circ 0 3)))))) 0 0 := by
  refine q_start (ret := some .int) (lv := [(0, .ref (b 30)), (1, .int circ)]) (by decide +kernel) rfl (Nat.le_of_ble_eq_true rfl) rfl ?_
  intro p e s m args below meth c A Q C hQ hnm
  have hT4 : ∀ w ∈ u_ws RX4 TX4 28, w ∈ wsX4_load := by decide +kernel
  have f78 : (Cond.fieldLink RX4 78 "PlotPatchModel" "lamps" "I").before args s = true := C.w _ (by decide +kernel)
  have f34 : (Cond.fieldLink RX4 34 "PlotPatchModel" "circuit" "[I").before args s = true := C.w _ (by decide +kernel)
  have f19 : (Cond.fieldLink RX4 19 "PlotPatchModel" "kind" "[I").before args s = true := C.w _ (by decide +kernel)
  refine q_aload_n (pc2 := 1) C 0 dX4_load_0 rfl rfl rfl ?_
  refine q_iload_n (pc2 := 2) C 1 dX4_load_1 rfl rfl rfl ?_
  refine q_iconst (v := 0) (pc2 := 3) C dX4_load_2 (by decide) rfl ?_
  refine q_iconst (v := 3) (pc2 := 4) C dX4_load_3 (by decide) rfl ?_
  refine q_cS (pc2 := 7) (As := [.int circ, .int 0, .int 3]) (st := [.ref (b 30)]) (st2 := [.int (b2 (inR circ 0 3)), .ref (b 30)]) (w2 := (wM ct b y)) (c2 := 0) (s2 := 0) C (c_X4_isIn l D ct circ 0 3) (va_cwS 3 C.w gX4_load_X4_isIn rfl rfl rfl (by decide +kernel) ⟨Nat.le_of_ble_eq_true rfl, Nat.le_of_ble_eq_true rfl⟩) [] [0, 1, 2, 3, 4, 5, 6, 7, 8, 9, 10, 11, 12, 13, 14, 15, 16, 17, 18, 19, 20, 21] [0, 1, 2, 3, 4, 5, 6, 7, 8, 9, 10, 11, 12, 13, 14, 15, 16, 17, 18, 19, 20, 21] rfl rfl (by decide) (by decide) (by decide) rfl (by decide) dX4_load_4 rfl rfl (Nat.le_of_ble_eq_true rfl) ⟨Nat.zero_le _, Nat.zero_le _⟩ rfl rfl rfl rfl ?_
  refine q_cV (pc2 := 10) (As := [.int (b2 (inR circ 0 3))]) (st := []) (st2 := [.int (b2 (inR circ 0 3))]) (q0 := 0) (w2 := (wM ct b (set2 y 27 (fun _ => T1 (inR circ 0 3))))) (c2 := 0) (s2 := 0) C (c_X4_may l D ct b y (b2 (inR circ 0 3)) (b2_nar _)) (cwV 1 C.w gX4_load_X4_may rfl rfl rfl (by decide +kernel) ⟨Nat.le_of_ble_eq_true rfl, Nat.le_of_ble_eq_true rfl⟩) rfl rfl [0, 1, 2, 3, 4, 5, 6, 7, 8, 9, 10, 11, 12, 13, 14, 15, 16, 17, 18, 19, 20, 21] [] [0, 1, 2, 3, 4, 5, 6, 7, 8, 9, 10, 11, 12, 13, 14, 15, 16, 17, 18, 19, 20, 21] rfl rfl (by decide) (by decide) (by decide) rfl (by decide) dX4_load_7 rfl rfl (Nat.le_of_ble_eq_true rfl) ⟨Nat.zero_le _, Nat.zero_le _⟩ rfl rfl rfl rfl ?_
  refine q_if_ne (tgt := 15) (pc2 := 13) C dX4_load_10 (by decide) rfl (fun c10 => ?_) (fun c10 => ?_)
  · skip
    have ht : T1 (inR circ 0 3) = 0 := if_neg c10
    have hP := b2_ne.mp c10
    refine q_iconst (v := 0) (pc2 := 16) C dX4_load_15 (by decide) rfl ?_
    refine q_istore_n (lv' := [(2, .int 0), (0, .ref (b 30)), (1, .int circ)]) (pc2 := 17) C dX4_load_16 rfl (by decide) rfl rfl ?_
    refine q_iconst (v := 0) (pc2 := 18) C dX4_load_17 (by decide) rfl ?_
    refine q_istore_n (lv' := [(3, .int 0), (2, .int 0), (0, .ref (b 30)), (1, .int circ)]) (pc2 := 19) C dX4_load_18 rfl (by decide) rfl rfl ?_
    refine q_lv (lv' := [(3, .int 0), (2, .int 0), (0, .ref (b 30)), (1, .int circ)]) [0, 1, 2, 3] rfl ?_
    refine lp_up (P := fun i => Cf p l e ({ frames := 3, cells := 0, slots := 0, locals := 67 }) s m args below meth c D A 4 0 0 Q 19 [(3, .int (nI i)), (2, .int (sumf (fun k => if y 10 k = circ then drw (y 5 k) * lvM y k / 100 else 0) i)), (0, .ref (b 30)), (1, .int circ)] [] (wM ct b (set2 y 27 (fun _ => T1 (inR circ 0 3))))) (n) (fun i hi ihi => ?_) ?_
    · skip
      refine q_iload_n (pc2 := 20) C 0 dX4_load_19 rfl rfl rfl ?_
      refine q_aload_n (pc2 := 21) C 2 dX4_load_20 rfl rfl rfl ?_
      refine q_get (q0 := 0) (k := 4) (v := .int (y 4 0)) (pc2 := 24) C hT4 f78 (wM_g0 ct b (set2 y 27 (fun _ => T1 (inR circ 0 3)))) rfl (by decide) rfl rfl dX4_load_21 rfl ?_
      refine q_icmp_ge (tgt := 68) (pc2 := 27) C dX4_load_24 (by decide) rfl (fun c24 => (q_absurd (a := n) (b := i) (show nI n ≤ nI i by rw [← hn]; exact c24) hi (by omega))) (fun _ => ?_)
      refine q_iload_n (pc2 := 28) C 1 dX4_load_27 rfl rfl rfl ?_
      refine q_aload_n (pc2 := 29) C 2 dX4_load_28 rfl rfl rfl ?_
      refine q_get (q0 := 0) (k := 10) (v := .ref (b 10)) (pc2 := 32) C hT4 f34 (wM_g0 ct b (set2 y 27 (fun _ => T1 (inR circ 0 3)))) rfl (by decide) rfl rfl dX4_load_29 rfl ?_
      refine q_iload_n (pc2 := 33) C 0 dX4_load_32 rfl rfl rfl ?_
      refine q_iald (q0 := 9) (f := (y 10)) (pc2 := 34) C i (wM_g9 ct b (set2 y 27 (fun _ => T1 (inR circ 0 3)))) rfl (rfl) (by omega) (by decide) dX4_load_33 rfl ?_
      refine q_iload_n (pc2 := 35) C 3 dX4_load_34 rfl rfl rfl ?_
      refine q_icmp_ne (tgt := 59) (pc2 := 38) C dX4_load_35 (by decide) rfl (fun c35 => ?_) (fun c35 => ?_)
      · skip
        refine q_iconst (v := 0) (pc2 := 60) C dX4_load_59 (by decide) rfl ?_
        refine q_iadd (pc2 := 61) C dX4_load_60 rfl rfl ?_
        refine q_istore_n (lv' := [(2, .int ((sumf (fun k => if y 10 k = circ then drw (y 5 k) * lvM y k / 100 else 0) i) + 0)), (3, .int (nI i)), (0, .ref (b 30)), (1, .int circ)]) (pc2 := 62) C dX4_load_61 rfl (by decide) rfl rfl ?_
        refine q_iinc (v := nI (i + 1)) (lv' := [(3, .int (nI (i + 1))), (2, .int ((sumf (fun k => if y 10 k = circ then drw (y 5 k) * lvM y k / 100 else 0) i) + 0)), (0, .ref (b 30)), (1, .int circ)]) (pc2 := 65) C 1 dX4_load_62 rfl (nI_1 i) (by decide) rfl rfl ?_
        refine q_goto (pc2 := 19) C dX4_load_65 (by decide) ?_
        refine q_lv (lv' := [(3, .int (nI (i + 1))), (2, .int ((sumf (fun k => if y 10 k = circ then drw (y 5 k) * lvM y k / 100 else 0) i) + 0)), (0, .ref (b 30)), (1, .int circ)]) [0, 1, 2, 3] rfl ?_
        refine q_eql (lv' := [(3, .int (nI (i + 1))), (2, .int (sumf (fun k => if y 10 k = circ then drw (y 5 k) * lvM y k / 100 else 0) (i + 1))), (0, .ref (b 30)), (1, .int circ)]) (by simp only [sumf]; rw [if_neg c35]) ?_
        exact ihi
      · skip
        refine q_aload_n (pc2 := 39) C 2 dX4_load_38 rfl rfl rfl ?_
        refine q_get (q0 := 0) (k := 5) (v := .ref (b 5)) (pc2 := 42) C hT4 f19 (wM_g0 ct b (set2 y 27 (fun _ => T1 (inR circ 0 3)))) rfl (by decide) rfl rfl dX4_load_39 rfl ?_
        refine q_iload_n (pc2 := 43) C 0 dX4_load_42 rfl rfl rfl ?_
        refine q_iald (q0 := 4) (f := (y 5)) (pc2 := 44) C i (wM_g4 ct b (set2 y 27 (fun _ => T1 (inR circ 0 3)))) rfl (rfl) (by omega) (by decide) dX4_load_43 rfl ?_
        refine q_cS (pc2 := 47) (As := [.int ((y 5) i)]) (st := [.int (sumf (fun k => if y 10 k = circ then drw (y 5 k) * lvM y k / 100 else 0) i)]) (st2 := [.int (drw ((y 5) i)), .int (sumf (fun k => if y 10 k = circ then drw (y 5 k) * lvM y k / 100 else 0) i)]) (w2 := (wM ct b (set2 y 27 (fun _ => T1 (inR circ 0 3))))) (c2 := 0) (s2 := 0) C (c_X4_draws l D ct ((y 5) i)) (va_cwS 1 C.w gX4_load_X4_draws rfl rfl rfl (by decide +kernel) ⟨Nat.le_of_ble_eq_true rfl, Nat.le_of_ble_eq_true rfl⟩) [] [0, 1, 2, 3, 4, 5, 6, 7, 8, 9, 10, 11, 12, 13, 14, 15, 16, 17, 18, 19, 20, 21] [0, 1, 2, 3, 4, 5, 6, 7, 8, 9, 10, 11, 12, 13, 14, 15, 16, 17, 18, 19, 20, 21] rfl rfl (by decide) (by decide) (by decide) rfl (by decide) dX4_load_44 rfl rfl (Nat.le_of_ble_eq_true rfl) ⟨Nat.zero_le _, Nat.zero_le _⟩ rfl rfl rfl rfl ?_
        refine q_aload_n (pc2 := 48) C 2 dX4_load_47 rfl rfl rfl ?_
        refine q_iload_n (pc2 := 49) C 0 dX4_load_48 rfl rfl rfl ?_
        refine q_cV (pc2 := 52) (As := [.int (nI i)]) (st := [.int (drw ((y 5) i)), .int (sumf (fun k => if y 10 k = circ then drw (y 5 k) * lvM y k / 100 else 0) i)]) (st2 := [.int (lvM (set2 y 27 (fun _ => T1 (inR circ 0 3))) i), .int (drw ((y 5) i)), .int (sumf (fun k => if y 10 k = circ then drw (y 5 k) * lvM y k / 100 else 0) i)]) (q0 := 0) (w2 := (wM ct b (set2 y 27 (fun _ => T1 (inR circ 0 3))))) (c2 := 0) (s2 := 0) C (c_X4_levelOf l D ct b (set2 y 27 (fun _ => T1 (inR circ 0 3))) (nI i) i (rfl) (by omega) (wOk_27 (hok i (by omega)))) (cwV 1 C.w gX4_load_X4_levelOf rfl rfl rfl (by decide +kernel) ⟨Nat.le_of_ble_eq_true rfl, Nat.le_of_ble_eq_true rfl⟩) rfl rfl [0, 1, 2, 3, 4, 5, 6, 7, 8, 9, 10, 11, 12, 13, 14, 15, 16, 17, 18, 19, 20, 21] [] [0, 1, 2, 3, 4, 5, 6, 7, 8, 9, 10, 11, 12, 13, 14, 15, 16, 17, 18, 19, 20, 21] rfl rfl (by decide) (by decide) (by decide) rfl (by decide) dX4_load_49 rfl rfl (Nat.le_of_ble_eq_true rfl) ⟨Nat.zero_le _, Nat.zero_le _⟩ rfl rfl rfl rfl ?_
        refine q_imul (pc2 := 53) C dX4_load_52 rfl rfl ?_
        refine q_bipush (v := 100) (pc2 := 55) C dX4_load_53 (by decide) rfl ?_
        refine q_idiv (pc2 := 56) C dX4_load_55 (by decide) rfl rfl ?_
        refine q_goto (pc2 := 60) C dX4_load_56 (by decide) ?_
        refine q_iadd (pc2 := 61) C dX4_load_60 rfl rfl ?_
        refine q_istore_n (lv' := [(2, .int ((sumf (fun k => if y 10 k = circ then drw (y 5 k) * lvM y k / 100 else 0) i) + (((drw ((y 5) i)) * (lvM (set2 y 27 (fun _ => T1 (inR circ 0 3))) i)) / 100))), (3, .int (nI i)), (0, .ref (b 30)), (1, .int circ)]) (pc2 := 62) C dX4_load_61 rfl (by decide) rfl rfl ?_
        refine q_iinc (v := nI (i + 1)) (lv' := [(3, .int (nI (i + 1))), (2, .int ((sumf (fun k => if y 10 k = circ then drw (y 5 k) * lvM y k / 100 else 0) i) + (((drw ((y 5) i)) * (lvM (set2 y 27 (fun _ => T1 (inR circ 0 3))) i)) / 100))), (0, .ref (b 30)), (1, .int circ)]) (pc2 := 65) C 1 dX4_load_62 rfl (nI_1 i) (by decide) rfl rfl ?_
        refine q_goto (pc2 := 19) C dX4_load_65 (by decide) ?_
        refine q_lv (lv' := [(3, .int (nI (i + 1))), (2, .int ((sumf (fun k => if y 10 k = circ then drw (y 5 k) * lvM y k / 100 else 0) i) + (((drw ((y 5) i)) * (lvM (set2 y 27 (fun _ => T1 (inR circ 0 3))) i)) / 100))), (0, .ref (b 30)), (1, .int circ)]) [0, 1, 2, 3] rfl ?_
        refine q_eql (lv' := [(3, .int (nI (i + 1))), (2, .int (sumf (fun k => if y 10 k = circ then drw (y 5 k) * lvM y k / 100 else 0) (i + 1))), (0, .ref (b 30)), (1, .int circ)]) (by simp only [sumf]; rw [if_pos c35, lvM_27]) ?_
        exact ihi
    · skip
      refine q_iload_n (pc2 := 20) C 0 dX4_load_19 rfl rfl rfl ?_
      refine q_aload_n (pc2 := 21) C 2 dX4_load_20 rfl rfl rfl ?_
      refine q_get (q0 := 0) (k := 4) (v := .int (y 4 0)) (pc2 := 24) C hT4 f78 (wM_g0 ct b (set2 y 27 (fun _ => T1 (inR circ 0 3)))) rfl (by decide) rfl rfl dX4_load_21 rfl ?_
      refine q_icmp_ge (tgt := 68) (pc2 := 27) C dX4_load_24 (by decide) rfl (fun _ => ?_) (fun c24 => (absurd (show (y 4 0) ≤ nI n by rw [hn]; exact nI_le (Nat.le_refl n) (by omega)) c24))
      refine q_iload_n (pc2 := 69) C 1 dX4_load_68 rfl rfl rfl ?_
      exact q_zret C hQ rfl (rfl) (Nat.zero_le _) (Nat.zero_le _) dX4_load_69 ⟨by rw [if_pos ht], by rw [if_pos ht]⟩
  · skip
    have ht0 : ¬ T1 (inR circ 0 3) = 0 := by rw [show T1 (inR circ 0 3) = 1 from if_pos c10]; decide
    refine q_iconst (v := 0) (pc2 := 14) C dX4_load_13 (by decide) rfl ?_
    exact q_zret C hQ rfl (rfl) (Nat.zero_le _) (Nat.zero_le _) dX4_load_14 ⟨by rw [if_neg ht0], by rw [if_neg ht0]⟩

set_option maxHeartbeats 4000000 in
set_option maxRecDepth 100000 in
theorem c_X4_cue (l : Launch) (D : va_G) (ct : Nat → ClassId) (b : Nat → Nat) (y : Nat → Nat → Int32) (q : Nat) (hq : y 18 0 = nI q) (hq8 : q ≤ 8) (fade curve follow : Int32) : qM l yX4_cue wsX4_cue ({ frames := 1, cells := 0, slots := 0, locals := 22 }) D ct [.ref (b 30), .int fade, .int curve, .int follow] (wM ct b y) (qD (some (.int (if T2 (inR fade 0 50 ∧ inR curve 0 2 ∧ inR follow (-1) 50) (y 18 0 < 8) = 0 then y 18 0 + 1 - 1 else 0))) (wM ct b (if T2 (inR fade 0 50 ∧ inR curve 0 2 ∧ inR follow (-1) 50) (y 18 0 < 8) = 0 then (set2 (set2 (set2 (set2 (set2 y 27 (fun _ => T2 (inR fade 0 50 ∧ inR curve 0 2 ∧ inR follow (-1) 50) (y 18 0 < 8))) 19 (upd (y 19) q fade)) 20 (upd (y 20) q curve)) 21 (upd (y 21) q follow)) 18 (fun _ => y 18 0 + 1)) else (set2 y 27 (fun _ => T2 (inR fade 0 50 ∧ inR curve 0 2 ∧ inR follow (-1) 50) (y 18 0 < 8)))))) 0 0 := by
  refine q_start (ret := some .int) (lv := [(0, .ref (b 30)), (1, .int fade), (2, .int curve), (3, .int follow)]) (by decide +kernel) rfl (Nat.le_of_ble_eq_true rfl) rfl ?_
  intro p e s m args below meth c A Q C hQ hnm
  have hT4 : ∀ w ∈ u_ws RX4 TX4 28, w ∈ wsX4_cue := by decide +kernel
  have f59 : (Cond.fieldLink RX4 59 "PlotPatchModel" "fade" "[I").before args s = true := C.w _ (by decide +kernel)
  have f88 : (Cond.fieldLink RX4 88 "PlotPatchModel" "cues" "I").before args s = true := C.w _ (by decide +kernel)
  have f62 : (Cond.fieldLink RX4 62 "PlotPatchModel" "curve" "[I").before args s = true := C.w _ (by decide +kernel)
  have f65 : (Cond.fieldLink RX4 65 "PlotPatchModel" "follow" "[I").before args s = true := C.w _ (by decide +kernel)
  refine q_aload_n (pc2 := 1) C 0 dX4_cue_0 rfl rfl rfl ?_
  have hj35 : Cf p l e ({ frames := 1, cells := 0, slots := 0, locals := 22 }) s m args below meth c D A 4 0 0 Q 35 [(0, .ref (b 30)), (1, .int fade), (2, .int curve), (3, .int follow)] [.int (b2 (inR fade 0 50 ∧ inR curve 0 2 ∧ inR follow (-1) 50)), .ref (b 30)] (wM ct b y) := by
    have hj49 : Cf p l e ({ frames := 1, cells := 0, slots := 0, locals := 22 }) s m args below meth c D A 4 0 0 Q 49 [(0, .ref (b 30)), (1, .int fade), (2, .int curve), (3, .int follow)] [.int (b2 (y 18 0 < 8)), .int (b2 (inR fade 0 50 ∧ inR curve 0 2 ∧ inR follow (-1) 50)), .ref (b 30)] (wM ct b y) := by
      refine q_cV (pc2 := 52) (As := [.int (b2 (inR fade 0 50 ∧ inR curve 0 2 ∧ inR follow (-1) 50)), .int (b2 (y 18 0 < 8))]) (st := []) (st2 := [.int (b2 (T2 (inR fade 0 50 ∧ inR curve 0 2 ∧ inR follow (-1) 50) (y 18 0 < 8) = 0))]) (q0 := 0) (w2 := (wM ct b (set2 y 27 (fun _ => T2 (inR fade 0 50 ∧ inR curve 0 2 ∧ inR follow (-1) 50) (y 18 0 < 8))))) (c2 := 0) (s2 := 0) C (c_X4_mayBoth l D ct b y (b2 (inR fade 0 50 ∧ inR curve 0 2 ∧ inR follow (-1) 50)) (b2 (y 18 0 < 8))) (cwV 2 C.w gX4_cue_X4_mayBoth rfl rfl rfl (by decide +kernel) ⟨Nat.le_of_ble_eq_true rfl, Nat.le_of_ble_eq_true rfl⟩) rfl rfl [0, 1, 2, 3, 4, 5, 6, 7, 8, 9, 10, 11, 12, 13, 14, 15, 16, 17, 18, 19, 20, 21] [] [0, 1, 2, 3, 4, 5, 6, 7, 8, 9, 10, 11, 12, 13, 14, 15, 16, 17, 18, 19, 20, 21] rfl rfl (by decide) (by decide) (by decide) rfl (by decide) dX4_cue_49 rfl rfl (Nat.le_of_ble_eq_true rfl) ⟨Nat.zero_le _, Nat.zero_le _⟩ rfl rfl rfl rfl ?_
      refine q_if_ne (tgt := 57) (pc2 := 55) C dX4_cue_52 (by decide) rfl (fun c52 => ?_) (fun c52 => ?_)
      · skip
        have ht : T2 (inR fade 0 50 ∧ inR curve 0 2 ∧ inR follow (-1) 50) (y 18 0 < 8) = 0 := b2_ne.mp c52
        obtain ⟨p1, p2⟩ := t2_0 ht
        have hq7 : q < 8 := (nI_ltI (by omega) (by decide)).mp (show nI q < nI 8 by rw [← hq]; exact p2)
        refine q_aload_n (pc2 := 58) C 0 dX4_cue_57 rfl rfl rfl ?_
        refine q_get (q0 := 0) (k := 19) (v := .ref (b 19)) (pc2 := 61) C hT4 f59 (wM_g0 ct b (set2 y 27 (fun _ => T2 (inR fade 0 50 ∧ inR curve 0 2 ∧ inR follow (-1) 50) (y 18 0 < 8)))) rfl (by decide) rfl rfl dX4_cue_58 rfl ?_
        refine q_aload_n (pc2 := 62) C 0 dX4_cue_61 rfl rfl rfl ?_
        refine q_get (q0 := 0) (k := 18) (v := .int (y 18 0)) (pc2 := 65) C hT4 f88 (wM_g0 ct b (set2 y 27 (fun _ => T2 (inR fade 0 50 ∧ inR curve 0 2 ∧ inR follow (-1) 50) (y 18 0 < 8)))) rfl (by decide) rfl rfl dX4_cue_62 rfl ?_
        refine q_iload_n (pc2 := 66) C 1 dX4_cue_65 rfl rfl rfl ?_
        refine q_iast (q0 := 17) (f := (y 19)) (ws' := (wM ct b (set2 (set2 y 27 (fun _ => T2 (inR fade 0 50 ∧ inR curve 0 2 ∧ inR follow (-1) 50) (y 18 0 < 8))) 19 (upd (y 19) q fade)))) (pc2 := 67) C q (wM_g17 ct b (set2 y 27 (fun _ => T2 (inR fade 0 50 ∧ inR curve 0 2 ∧ inR follow (-1) 50) (y 18 0 < 8)))) rfl (hq) (by omega) (by decide) (wM_a17 ct b (set2 y 27 (fun _ => T2 (inR fade 0 50 ∧ inR curve 0 2 ∧ inR follow (-1) 50) (y 18 0 < 8))) (upd (y 19) q fade)) dX4_cue_66 rfl ?_
        refine q_aload_n (pc2 := 68) C 0 dX4_cue_67 rfl rfl rfl ?_
        refine q_get (q0 := 0) (k := 20) (v := .ref (b 20)) (pc2 := 71) C hT4 f62 (wM_g0 ct b (set2 (set2 y 27 (fun _ => T2 (inR fade 0 50 ∧ inR curve 0 2 ∧ inR follow (-1) 50) (y 18 0 < 8))) 19 (upd (y 19) q fade))) rfl (by decide) rfl rfl dX4_cue_68 rfl ?_
        refine q_aload_n (pc2 := 72) C 0 dX4_cue_71 rfl rfl rfl ?_
        refine q_get (q0 := 0) (k := 18) (v := .int (y 18 0)) (pc2 := 75) C hT4 f88 (wM_g0 ct b (set2 (set2 y 27 (fun _ => T2 (inR fade 0 50 ∧ inR curve 0 2 ∧ inR follow (-1) 50) (y 18 0 < 8))) 19 (upd (y 19) q fade))) rfl (by decide) rfl rfl dX4_cue_72 rfl ?_
        refine q_iload_n (pc2 := 76) C 2 dX4_cue_75 rfl rfl rfl ?_
        refine q_iast (q0 := 18) (f := (y 20)) (ws' := (wM ct b (set2 (set2 (set2 y 27 (fun _ => T2 (inR fade 0 50 ∧ inR curve 0 2 ∧ inR follow (-1) 50) (y 18 0 < 8))) 19 (upd (y 19) q fade)) 20 (upd (y 20) q curve)))) (pc2 := 77) C q (wM_g18 ct b (set2 (set2 y 27 (fun _ => T2 (inR fade 0 50 ∧ inR curve 0 2 ∧ inR follow (-1) 50) (y 18 0 < 8))) 19 (upd (y 19) q fade))) rfl (hq) (by omega) (by decide) (wM_a18 ct b (set2 (set2 y 27 (fun _ => T2 (inR fade 0 50 ∧ inR curve 0 2 ∧ inR follow (-1) 50) (y 18 0 < 8))) 19 (upd (y 19) q fade)) (upd (y 20) q curve)) dX4_cue_76 rfl ?_
        refine q_aload_n (pc2 := 78) C 0 dX4_cue_77 rfl rfl rfl ?_
        refine q_get (q0 := 0) (k := 21) (v := .ref (b 21)) (pc2 := 81) C hT4 f65 (wM_g0 ct b (set2 (set2 (set2 y 27 (fun _ => T2 (inR fade 0 50 ∧ inR curve 0 2 ∧ inR follow (-1) 50) (y 18 0 < 8))) 19 (upd (y 19) q fade)) 20 (upd (y 20) q curve))) rfl (by decide) rfl rfl dX4_cue_78 rfl ?_
        refine q_aload_n (pc2 := 82) C 0 dX4_cue_81 rfl rfl rfl ?_
        refine q_get (q0 := 0) (k := 18) (v := .int (y 18 0)) (pc2 := 85) C hT4 f88 (wM_g0 ct b (set2 (set2 (set2 y 27 (fun _ => T2 (inR fade 0 50 ∧ inR curve 0 2 ∧ inR follow (-1) 50) (y 18 0 < 8))) 19 (upd (y 19) q fade)) 20 (upd (y 20) q curve))) rfl (by decide) rfl rfl dX4_cue_82 rfl ?_
        refine q_iload_n (pc2 := 86) C 3 dX4_cue_85 rfl rfl rfl ?_
        refine q_iast (q0 := 19) (f := (y 21)) (ws' := (wM ct b (set2 (set2 (set2 (set2 y 27 (fun _ => T2 (inR fade 0 50 ∧ inR curve 0 2 ∧ inR follow (-1) 50) (y 18 0 < 8))) 19 (upd (y 19) q fade)) 20 (upd (y 20) q curve)) 21 (upd (y 21) q follow)))) (pc2 := 87) C q (wM_g19 ct b (set2 (set2 (set2 y 27 (fun _ => T2 (inR fade 0 50 ∧ inR curve 0 2 ∧ inR follow (-1) 50) (y 18 0 < 8))) 19 (upd (y 19) q fade)) 20 (upd (y 20) q curve))) rfl (hq) (by omega) (by decide) (wM_a19 ct b (set2 (set2 (set2 y 27 (fun _ => T2 (inR fade 0 50 ∧ inR curve 0 2 ∧ inR follow (-1) 50) (y 18 0 < 8))) 19 (upd (y 19) q fade)) 20 (upd (y 20) q curve)) (upd (y 21) q follow)) dX4_cue_86 rfl ?_
        refine q_aload_n (pc2 := 88) C 0 dX4_cue_87 rfl rfl rfl ?_
        refine q_dup (pc2 := 89) C dX4_cue_88 rfl rfl ?_
        refine q_get (q0 := 0) (k := 18) (v := .int (y 18 0)) (pc2 := 92) C hT4 f88 (wM_g0 ct b (set2 (set2 (set2 (set2 y 27 (fun _ => T2 (inR fade 0 50 ∧ inR curve 0 2 ∧ inR follow (-1) 50) (y 18 0 < 8))) 19 (upd (y 19) q fade)) 20 (upd (y 20) q curve)) 21 (upd (y 21) q follow))) rfl (by decide) rfl rfl dX4_cue_89 rfl ?_
        refine q_iconst (v := 1) (pc2 := 93) C dX4_cue_92 (by decide) rfl ?_
        refine q_iadd (pc2 := 94) C dX4_cue_93 rfl rfl ?_
        refine q_put (q0 := 0) (k := 18) (ty := .int) (ws' := (wM ct b (set2 (set2 (set2 (set2 (set2 y 27 (fun _ => T2 (inR fade 0 50 ∧ inR curve 0 2 ∧ inR follow (-1) 50) (y 18 0 < 8))) 19 (upd (y 19) q fade)) 20 (upd (y 20) q curve)) 21 (upd (y 21) q follow)) 18 (fun _ => ((y 18 0) + 1))))) (pc2 := 97) C hT4 tyX4_ok nmX4 f88 (wM_g0 ct b (set2 (set2 (set2 (set2 y 27 (fun _ => T2 (inR fade 0 50 ∧ inR curve 0 2 ∧ inR follow (-1) 50) (y 18 0 < 8))) 19 (upd (y 19) q fade)) 20 (upd (y 20) q curve)) 21 (upd (y 21) q follow))) rfl (by decide) rfl rfl (by decide +kernel) rfl rfl (Nat.le_of_ble_eq_true rfl) (wM_s0_18 ct b (set2 (set2 (set2 (set2 y 27 (fun _ => T2 (inR fade 0 50 ∧ inR curve 0 2 ∧ inR follow (-1) 50) (y 18 0 < 8))) 19 (upd (y 19) q fade)) 20 (upd (y 20) q curve)) 21 (upd (y 21) q follow)) ((y 18 0) + 1)) dX4_cue_94 rfl ?_
        refine q_aload_n (pc2 := 98) C 0 dX4_cue_97 rfl rfl rfl ?_
        refine q_get (q0 := 0) (k := 18) (v := .int ((y 18 0) + 1)) (pc2 := 101) C hT4 f88 (wM_g0 ct b (set2 (set2 (set2 (set2 (set2 y 27 (fun _ => T2 (inR fade 0 50 ∧ inR curve 0 2 ∧ inR follow (-1) 50) (y 18 0 < 8))) 19 (upd (y 19) q fade)) 20 (upd (y 20) q curve)) 21 (upd (y 21) q follow)) 18 (fun _ => ((y 18 0) + 1)))) rfl (by decide) rfl rfl dX4_cue_98 rfl ?_
        refine q_iconst (v := 1) (pc2 := 102) C dX4_cue_101 (by decide) rfl ?_
        refine q_isub (pc2 := 103) C dX4_cue_102 rfl rfl ?_
        exact q_zret C hQ rfl (rfl) (Nat.zero_le _) (Nat.zero_le _) dX4_cue_103 ⟨by rw [if_pos ht], by rw [if_pos ht]⟩
      · skip
        have ht0 : ¬ T2 (inR fade 0 50 ∧ inR curve 0 2 ∧ inR follow (-1) 50) (y 18 0 < 8) = 0 := b2_eq.mp c52
        refine q_iconst (v := 0) (pc2 := 56) C dX4_cue_55 (by decide) rfl ?_
        exact q_zret C hQ rfl (rfl) (Nat.zero_le _) (Nat.zero_le _) dX4_cue_56 ⟨by rw [if_neg ht0], by rw [if_neg ht0]⟩
    refine q_aload_n (pc2 := 36) C 0 dX4_cue_35 rfl rfl rfl ?_
    refine q_get (q0 := 0) (k := 18) (v := .int (y 18 0)) (pc2 := 39) C hT4 f88 (wM_g0 ct b y) rfl (by decide) rfl rfl dX4_cue_36 rfl ?_
    refine q_bipush (v := 8) (pc2 := 41) C dX4_cue_39 (by decide) rfl ?_
    refine q_icmp_ge (tgt := 48) (pc2 := 44) C dX4_cue_41 (by decide) rfl (fun c41 => ?_) (fun c41 => ?_)
    · skip
      refine q_iconst (v := 0) (pc2 := 49) C dX4_cue_48 (by decide) rfl ?_
      refine q_eqi (y := (b2 (y 18 0 < 8))) ((b2_f (fun z : y 18 0 < 8 => absurd z (Int32.not_lt.mpr c41))).symm) ?_
      exact hj49
    · skip
      refine q_iconst (v := 1) (pc2 := 45) C dX4_cue_44 (by decide) rfl ?_
      refine q_goto (pc2 := 49) C dX4_cue_45 (by decide) ?_
      refine q_eqi (y := (b2 (y 18 0 < 8))) ((b2_t (c := y 18 0 < 8) (Int32.not_le.mp c41)).symm) ?_
      exact hj49
  refine q_iload_n (pc2 := 2) C 1 dX4_cue_1 rfl rfl rfl ?_
  refine q_iconst (v := 0) (pc2 := 3) C dX4_cue_2 (by decide) rfl ?_
  refine q_bipush (v := 50) (pc2 := 5) C dX4_cue_3 (by decide) rfl ?_
  refine q_cS (pc2 := 8) (As := [.int fade, .int 0, .int 50]) (st := [.ref (b 30)]) (st2 := [.int (b2 (inR fade 0 50)), .ref (b 30)]) (w2 := (wM ct b y)) (c2 := 0) (s2 := 0) C (c_X4_isIn l D ct fade 0 50) (va_cwS 3 C.w gX4_cue_X4_isIn rfl rfl rfl (by decide +kernel) ⟨Nat.le_of_ble_eq_true rfl, Nat.le_of_ble_eq_true rfl⟩) [] [0, 1, 2, 3, 4, 5, 6, 7, 8, 9, 10, 11, 12, 13, 14, 15, 16, 17, 18, 19, 20, 21] [0, 1, 2, 3, 4, 5, 6, 7, 8, 9, 10, 11, 12, 13, 14, 15, 16, 17, 18, 19, 20, 21] rfl rfl (by decide) (by decide) (by decide) rfl (by decide) dX4_cue_5 rfl rfl (Nat.le_of_ble_eq_true rfl) ⟨Nat.zero_le _, Nat.zero_le _⟩ rfl rfl rfl rfl ?_
  refine q_if_eq (tgt := 34) (pc2 := 11) C dX4_cue_8 (by decide) rfl (fun c8 => ?_) (fun c8 => ?_)
  · skip
    refine q_iconst (v := 0) (pc2 := 35) C dX4_cue_34 (by decide) rfl ?_
    refine q_eqi (y := (b2 (inR fade 0 50 ∧ inR curve 0 2 ∧ inR follow (-1) 50))) ((b2_f (fun z : inR fade 0 50 ∧ inR curve 0 2 ∧ inR follow (-1) 50 => absurd z.1 (b2_eq.mp c8))).symm) ?_
    exact hj35
  · skip
    refine q_iload_n (pc2 := 12) C 2 dX4_cue_11 rfl rfl rfl ?_
    refine q_iconst (v := 0) (pc2 := 13) C dX4_cue_12 (by decide) rfl ?_
    refine q_iconst (v := 2) (pc2 := 14) C dX4_cue_13 (by decide) rfl ?_
    refine q_cS (pc2 := 17) (As := [.int curve, .int 0, .int 2]) (st := [.ref (b 30)]) (st2 := [.int (b2 (inR curve 0 2)), .ref (b 30)]) (w2 := (wM ct b y)) (c2 := 0) (s2 := 0) C (c_X4_isIn l D ct curve 0 2) (va_cwS 3 C.w gX4_cue_X4_isIn rfl rfl rfl (by decide +kernel) ⟨Nat.le_of_ble_eq_true rfl, Nat.le_of_ble_eq_true rfl⟩) [] [0, 1, 2, 3, 4, 5, 6, 7, 8, 9, 10, 11, 12, 13, 14, 15, 16, 17, 18, 19, 20, 21] [0, 1, 2, 3, 4, 5, 6, 7, 8, 9, 10, 11, 12, 13, 14, 15, 16, 17, 18, 19, 20, 21] rfl rfl (by decide) (by decide) (by decide) rfl (by decide) dX4_cue_14 rfl rfl (Nat.le_of_ble_eq_true rfl) ⟨Nat.zero_le _, Nat.zero_le _⟩ rfl rfl rfl rfl ?_
    refine q_if_eq (tgt := 34) (pc2 := 20) C dX4_cue_17 (by decide) rfl (fun c17 => ?_) (fun c17 => ?_)
    · skip
      refine q_iconst (v := 0) (pc2 := 35) C dX4_cue_34 (by decide) rfl ?_
      refine q_eqi (y := (b2 (inR fade 0 50 ∧ inR curve 0 2 ∧ inR follow (-1) 50))) ((b2_f (fun z : inR fade 0 50 ∧ inR curve 0 2 ∧ inR follow (-1) 50 => absurd z.2.1 (b2_eq.mp c17))).symm) ?_
      exact hj35
    · skip
      refine q_iload_n (pc2 := 21) C 3 dX4_cue_20 rfl rfl rfl ?_
      refine q_iconst (v := (-1)) (pc2 := 22) C dX4_cue_21 (by decide) rfl ?_
      refine q_bipush (v := 50) (pc2 := 24) C dX4_cue_22 (by decide) rfl ?_
      refine q_cS (pc2 := 27) (As := [.int follow, .int (-1), .int 50]) (st := [.ref (b 30)]) (st2 := [.int (b2 (inR follow (-1) 50)), .ref (b 30)]) (w2 := (wM ct b y)) (c2 := 0) (s2 := 0) C (c_X4_isIn l D ct follow (-1) 50) (va_cwS 3 C.w gX4_cue_X4_isIn rfl rfl rfl (by decide +kernel) ⟨Nat.le_of_ble_eq_true rfl, Nat.le_of_ble_eq_true rfl⟩) [] [0, 1, 2, 3, 4, 5, 6, 7, 8, 9, 10, 11, 12, 13, 14, 15, 16, 17, 18, 19, 20, 21] [0, 1, 2, 3, 4, 5, 6, 7, 8, 9, 10, 11, 12, 13, 14, 15, 16, 17, 18, 19, 20, 21] rfl rfl (by decide) (by decide) (by decide) rfl (by decide) dX4_cue_24 rfl rfl (Nat.le_of_ble_eq_true rfl) ⟨Nat.zero_le _, Nat.zero_le _⟩ rfl rfl rfl rfl ?_
      refine q_if_eq (tgt := 34) (pc2 := 30) C dX4_cue_27 (by decide) rfl (fun c27 => ?_) (fun c27 => ?_)
      · skip
        refine q_iconst (v := 0) (pc2 := 35) C dX4_cue_34 (by decide) rfl ?_
        refine q_eqi (y := (b2 (inR fade 0 50 ∧ inR curve 0 2 ∧ inR follow (-1) 50))) ((b2_f (fun z : inR fade 0 50 ∧ inR curve 0 2 ∧ inR follow (-1) 50 => absurd z.2.2 (b2_eq.mp c27))).symm) ?_
        exact hj35
      · skip
        refine q_iconst (v := 1) (pc2 := 31) C dX4_cue_30 (by decide) rfl ?_
        refine q_goto (pc2 := 35) C dX4_cue_31 (by decide) ?_
        refine q_eqi (y := (b2 (inR fade 0 50 ∧ inR curve 0 2 ∧ inR follow (-1) 50))) ((b2_t (c := inR fade 0 50 ∧ inR curve 0 2 ∧ inR follow (-1) 50) ⟨b2_ne.mp c8, b2_ne.mp c17, b2_ne.mp c27⟩).symm) ?_
        exact hj35

set_option maxHeartbeats 4000000 in
set_option maxRecDepth 100000 in
theorem c_X4_name (l : Launch) (D : va_G) (ct : Nat → ClassId) (b : Nat → Nat) (y : Nat → Nat → Int32) (n : Nat) (hn : y 4 0 = nI n) (hn10 : n ≤ 10) (q : Nat) (hq : y 18 0 = nI q) (hq8 : q ≤ 8) (cu lm lev : Int32) : qM l yX4_name wsX4_name ({ frames := 2, cells := 0, slots := 0, locals := 43 }) D ct [.ref (b 30), .int cu, .int lm, .int lev] (wM ct b y) (qD (some (.int (if T2 (inR cu 0 (y 18 0 - 1) ∧ inR lm 0 (y 4 0 - 1)) (inR lev (-1) 100) = 0 then y 22 (10 * cu.toNatClampNeg + lm.toNatClampNeg) else 0))) (wM ct b (if T2 (inR cu 0 (y 18 0 - 1) ∧ inR lm 0 (y 4 0 - 1)) (inR lev (-1) 100) = 0 then (set2 (set2 y 27 (fun _ => T2 (inR cu 0 (y 18 0 - 1) ∧ inR lm 0 (y 4 0 - 1)) (inR lev (-1) 100))) 22 (upd (y 22) (10 * cu.toNatClampNeg + lm.toNatClampNeg) lev)) else (set2 y 27 (fun _ => T2 (inR cu 0 (y 18 0 - 1) ∧ inR lm 0 (y 4 0 - 1)) (inR lev (-1) 100)))))) 0 0 := by
  refine q_start (ret := some .int) (lv := [(0, .ref (b 30)), (1, .int cu), (2, .int lm), (3, .int lev)]) (by decide +kernel) rfl (Nat.le_of_ble_eq_true rfl) rfl ?_
  intro p e s m args below meth c A Q C hQ hnm
  have hT4 : ∀ w ∈ u_ws RX4 TX4 28, w ∈ wsX4_name := by decide +kernel
  have f68 : (Cond.fieldLink RX4 68 "PlotPatchModel" "named" "[I").before args s = true := C.w _ (by decide +kernel)
  refine q_aload_n (pc2 := 1) C 0 dX4_name_0 rfl rfl rfl ?_
  have hj22 : Cf p l e ({ frames := 2, cells := 0, slots := 0, locals := 43 }) s m args below meth c D A 5 0 0 Q 22 [(0, .ref (b 30)), (1, .int cu), (2, .int lm), (3, .int lev)] [.int (b2 (inR cu 0 (y 18 0 - 1) ∧ inR lm 0 (y 4 0 - 1))), .ref (b 30)] (wM ct b y) := by
    refine q_iload_n (pc2 := 23) C 3 dX4_name_22 rfl rfl rfl ?_
    refine q_iconst (v := (-1)) (pc2 := 24) C dX4_name_23 (by decide) rfl ?_
    refine q_bipush (v := 100) (pc2 := 26) C dX4_name_24 (by decide) rfl ?_
    refine q_cS (pc2 := 29) (As := [.int lev, .int (-1), .int 100]) (st := [.int (b2 (inR cu 0 (y 18 0 - 1) ∧ inR lm 0 (y 4 0 - 1))), .ref (b 30)]) (st2 := [.int (b2 (inR lev (-1) 100)), .int (b2 (inR cu 0 (y 18 0 - 1) ∧ inR lm 0 (y 4 0 - 1))), .ref (b 30)]) (w2 := (wM ct b y)) (c2 := 0) (s2 := 0) C (c_X4_isIn l D ct lev (-1) 100) (va_cwS 3 C.w gX4_name_X4_isIn rfl rfl rfl (by decide +kernel) ⟨Nat.le_of_ble_eq_true rfl, Nat.le_of_ble_eq_true rfl⟩) [] [0, 1, 2, 3, 4, 5, 6, 7, 8, 9, 10, 11, 12, 13, 14, 15, 16, 17, 18, 19, 20, 21] [0, 1, 2, 3, 4, 5, 6, 7, 8, 9, 10, 11, 12, 13, 14, 15, 16, 17, 18, 19, 20, 21] rfl rfl (by decide) (by decide) (by decide) rfl (by decide) dX4_name_26 rfl rfl (Nat.le_of_ble_eq_true rfl) ⟨Nat.zero_le _, Nat.zero_le _⟩ rfl rfl rfl rfl ?_
    refine q_cV (pc2 := 32) (As := [.int (b2 (inR cu 0 (y 18 0 - 1) ∧ inR lm 0 (y 4 0 - 1))), .int (b2 (inR lev (-1) 100))]) (st := []) (st2 := [.int (b2 (T2 (inR cu 0 (y 18 0 - 1) ∧ inR lm 0 (y 4 0 - 1)) (inR lev (-1) 100) = 0))]) (q0 := 0) (w2 := (wM ct b (set2 y 27 (fun _ => T2 (inR cu 0 (y 18 0 - 1) ∧ inR lm 0 (y 4 0 - 1)) (inR lev (-1) 100))))) (c2 := 0) (s2 := 0) C (c_X4_mayBoth l D ct b y (b2 (inR cu 0 (y 18 0 - 1) ∧ inR lm 0 (y 4 0 - 1))) (b2 (inR lev (-1) 100))) (cwV 2 C.w gX4_name_X4_mayBoth rfl rfl rfl (by decide +kernel) ⟨Nat.le_of_ble_eq_true rfl, Nat.le_of_ble_eq_true rfl⟩) rfl rfl [0, 1, 2, 3, 4, 5, 6, 7, 8, 9, 10, 11, 12, 13, 14, 15, 16, 17, 18, 19, 20, 21] [] [0, 1, 2, 3, 4, 5, 6, 7, 8, 9, 10, 11, 12, 13, 14, 15, 16, 17, 18, 19, 20, 21] rfl rfl (by decide) (by decide) (by decide) rfl (by decide) dX4_name_29 rfl rfl (Nat.le_of_ble_eq_true rfl) ⟨Nat.zero_le _, Nat.zero_le _⟩ rfl rfl rfl rfl ?_
    refine q_if_ne (tgt := 37) (pc2 := 35) C dX4_name_32 (by decide) rfl (fun c32 => ?_) (fun c32 => ?_)
    · skip
      have ht : T2 (inR cu 0 (y 18 0 - 1) ∧ inR lm 0 (y 4 0 - 1)) (inR lev (-1) 100) = 0 := b2_ne.mp c32
      obtain ⟨p1, p2⟩ := t2_0 ht
      have hC := idxN (k := q) (by have z := p1.1; rw [hq] at z; exact z) (by omega)
      have hL := idxN (k := n) (by have z := p1.2; rw [hn] at z; exact z) (by omega)
      refine q_aload_n (pc2 := 38) C 0 dX4_name_37 rfl rfl rfl ?_
      refine q_get (q0 := 0) (k := 22) (v := .ref (b 22)) (pc2 := 41) C hT4 f68 (wM_g0 ct b (set2 y 27 (fun _ => T2 (inR cu 0 (y 18 0 - 1) ∧ inR lm 0 (y 4 0 - 1)) (inR lev (-1) 100)))) rfl (by decide) rfl rfl dX4_name_38 rfl ?_
      refine q_bipush (v := 10) (pc2 := 43) C dX4_name_41 (by decide) rfl ?_
      refine q_iload_n (pc2 := 44) C 1 dX4_name_43 rfl rfl rfl ?_
      refine q_imul (pc2 := 45) C dX4_name_44 rfl rfl ?_
      refine q_iload_n (pc2 := 46) C 2 dX4_name_45 rfl rfl rfl ?_
      refine q_iadd (v := nI (10 * cu.toNatClampNeg + lm.toNatClampNeg)) (pc2 := 47) C dX4_name_46 (cellK (n := 10) hC.2 hL.2) rfl ?_
      refine q_iald (q0 := 20) (f := (y 22)) (pc2 := 48) C (10 * cu.toNatClampNeg + lm.toNatClampNeg) (wM_g20 ct b (set2 y 27 (fun _ => T2 (inR cu 0 (y 18 0 - 1) ∧ inR lm 0 (y 4 0 - 1)) (inR lev (-1) 100)))) rfl (rfl) (by have := hC.1; have := hL.1; omega) (by decide) dX4_name_47 rfl ?_
      refine q_istore (lv' := [(4, .int ((y 22) (10 * cu.toNatClampNeg + lm.toNatClampNeg))), (0, .ref (b 30)), (1, .int cu), (2, .int lm), (3, .int lev)]) (pc2 := 50) C dX4_name_48 (by decide) rfl rfl ?_
      refine q_aload_n (pc2 := 51) C 1 dX4_name_50 rfl rfl rfl ?_
      refine q_get (q0 := 0) (k := 22) (v := .ref (b 22)) (pc2 := 54) C hT4 f68 (wM_g0 ct b (set2 y 27 (fun _ => T2 (inR cu 0 (y 18 0 - 1) ∧ inR lm 0 (y 4 0 - 1)) (inR lev (-1) 100)))) rfl (by decide) rfl rfl dX4_name_51 rfl ?_
      refine q_bipush (v := 10) (pc2 := 56) C dX4_name_54 (by decide) rfl ?_
      refine q_iload_n (pc2 := 57) C 2 dX4_name_56 rfl rfl rfl ?_
      refine q_imul (pc2 := 58) C dX4_name_57 rfl rfl ?_
      refine q_iload_n (pc2 := 59) C 3 dX4_name_58 rfl rfl rfl ?_
      refine q_iadd (v := nI (10 * cu.toNatClampNeg + lm.toNatClampNeg)) (pc2 := 60) C dX4_name_59 (cellK (n := 10) hC.2 hL.2) rfl ?_
      refine q_iload_n (pc2 := 61) C 4 dX4_name_60 rfl rfl rfl ?_
      refine q_iast (q0 := 20) (f := (y 22)) (ws' := (wM ct b (set2 (set2 y 27 (fun _ => T2 (inR cu 0 (y 18 0 - 1) ∧ inR lm 0 (y 4 0 - 1)) (inR lev (-1) 100))) 22 (upd (y 22) (10 * cu.toNatClampNeg + lm.toNatClampNeg) lev)))) (pc2 := 62) C (10 * cu.toNatClampNeg + lm.toNatClampNeg) (wM_g20 ct b (set2 y 27 (fun _ => T2 (inR cu 0 (y 18 0 - 1) ∧ inR lm 0 (y 4 0 - 1)) (inR lev (-1) 100)))) rfl (rfl) (by have := hC.1; have := hL.1; omega) (by decide) (wM_a20 ct b (set2 y 27 (fun _ => T2 (inR cu 0 (y 18 0 - 1) ∧ inR lm 0 (y 4 0 - 1)) (inR lev (-1) 100))) (upd (y 22) (10 * cu.toNatClampNeg + lm.toNatClampNeg) lev)) dX4_name_61 rfl ?_
      refine q_iload (pc2 := 64) C 0 dX4_name_62 rfl rfl ?_
      exact q_zret C hQ rfl (rfl) (Nat.zero_le _) (Nat.zero_le _) dX4_name_64 ⟨by rw [if_pos ht], by rw [if_pos ht]⟩
    · skip
      have ht0 : ¬ T2 (inR cu 0 (y 18 0 - 1) ∧ inR lm 0 (y 4 0 - 1)) (inR lev (-1) 100) = 0 := b2_eq.mp c32
      refine q_iconst (v := 0) (pc2 := 36) C dX4_name_35 (by decide) rfl ?_
      exact q_zret C hQ rfl (rfl) (Nat.zero_le _) (Nat.zero_le _) dX4_name_36 ⟨by rw [if_neg ht0], by rw [if_neg ht0]⟩
  refine q_aload_n (pc2 := 2) C 0 dX4_name_1 rfl rfl rfl ?_
  refine q_iload_n (pc2 := 3) C 1 dX4_name_2 rfl rfl rfl ?_
  refine q_cV (pc2 := 6) (As := [.int cu]) (st := [.ref (b 30)]) (st2 := [.int (b2 (inR cu 0 (y 18 0 - 1))), .ref (b 30)]) (q0 := 0) (w2 := (wM ct b y)) (c2 := 0) (s2 := 0) C (c_X4_isCue l D ct b y cu) (cwV 1 C.w gX4_name_X4_isCue rfl rfl rfl (by decide +kernel) ⟨Nat.le_of_ble_eq_true rfl, Nat.le_of_ble_eq_true rfl⟩) rfl rfl [0, 1, 2, 3, 4, 5, 6, 7, 8, 9, 10, 11, 12, 13, 14, 15, 16, 17, 18, 19, 20, 21] [] [0, 1, 2, 3, 4, 5, 6, 7, 8, 9, 10, 11, 12, 13, 14, 15, 16, 17, 18, 19, 20, 21] rfl rfl (by decide) (by decide) (by decide) rfl (by decide) dX4_name_3 rfl rfl (Nat.le_of_ble_eq_true rfl) ⟨Nat.zero_le _, Nat.zero_le _⟩ rfl rfl rfl rfl ?_
  refine q_if_eq (tgt := 21) (pc2 := 9) C dX4_name_6 (by decide) rfl (fun c6 => ?_) (fun c6 => ?_)
  · skip
    refine q_iconst (v := 0) (pc2 := 22) C dX4_name_21 (by decide) rfl ?_
    refine q_eqi (y := (b2 (inR cu 0 (y 18 0 - 1) ∧ inR lm 0 (y 4 0 - 1)))) ((b2_f (fun z : inR cu 0 (y 18 0 - 1) ∧ inR lm 0 (y 4 0 - 1) => absurd z.1 (b2_eq.mp c6))).symm) ?_
    exact hj22
  · skip
    refine q_aload_n (pc2 := 10) C 0 dX4_name_9 rfl rfl rfl ?_
    refine q_iload_n (pc2 := 11) C 2 dX4_name_10 rfl rfl rfl ?_
    refine q_cV (pc2 := 14) (As := [.int lm]) (st := [.ref (b 30)]) (st2 := [.int (b2 (inR lm 0 (y 4 0 - 1))), .ref (b 30)]) (q0 := 0) (w2 := (wM ct b y)) (c2 := 0) (s2 := 0) C (c_X4_isLamp l D ct b y lm) (cwV 1 C.w gX4_name_X4_isLamp rfl rfl rfl (by decide +kernel) ⟨Nat.le_of_ble_eq_true rfl, Nat.le_of_ble_eq_true rfl⟩) rfl rfl [0, 1, 2, 3, 4, 5, 6, 7, 8, 9, 10, 11, 12, 13, 14, 15, 16, 17, 18, 19, 20, 21] [] [0, 1, 2, 3, 4, 5, 6, 7, 8, 9, 10, 11, 12, 13, 14, 15, 16, 17, 18, 19, 20, 21] rfl rfl (by decide) (by decide) (by decide) rfl (by decide) dX4_name_11 rfl rfl (Nat.le_of_ble_eq_true rfl) ⟨Nat.zero_le _, Nat.zero_le _⟩ rfl rfl rfl rfl ?_
    refine q_if_eq (tgt := 21) (pc2 := 17) C dX4_name_14 (by decide) rfl (fun c14 => ?_) (fun c14 => ?_)
    · skip
      refine q_iconst (v := 0) (pc2 := 22) C dX4_name_21 (by decide) rfl ?_
      refine q_eqi (y := (b2 (inR cu 0 (y 18 0 - 1) ∧ inR lm 0 (y 4 0 - 1)))) ((b2_f (fun z : inR cu 0 (y 18 0 - 1) ∧ inR lm 0 (y 4 0 - 1) => absurd z.2 (b2_eq.mp c14))).symm) ?_
      exact hj22
    · skip
      refine q_iconst (v := 1) (pc2 := 18) C dX4_name_17 (by decide) rfl ?_
      refine q_goto (pc2 := 22) C dX4_name_18 (by decide) ?_
      refine q_eqi (y := (b2 (inR cu 0 (y 18 0 - 1) ∧ inR lm 0 (y 4 0 - 1)))) ((b2_t (c := inR cu 0 (y 18 0 - 1) ∧ inR lm 0 (y 4 0 - 1)) ⟨b2_ne.mp c6, b2_ne.mp c14⟩).symm) ?_
      exact hj22

set_option maxHeartbeats 4000000 in
set_option maxRecDepth 100000 in
theorem c_X4_level (l : Launch) (D : va_G) (ct : Nat → ClassId) (b : Nat → Nat) (y : Nat → Nat → Int32) (n : Nat) (hn : y 4 0 = nI n) (hn10 : n ≤ 10) (hok : ∀ k, k < 10 → wOk y k) (lm : Int32) : qM l yX4_level wsX4_level ({ frames := 3, cells := 0, slots := 0, locals := 67 }) D ct [.ref (b 30), .int lm] (wM ct b y) (qD (some (.int (if T1 (inR lm 0 (y 4 0 - 1)) = 0 then lvM y lm.toNatClampNeg else 0))) (wM ct b (if T1 (inR lm 0 (y 4 0 - 1)) = 0 then (set2 y 27 (fun _ => T1 (inR lm 0 (y 4 0 - 1)))) else (set2 y 27 (fun _ => T1 (inR lm 0 (y 4 0 - 1))))))) 0 0 := by
  refine q_start (ret := some .int) (lv := [(0, .ref (b 30)), (1, .int lm)]) (by decide +kernel) rfl (Nat.le_of_ble_eq_true rfl) rfl ?_
  intro p e s m args below meth c A Q C hQ hnm
  refine q_aload_n (pc2 := 1) C 0 dX4_level_0 rfl rfl rfl ?_
  refine q_aload_n (pc2 := 2) C 0 dX4_level_1 rfl rfl rfl ?_
  refine q_iload_n (pc2 := 3) C 1 dX4_level_2 rfl rfl rfl ?_
  refine q_cV (pc2 := 6) (As := [.int lm]) (st := [.ref (b 30)]) (st2 := [.int (b2 (inR lm 0 (y 4 0 - 1))), .ref (b 30)]) (q0 := 0) (w2 := (wM ct b y)) (c2 := 0) (s2 := 0) C (c_X4_isLamp l D ct b y lm) (cwV 1 C.w gX4_level_X4_isLamp rfl rfl rfl (by decide +kernel) ⟨Nat.le_of_ble_eq_true rfl, Nat.le_of_ble_eq_true rfl⟩) rfl rfl [0, 1, 2, 3, 4, 5, 6, 7, 8, 9, 10, 11, 12, 13, 14, 15, 16, 17, 18, 19, 20, 21] [] [0, 1, 2, 3, 4, 5, 6, 7, 8, 9, 10, 11, 12, 13, 14, 15, 16, 17, 18, 19, 20, 21] rfl rfl (by decide) (by decide) (by decide) rfl (by decide) dX4_level_3 rfl rfl (Nat.le_of_ble_eq_true rfl) ⟨Nat.zero_le _, Nat.zero_le _⟩ rfl rfl rfl rfl ?_
  refine q_cV (pc2 := 9) (As := [.int (b2 (inR lm 0 (y 4 0 - 1)))]) (st := []) (st2 := [.int (b2 (inR lm 0 (y 4 0 - 1)))]) (q0 := 0) (w2 := (wM ct b (set2 y 27 (fun _ => T1 (inR lm 0 (y 4 0 - 1)))))) (c2 := 0) (s2 := 0) C (c_X4_may l D ct b y (b2 (inR lm 0 (y 4 0 - 1))) (b2_nar _)) (cwV 1 C.w gX4_level_X4_may rfl rfl rfl (by decide +kernel) ⟨Nat.le_of_ble_eq_true rfl, Nat.le_of_ble_eq_true rfl⟩) rfl rfl [0, 1, 2, 3, 4, 5, 6, 7, 8, 9, 10, 11, 12, 13, 14, 15, 16, 17, 18, 19, 20, 21] [] [0, 1, 2, 3, 4, 5, 6, 7, 8, 9, 10, 11, 12, 13, 14, 15, 16, 17, 18, 19, 20, 21] rfl rfl (by decide) (by decide) (by decide) rfl (by decide) dX4_level_6 rfl rfl (Nat.le_of_ble_eq_true rfl) ⟨Nat.zero_le _, Nat.zero_le _⟩ rfl rfl rfl rfl ?_
  refine q_if_eq (tgt := 20) (pc2 := 12) C dX4_level_9 (by decide) rfl (fun c9 => ?_) (fun c9 => ?_)
  · skip
    have ht0 : ¬ T1 (inR lm 0 (y 4 0 - 1)) = 0 := by rw [show T1 (inR lm 0 (y 4 0 - 1)) = 1 from if_pos c9]; decide
    refine q_iconst (v := 0) (pc2 := 21) C dX4_level_20 (by decide) rfl ?_
    exact q_zret C hQ rfl (rfl) (Nat.zero_le _) (Nat.zero_le _) dX4_level_21 ⟨by rw [if_neg ht0], by rw [if_neg ht0]⟩
  · skip
    have ht : T1 (inR lm 0 (y 4 0 - 1)) = 0 := if_neg c9
    have hP := b2_ne.mp c9
    have hL := idxN (k := n) (by have z := hP; rw [hn] at z; exact z) (by omega)
    refine q_aload_n (pc2 := 13) C 0 dX4_level_12 rfl rfl rfl ?_
    refine q_iload_n (pc2 := 14) C 1 dX4_level_13 rfl rfl rfl ?_
    refine q_cV (pc2 := 17) (As := [.int lm]) (st := []) (st2 := [.int (lvM (set2 y 27 (fun _ => T1 (inR lm 0 (y 4 0 - 1)))) lm.toNatClampNeg)]) (q0 := 0) (w2 := (wM ct b (set2 y 27 (fun _ => T1 (inR lm 0 (y 4 0 - 1)))))) (c2 := 0) (s2 := 0) C (c_X4_levelOf l D ct b (set2 y 27 (fun _ => T1 (inR lm 0 (y 4 0 - 1)))) lm lm.toNatClampNeg (hL.2) (by have := hL.1; omega) (wOk_27 (hok _ (by have := hL.1; omega)))) (cwV 1 C.w gX4_level_X4_levelOf rfl rfl rfl (by decide +kernel) ⟨Nat.le_of_ble_eq_true rfl, Nat.le_of_ble_eq_true rfl⟩) rfl rfl [0, 1, 2, 3, 4, 5, 6, 7, 8, 9, 10, 11, 12, 13, 14, 15, 16, 17, 18, 19, 20, 21] [] [0, 1, 2, 3, 4, 5, 6, 7, 8, 9, 10, 11, 12, 13, 14, 15, 16, 17, 18, 19, 20, 21] rfl rfl (by decide) (by decide) (by decide) rfl (by decide) dX4_level_14 rfl rfl (Nat.le_of_ble_eq_true rfl) ⟨Nat.zero_le _, Nat.zero_le _⟩ rfl rfl rfl rfl ?_
    refine q_goto (pc2 := 21) C dX4_level_17 (by decide) ?_
    exact q_zret C hQ rfl (rfl) (Nat.zero_le _) (Nat.zero_le _) dX4_level_21 ⟨by rw [if_pos ht]; rfl, by rw [if_pos ht]⟩

set_option maxHeartbeats 4000000 in
set_option maxRecDepth 100000 in
theorem c_X4_wanted (l : Launch) (D : va_G) (ct : Nat → ClassId) (b : Nat → Nat) (y : Nat → Nat → Int32) (n : Nat) (hn : y 4 0 = nI n) (hn10 : n ≤ 10) (hok : ∀ k, k < 10 → wOk y k) (lm : Int32) : qM l yX4_wanted wsX4_wanted ({ frames := 2, cells := 0, slots := 0, locals := 46 }) D ct [.ref (b 30), .int lm] (wM ct b y) (qD (some (.int (if T1 (inR lm 0 (y 4 0 - 1)) = 0 then wlM y lm.toNatClampNeg else 0))) (wM ct b (if T1 (inR lm 0 (y 4 0 - 1)) = 0 then (set2 y 27 (fun _ => T1 (inR lm 0 (y 4 0 - 1)))) else (set2 y 27 (fun _ => T1 (inR lm 0 (y 4 0 - 1))))))) 0 0 := by
  refine q_start (ret := some .int) (lv := [(0, .ref (b 30)), (1, .int lm)]) (by decide +kernel) rfl (Nat.le_of_ble_eq_true rfl) rfl ?_
  intro p e s m args below meth c A Q C hQ hnm
  refine q_aload_n (pc2 := 1) C 0 dX4_wanted_0 rfl rfl rfl ?_
  refine q_aload_n (pc2 := 2) C 0 dX4_wanted_1 rfl rfl rfl ?_
  refine q_iload_n (pc2 := 3) C 1 dX4_wanted_2 rfl rfl rfl ?_
  refine q_cV (pc2 := 6) (As := [.int lm]) (st := [.ref (b 30)]) (st2 := [.int (b2 (inR lm 0 (y 4 0 - 1))), .ref (b 30)]) (q0 := 0) (w2 := (wM ct b y)) (c2 := 0) (s2 := 0) C (c_X4_isLamp l D ct b y lm) (cwV 1 C.w gX4_wanted_X4_isLamp rfl rfl rfl (by decide +kernel) ⟨Nat.le_of_ble_eq_true rfl, Nat.le_of_ble_eq_true rfl⟩) rfl rfl [0, 1, 2, 3, 4, 5, 6, 7, 8, 9, 10, 11, 12, 13, 14, 15, 16, 17, 18, 19, 20, 21] [] [0, 1, 2, 3, 4, 5, 6, 7, 8, 9, 10, 11, 12, 13, 14, 15, 16, 17, 18, 19, 20, 21] rfl rfl (by decide) (by decide) (by decide) rfl (by decide) dX4_wanted_3 rfl rfl (Nat.le_of_ble_eq_true rfl) ⟨Nat.zero_le _, Nat.zero_le _⟩ rfl rfl rfl rfl ?_
  refine q_cV (pc2 := 9) (As := [.int (b2 (inR lm 0 (y 4 0 - 1)))]) (st := []) (st2 := [.int (b2 (inR lm 0 (y 4 0 - 1)))]) (q0 := 0) (w2 := (wM ct b (set2 y 27 (fun _ => T1 (inR lm 0 (y 4 0 - 1)))))) (c2 := 0) (s2 := 0) C (c_X4_may l D ct b y (b2 (inR lm 0 (y 4 0 - 1))) (b2_nar _)) (cwV 1 C.w gX4_wanted_X4_may rfl rfl rfl (by decide +kernel) ⟨Nat.le_of_ble_eq_true rfl, Nat.le_of_ble_eq_true rfl⟩) rfl rfl [0, 1, 2, 3, 4, 5, 6, 7, 8, 9, 10, 11, 12, 13, 14, 15, 16, 17, 18, 19, 20, 21] [] [0, 1, 2, 3, 4, 5, 6, 7, 8, 9, 10, 11, 12, 13, 14, 15, 16, 17, 18, 19, 20, 21] rfl rfl (by decide) (by decide) (by decide) rfl (by decide) dX4_wanted_6 rfl rfl (Nat.le_of_ble_eq_true rfl) ⟨Nat.zero_le _, Nat.zero_le _⟩ rfl rfl rfl rfl ?_
  refine q_if_eq (tgt := 20) (pc2 := 12) C dX4_wanted_9 (by decide) rfl (fun c9 => ?_) (fun c9 => ?_)
  · skip
    have ht0 : ¬ T1 (inR lm 0 (y 4 0 - 1)) = 0 := by rw [show T1 (inR lm 0 (y 4 0 - 1)) = 1 from if_pos c9]; decide
    refine q_iconst (v := 0) (pc2 := 21) C dX4_wanted_20 (by decide) rfl ?_
    exact q_zret C hQ rfl (rfl) (Nat.zero_le _) (Nat.zero_le _) dX4_wanted_21 ⟨by rw [if_neg ht0], by rw [if_neg ht0]⟩
  · skip
    have ht : T1 (inR lm 0 (y 4 0 - 1)) = 0 := if_neg c9
    have hP := b2_ne.mp c9
    have hL := idxN (k := n) (by have z := hP; rw [hn] at z; exact z) (by omega)
    refine q_aload_n (pc2 := 13) C 0 dX4_wanted_12 rfl rfl rfl ?_
    refine q_iload_n (pc2 := 14) C 1 dX4_wanted_13 rfl rfl rfl ?_
    refine q_cV (pc2 := 17) (As := [.int lm]) (st := []) (st2 := [.int (wlM (set2 y 27 (fun _ => T1 (inR lm 0 (y 4 0 - 1)))) lm.toNatClampNeg)]) (q0 := 0) (w2 := (wM ct b (set2 y 27 (fun _ => T1 (inR lm 0 (y 4 0 - 1)))))) (c2 := 0) (s2 := 0) C (c_X4_wantedOf l D ct b (set2 y 27 (fun _ => T1 (inR lm 0 (y 4 0 - 1)))) lm lm.toNatClampNeg (hL.2) (by have := hL.1; omega) (wOk_27 (hok _ (by have := hL.1; omega)))) (cwV 1 C.w gX4_wanted_X4_wantedOf rfl rfl rfl (by decide +kernel) ⟨Nat.le_of_ble_eq_true rfl, Nat.le_of_ble_eq_true rfl⟩) rfl rfl [0, 1, 2, 3, 4, 5, 6, 7, 8, 9, 10, 11, 12, 13, 14, 15, 16, 17, 18, 19, 20, 21] [] [0, 1, 2, 3, 4, 5, 6, 7, 8, 9, 10, 11, 12, 13, 14, 15, 16, 17, 18, 19, 20, 21] rfl rfl (by decide) (by decide) (by decide) rfl (by decide) dX4_wanted_14 rfl rfl (Nat.le_of_ble_eq_true rfl) ⟨Nat.zero_le _, Nat.zero_le _⟩ rfl rfl rfl rfl ?_
    refine q_goto (pc2 := 21) C dX4_wanted_17 (by decide) ?_
    exact q_zret C hQ rfl (rfl) (Nat.zero_le _) (Nat.zero_le _) dX4_wanted_21 ⟨by rw [if_pos ht]; rfl, by rw [if_pos ht]⟩

set_option maxHeartbeats 4000000 in
set_option maxRecDepth 100000 in
theorem c_X4_wantedByCues (l : Launch) (D : va_G) (ct : Nat → ClassId) (b : Nat → Nat) (y : Nat → Nat → Int32) (n : Nat) (hn : y 4 0 = nI n) (hn10 : n ≤ 10) (hok : ∀ k, k < 10 → wOk y k) (lm : Int32) : qM l yX4_wantedByCues wsX4_wantedByCues ({ frames := 2, cells := 0, slots := 0, locals := 46 }) D ct [.ref (b 30), .int lm] (wM ct b y) (qD (some (.int (if T1 (inR lm 0 (y 4 0 - 1)) = 0 then wlM y lm.toNatClampNeg else 0))) (wM ct b (if T1 (inR lm 0 (y 4 0 - 1)) = 0 then (set2 y 27 (fun _ => T1 (inR lm 0 (y 4 0 - 1)))) else (set2 y 27 (fun _ => T1 (inR lm 0 (y 4 0 - 1))))))) 0 0 := by
  refine q_start (ret := some .int) (lv := [(0, .ref (b 30)), (1, .int lm)]) (by decide +kernel) rfl (Nat.le_of_ble_eq_true rfl) rfl ?_
  intro p e s m args below meth c A Q C hQ hnm
  refine q_aload_n (pc2 := 1) C 0 dX4_wantedByCues_0 rfl rfl rfl ?_
  refine q_aload_n (pc2 := 2) C 0 dX4_wantedByCues_1 rfl rfl rfl ?_
  refine q_iload_n (pc2 := 3) C 1 dX4_wantedByCues_2 rfl rfl rfl ?_
  refine q_cV (pc2 := 6) (As := [.int lm]) (st := [.ref (b 30)]) (st2 := [.int (b2 (inR lm 0 (y 4 0 - 1))), .ref (b 30)]) (q0 := 0) (w2 := (wM ct b y)) (c2 := 0) (s2 := 0) C (c_X4_isLamp l D ct b y lm) (cwV 1 C.w gX4_wantedByCues_X4_isLamp rfl rfl rfl (by decide +kernel) ⟨Nat.le_of_ble_eq_true rfl, Nat.le_of_ble_eq_true rfl⟩) rfl rfl [0, 1, 2, 3, 4, 5, 6, 7, 8, 9, 10, 11, 12, 13, 14, 15, 16, 17, 18, 19, 20, 21] [] [0, 1, 2, 3, 4, 5, 6, 7, 8, 9, 10, 11, 12, 13, 14, 15, 16, 17, 18, 19, 20, 21] rfl rfl (by decide) (by decide) (by decide) rfl (by decide) dX4_wantedByCues_3 rfl rfl (Nat.le_of_ble_eq_true rfl) ⟨Nat.zero_le _, Nat.zero_le _⟩ rfl rfl rfl rfl ?_
  refine q_cV (pc2 := 9) (As := [.int (b2 (inR lm 0 (y 4 0 - 1)))]) (st := []) (st2 := [.int (b2 (inR lm 0 (y 4 0 - 1)))]) (q0 := 0) (w2 := (wM ct b (set2 y 27 (fun _ => T1 (inR lm 0 (y 4 0 - 1)))))) (c2 := 0) (s2 := 0) C (c_X4_may l D ct b y (b2 (inR lm 0 (y 4 0 - 1))) (b2_nar _)) (cwV 1 C.w gX4_wantedByCues_X4_may rfl rfl rfl (by decide +kernel) ⟨Nat.le_of_ble_eq_true rfl, Nat.le_of_ble_eq_true rfl⟩) rfl rfl [0, 1, 2, 3, 4, 5, 6, 7, 8, 9, 10, 11, 12, 13, 14, 15, 16, 17, 18, 19, 20, 21] [] [0, 1, 2, 3, 4, 5, 6, 7, 8, 9, 10, 11, 12, 13, 14, 15, 16, 17, 18, 19, 20, 21] rfl rfl (by decide) (by decide) (by decide) rfl (by decide) dX4_wantedByCues_6 rfl rfl (Nat.le_of_ble_eq_true rfl) ⟨Nat.zero_le _, Nat.zero_le _⟩ rfl rfl rfl rfl ?_
  refine q_if_eq (tgt := 20) (pc2 := 12) C dX4_wantedByCues_9 (by decide) rfl (fun c9 => ?_) (fun c9 => ?_)
  · skip
    have ht0 : ¬ T1 (inR lm 0 (y 4 0 - 1)) = 0 := by rw [show T1 (inR lm 0 (y 4 0 - 1)) = 1 from if_pos c9]; decide
    refine q_iconst (v := 0) (pc2 := 21) C dX4_wantedByCues_20 (by decide) rfl ?_
    exact q_zret C hQ rfl (rfl) (Nat.zero_le _) (Nat.zero_le _) dX4_wantedByCues_21 ⟨by rw [if_neg ht0], by rw [if_neg ht0]⟩
  · skip
    have ht : T1 (inR lm 0 (y 4 0 - 1)) = 0 := if_neg c9
    have hP := b2_ne.mp c9
    have hL := idxN (k := n) (by have z := hP; rw [hn] at z; exact z) (by omega)
    refine q_aload_n (pc2 := 13) C 0 dX4_wantedByCues_12 rfl rfl rfl ?_
    refine q_iload_n (pc2 := 14) C 1 dX4_wantedByCues_13 rfl rfl rfl ?_
    refine q_cV (pc2 := 17) (As := [.int lm]) (st := []) (st2 := [.int (wlM (set2 y 27 (fun _ => T1 (inR lm 0 (y 4 0 - 1)))) lm.toNatClampNeg)]) (q0 := 0) (w2 := (wM ct b (set2 y 27 (fun _ => T1 (inR lm 0 (y 4 0 - 1)))))) (c2 := 0) (s2 := 0) C (c_X4_wantedOf l D ct b (set2 y 27 (fun _ => T1 (inR lm 0 (y 4 0 - 1)))) lm lm.toNatClampNeg (hL.2) (by have := hL.1; omega) (wOk_27 (hok _ (by have := hL.1; omega)))) (cwV 1 C.w gX4_wantedByCues_X4_wantedOf rfl rfl rfl (by decide +kernel) ⟨Nat.le_of_ble_eq_true rfl, Nat.le_of_ble_eq_true rfl⟩) rfl rfl [0, 1, 2, 3, 4, 5, 6, 7, 8, 9, 10, 11, 12, 13, 14, 15, 16, 17, 18, 19, 20, 21] [] [0, 1, 2, 3, 4, 5, 6, 7, 8, 9, 10, 11, 12, 13, 14, 15, 16, 17, 18, 19, 20, 21] rfl rfl (by decide) (by decide) (by decide) rfl (by decide) dX4_wantedByCues_14 rfl rfl (Nat.le_of_ble_eq_true rfl) ⟨Nat.zero_le _, Nat.zero_le _⟩ rfl rfl rfl rfl ?_
    refine q_goto (pc2 := 21) C dX4_wantedByCues_17 (by decide) ?_
    exact q_zret C hQ rfl (rfl) (Nat.zero_le _) (Nat.zero_le _) dX4_wantedByCues_21 ⟨by rw [if_pos ht]; rfl, by rw [if_pos ht]⟩

theorem vp_b2 (c : Prop) [Decidable c] : vp_nar .boolean (b2 c) = b2 c := by unfold b2; split <;> rfl

set_option maxHeartbeats 4000000 in
set_option maxRecDepth 100000 in
theorem c_X4_bulb (l : Launch) (D : va_G) (ct : Nat → ClassId) (b : Nat → Nat) (y : Nat → Nat → Int32) (n : Nat) (hn : y 4 0 = nI n) (hn10 : n ≤ 10) (lm : Int32) : qM l yX4_bulb wsX4_bulb ({ frames := 2, cells := 0, slots := 0, locals := 43 }) D ct [.ref (b 30), .int lm] (wM ct b y) (qD (some (.int (if T1 (inR lm 0 (y 4 0 - 1)) = 0 then b2 ((b2 (y 11 lm.toNatClampNeg = 0)) = 0) else 0))) (wM ct b (if T1 (inR lm 0 (y 4 0 - 1)) = 0 then (set2 (set2 y 27 (fun _ => T1 (inR lm 0 (y 4 0 - 1)))) 11 (upd (y 11) lm.toNatClampNeg (b2 (y 11 lm.toNatClampNeg = 0)))) else (set2 y 27 (fun _ => T1 (inR lm 0 (y 4 0 - 1))))))) 0 0 := by
  refine q_start (ret := some .boolean) (lv := [(0, .ref (b 30)), (1, .int lm)]) (by decide +kernel) rfl (Nat.le_of_ble_eq_true rfl) rfl ?_
  intro p e s m args below meth c A Q C hQ hnm
  have hT4 : ∀ w ∈ u_ws RX4 TX4 28, w ∈ wsX4_bulb := by decide +kernel
  have f37 : (Cond.fieldLink RX4 37 "PlotPatchModel" "isDead" "[Z").before args s = true := C.w _ (by decide +kernel)
  refine q_aload_n (pc2 := 1) C 0 dX4_bulb_0 rfl rfl rfl ?_
  refine q_aload_n (pc2 := 2) C 0 dX4_bulb_1 rfl rfl rfl ?_
  refine q_iload_n (pc2 := 3) C 1 dX4_bulb_2 rfl rfl rfl ?_
  refine q_cV (pc2 := 6) (As := [.int lm]) (st := [.ref (b 30)]) (st2 := [.int (b2 (inR lm 0 (y 4 0 - 1))), .ref (b 30)]) (q0 := 0) (w2 := (wM ct b y)) (c2 := 0) (s2 := 0) C (c_X4_isLamp l D ct b y lm) (cwV 1 C.w gX4_bulb_X4_isLamp rfl rfl rfl (by decide +kernel) ⟨Nat.le_of_ble_eq_true rfl, Nat.le_of_ble_eq_true rfl⟩) rfl rfl [0, 1, 2, 3, 4, 5, 6, 7, 8, 9, 10, 11, 12, 13, 14, 15, 16, 17, 18, 19, 20, 21] [] [0, 1, 2, 3, 4, 5, 6, 7, 8, 9, 10, 11, 12, 13, 14, 15, 16, 17, 18, 19, 20, 21] rfl rfl (by decide) (by decide) (by decide) rfl (by decide) dX4_bulb_3 rfl rfl (Nat.le_of_ble_eq_true rfl) ⟨Nat.zero_le _, Nat.zero_le _⟩ rfl rfl rfl rfl ?_
  refine q_cV (pc2 := 9) (As := [.int (b2 (inR lm 0 (y 4 0 - 1)))]) (st := []) (st2 := [.int (b2 (inR lm 0 (y 4 0 - 1)))]) (q0 := 0) (w2 := (wM ct b (set2 y 27 (fun _ => T1 (inR lm 0 (y 4 0 - 1)))))) (c2 := 0) (s2 := 0) C (c_X4_may l D ct b y (b2 (inR lm 0 (y 4 0 - 1))) (b2_nar _)) (cwV 1 C.w gX4_bulb_X4_may rfl rfl rfl (by decide +kernel) ⟨Nat.le_of_ble_eq_true rfl, Nat.le_of_ble_eq_true rfl⟩) rfl rfl [0, 1, 2, 3, 4, 5, 6, 7, 8, 9, 10, 11, 12, 13, 14, 15, 16, 17, 18, 19, 20, 21] [] [0, 1, 2, 3, 4, 5, 6, 7, 8, 9, 10, 11, 12, 13, 14, 15, 16, 17, 18, 19, 20, 21] rfl rfl (by decide) (by decide) (by decide) rfl (by decide) dX4_bulb_6 rfl rfl (Nat.le_of_ble_eq_true rfl) ⟨Nat.zero_le _, Nat.zero_le _⟩ rfl rfl rfl rfl ?_
  refine q_if_ne (tgt := 14) (pc2 := 12) C dX4_bulb_9 (by decide) rfl (fun c9 => ?_) (fun c9 => ?_)
  · skip
    have ht : T1 (inR lm 0 (y 4 0 - 1)) = 0 := if_neg c9
    have hP := b2_ne.mp c9
    have hL := idxN (k := n) (by have z := hP; rw [hn] at z; exact z) (by omega)
    refine q_aload_n (pc2 := 15) C 0 dX4_bulb_14 rfl rfl rfl ?_
    refine q_get (q0 := 0) (k := 11) (v := .ref (b 11)) (pc2 := 18) C hT4 f37 (wM_g0 ct b (set2 y 27 (fun _ => T1 (inR lm 0 (y 4 0 - 1))))) rfl (by decide) rfl rfl dX4_bulb_15 rfl ?_
    refine q_iload_n (pc2 := 19) C 1 dX4_bulb_18 rfl rfl rfl ?_
    have hj33 : Cf p l e ({ frames := 2, cells := 0, slots := 0, locals := 43 }) s m args below meth c D A 2 0 0 Q 33 [(0, .ref (b 30)), (1, .int lm)] [.int (b2 (y 11 lm.toNatClampNeg = 0)), .int lm, .ref (b 11)] (wM ct b (set2 y 27 (fun _ => T1 (inR lm 0 (y 4 0 - 1))))) := by
      refine q_zast (q0 := 10) (f := (y 11)) (ws' := (wM ct b (set2 (set2 y 27 (fun _ => T1 (inR lm 0 (y 4 0 - 1)))) 11 (upd (y 11) lm.toNatClampNeg (b2 (y 11 lm.toNatClampNeg = 0)))))) (pc2 := 34) C lm.toNatClampNeg (wM_g10 ct b (set2 y 27 (fun _ => T1 (inR lm 0 (y 4 0 - 1))))) rfl (hL.2) (by have := hL.1; omega) (by decide) (vp_b2 _) (wM_a10 ct b (set2 y 27 (fun _ => T1 (inR lm 0 (y 4 0 - 1)))) (upd (y 11) lm.toNatClampNeg (b2 (y 11 lm.toNatClampNeg = 0)))) dX4_bulb_33 rfl ?_
      have hj48 : Cf p l e ({ frames := 2, cells := 0, slots := 0, locals := 43 }) s m args below meth c D A 2 0 0 Q 48 [(0, .ref (b 30)), (1, .int lm)] [.int (b2 ((b2 (y 11 lm.toNatClampNeg = 0)) = 0))] (wM ct b (set2 (set2 y 27 (fun _ => T1 (inR lm 0 (y 4 0 - 1)))) 11 (upd (y 11) lm.toNatClampNeg (b2 (y 11 lm.toNatClampNeg = 0))))) := by
        exact q_zret C hQ rfl (b2_nar _) (Nat.zero_le _) (Nat.zero_le _) dX4_bulb_48 ⟨by rw [if_pos ht], by rw [if_pos ht]⟩
      refine q_aload_n (pc2 := 35) C 0 dX4_bulb_34 rfl rfl rfl ?_
      refine q_get (q0 := 0) (k := 11) (v := .ref (b 11)) (pc2 := 38) C hT4 f37 (wM_g0 ct b (set2 (set2 y 27 (fun _ => T1 (inR lm 0 (y 4 0 - 1)))) 11 (upd (y 11) lm.toNatClampNeg (b2 (y 11 lm.toNatClampNeg = 0))))) rfl (by decide) rfl rfl dX4_bulb_35 rfl ?_
      refine q_iload_n (pc2 := 39) C 1 dX4_bulb_38 rfl rfl rfl ?_
      refine q_zald (q0 := 10) (f := (upd (y 11) lm.toNatClampNeg (b2 (y 11 lm.toNatClampNeg = 0)))) (pc2 := 40) C lm.toNatClampNeg (wM_g10 ct b (set2 (set2 y 27 (fun _ => T1 (inR lm 0 (y 4 0 - 1)))) 11 (upd (y 11) lm.toNatClampNeg (b2 (y 11 lm.toNatClampNeg = 0))))) rfl (hL.2) (by have := hL.1; omega) (by decide) dX4_bulb_39 rfl ?_
      refine q_eqi (y := (b2 (y 11 lm.toNatClampNeg = 0))) (upd_s) ?_
      refine q_if_ne (tgt := 47) (pc2 := 43) C dX4_bulb_40 (by decide) rfl (fun c40 => ?_) (fun c40 => ?_)
      · skip
        refine q_iconst (v := 0) (pc2 := 48) C dX4_bulb_47 (by decide) rfl ?_
        refine q_eqi (y := (b2 ((b2 (y 11 lm.toNatClampNeg = 0)) = 0))) ((b2_f (fun z : (b2 (y 11 lm.toNatClampNeg = 0)) = 0 => absurd z (c40))).symm) ?_
        exact hj48
      · skip
        refine q_iconst (v := 1) (pc2 := 44) C dX4_bulb_43 (by decide) rfl ?_
        refine q_goto (pc2 := 48) C dX4_bulb_44 (by decide) ?_
        refine q_eqi (y := (b2 ((b2 (y 11 lm.toNatClampNeg = 0)) = 0))) ((b2_t (c := (b2 (y 11 lm.toNatClampNeg = 0)) = 0) (c40)).symm) ?_
        exact hj48
    refine q_aload_n (pc2 := 20) C 0 dX4_bulb_19 rfl rfl rfl ?_
    refine q_get (q0 := 0) (k := 11) (v := .ref (b 11)) (pc2 := 23) C hT4 f37 (wM_g0 ct b (set2 y 27 (fun _ => T1 (inR lm 0 (y 4 0 - 1))))) rfl (by decide) rfl rfl dX4_bulb_20 rfl ?_
    refine q_iload_n (pc2 := 24) C 1 dX4_bulb_23 rfl rfl rfl ?_
    refine q_zald (q0 := 10) (f := (y 11)) (pc2 := 25) C lm.toNatClampNeg (wM_g10 ct b (set2 y 27 (fun _ => T1 (inR lm 0 (y 4 0 - 1))))) rfl (hL.2) (by have := hL.1; omega) (by decide) dX4_bulb_24 rfl ?_
    refine q_if_ne (tgt := 32) (pc2 := 28) C dX4_bulb_25 (by decide) rfl (fun c25 => ?_) (fun c25 => ?_)
    · skip
      refine q_iconst (v := 0) (pc2 := 33) C dX4_bulb_32 (by decide) rfl ?_
      refine q_eqi (y := (b2 (y 11 lm.toNatClampNeg = 0))) ((b2_f (fun z : y 11 lm.toNatClampNeg = 0 => absurd z (c25))).symm) ?_
      exact hj33
    · skip
      refine q_iconst (v := 1) (pc2 := 29) C dX4_bulb_28 (by decide) rfl ?_
      refine q_goto (pc2 := 33) C dX4_bulb_29 (by decide) ?_
      refine q_eqi (y := (b2 (y 11 lm.toNatClampNeg = 0))) ((b2_t (c := y 11 lm.toNatClampNeg = 0) (c25)).symm) ?_
      exact hj33
  · skip
    have ht0 : ¬ T1 (inR lm 0 (y 4 0 - 1)) = 0 := by rw [show T1 (inR lm 0 (y 4 0 - 1)) = 1 from if_pos c9]; decide
    refine q_iconst (v := 0) (pc2 := 13) C dX4_bulb_12 (by decide) rfl ?_
    exact q_zret C hQ rfl (rfl) (Nat.zero_le _) (Nat.zero_le _) dX4_bulb_13 ⟨by rw [if_neg ht0], by rw [if_neg ht0]⟩
