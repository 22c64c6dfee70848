set_option maxHeartbeats 4000000 in
set_option maxRecDepth 100000 in
theorem c_X1_nearestPlace (l : Launch) (D : va_G) (ct : Nat → ClassId) (a : Nat → Nat) (x : Nat → Nat → Int32) (h : Nat) (hh : x 4 0 = nI h) (hlt : h < 2) (i : Nat) (hi : i < 10) (j : Nat) (hj : j < 4) (own : Int32) : qM l yX1_nearestPlace wsX1_nearestPlace ({ frames := 2, cells := 0, slots := 0, locals := 45 }) D ct [.ref (a 31), .int (nI i), .int (nI j), .int own] (wR ct a x) (qD (some (.int (nearX x h i j own))) (wR ct a x)) 0 0 := by
  refine q_start (ret := some .int) (lv := [(0, .ref (a 31)), (1, .int (nI i)), (2, .int (nI j)), (3, .int own)]) (by decide +kernel) rfl (Nat.le_of_ble_eq_true rfl) rfl ?_
  intro p e s m args below meth c A Q C hQ hnm
  refine q_iconst (v := 0) (pc2 := 1) C dX1_nearestPlace_0 (by decide) rfl ?_
  refine q_istore (lv' := [(4, .int 0), (0, .ref (a 31)), (1, .int (nI i)), (2, .int (nI j)), (3, .int own)]) (pc2 := 3) C dX1_nearestPlace_1 (by decide) rfl rfl ?_
  refine q_lv (lv' := [(4, .int 0), (0, .ref (a 31)), (1, .int (nI i)), (2, .int (nI j)), (3, .int own)]) [0, 1, 2, 3, 4] rfl ?_
  refine (lp_up (P := fun d => (nrst (fun v => okX x h i j v) own (101 - d) d = nearX x h i j own) → Cf p l e ({ frames := 2, cells := 0, slots := 0, locals := 45 }) s m args below meth c D A 5 0 0 Q 3 [(4, .int (nI d)), (0, .ref (a 31)), (1, .int (nI i)), (2, .int (nI j)), (3, .int own)] [] (wR ct a x)) (101) (fun d hd ihd => ?_) ?_ : (nrst (fun v => okX x h i j v) own (101 - 0) 0 = nearX x h i j own) → Cf p l e ({ frames := 2, cells := 0, slots := 0, locals := 45 }) s m args below meth c D A 5 0 0 Q 3 [(4, .int (nI 0)), (0, .ref (a 31)), (1, .int (nI i)), (2, .int (nI j)), (3, .int own)] [] (wR ct a x)) (rfl)
  · intro hyd
    refine q_iload (pc2 := 5) C 0 dX1_nearestPlace_3 rfl rfl ?_
    refine q_bipush (v := 100) (pc2 := 7) C dX1_nearestPlace_5 (by decide) rfl ?_
    refine q_icmp_gt (tgt := 76) (pc2 := 10) C dX1_nearestPlace_7 (by decide) rfl (fun c7 => (q_absurdG (a := 100) (b := d) c7 (by omega) (by decide))) (fun _ => ?_)
    refine q_aload_n (pc2 := 11) C 1 dX1_nearestPlace_10 rfl rfl rfl ?_
    refine q_iload_n (pc2 := 12) C 3 dX1_nearestPlace_11 rfl rfl rfl ?_
    refine q_iload_n (pc2 := 13) C 4 dX1_nearestPlace_12 rfl rfl rfl ?_
    refine q_iload (pc2 := 15) C 0 dX1_nearestPlace_13 rfl rfl ?_
    refine q_isub (pc2 := 16) C dX1_nearestPlace_15 rfl rfl ?_
    refine q_cV (pc2 := 19) (As := [.int (nI j), .int (own - (nI d))]) (st := []) (st2 := [.int (b2 (plcX x h j (own - (nI d))))]) (q0 := 0) (w2 := (wR ct a x)) (c2 := 0) (s2 := 0) C (c_X1_hasPlace l D ct a x h hh hlt j hj (own - (nI d))) (cwV 2 C.w gX1_nearestPlace_X1_hasPlace rfl rfl rfl (by decide +kernel) ⟨Nat.le_of_ble_eq_true rfl, Nat.le_of_ble_eq_true rfl⟩) rfl rfl [0, 1, 2, 3, 4, 5, 6, 7] [] [0, 1, 2, 3, 4, 5, 6, 7] rfl rfl (by decide) (by decide) (by decide) rfl (by decide) dX1_nearestPlace_16 rfl rfl (Nat.le_of_ble_eq_true rfl) ⟨Nat.zero_le _, Nat.zero_le _⟩ rfl rfl rfl rfl ?_
    refine q_if_eq (tgt := 40) (pc2 := 22) C dX1_nearestPlace_19 (by decide) rfl (fun c19 => ?_) (fun c19 => ?_)
    · skip
      refine q_aload_n (pc2 := 41) C 1 dX1_nearestPlace_40 rfl rfl rfl ?_
      refine q_iload_n (pc2 := 42) C 3 dX1_nearestPlace_41 rfl rfl rfl ?_
      refine q_iload_n (pc2 := 43) C 4 dX1_nearestPlace_42 rfl rfl rfl ?_
      refine q_iload (pc2 := 45) C 0 dX1_nearestPlace_43 rfl rfl ?_
      refine q_iadd (pc2 := 46) C dX1_nearestPlace_45 rfl rfl ?_
      refine q_cV (pc2 := 49) (As := [.int (nI j), .int (own + (nI d))]) (st := []) (st2 := [.int (b2 (plcX x h j (own + (nI d))))]) (q0 := 0) (w2 := (wR ct a x)) (c2 := 0) (s2 := 0) C (c_X1_hasPlace l D ct a x h hh hlt j hj (own + (nI d))) (cwV 2 C.w gX1_nearestPlace_X1_hasPlace rfl rfl rfl (by decide +kernel) ⟨Nat.le_of_ble_eq_true rfl, Nat.le_of_ble_eq_true rfl⟩) rfl rfl [0, 1, 2, 3, 4, 5, 6, 7] [] [0, 1, 2, 3, 4, 5, 6, 7] rfl rfl (by decide) (by decide) (by decide) rfl (by decide) dX1_nearestPlace_46 rfl rfl (Nat.le_of_ble_eq_true rfl) ⟨Nat.zero_le _, Nat.zero_le _⟩ rfl rfl rfl rfl ?_
      refine q_if_eq (tgt := 70) (pc2 := 52) C dX1_nearestPlace_49 (by decide) rfl (fun c49 => ?_) (fun c49 => ?_)
      · skip
        refine q_iinc (v := nI (d + 1)) (lv' := [(4, .int (nI (d + 1))), (0, .ref (a 31)), (1, .int (nI i)), (2, .int (nI j)), (3, .int own)]) (pc2 := 73) C 0 dX1_nearestPlace_70 rfl (nI_1 d) (by decide) rfl rfl ?_
        refine q_goto (pc2 := 3) C dX1_nearestPlace_73 (by decide) ?_
        refine q_lv (lv' := [(4, .int (nI (d + 1))), (0, .ref (a 31)), (1, .int (nI i)), (2, .int (nI j)), (3, .int own)]) [0, 1, 2, 3, 4] rfl ?_
        exact ihd (nrst_no hyd hd (fun z => by first | exact (b2_eq.mp c19) z.1 | exact (b2_eq.mp c32) z.2) (fun z => by first | exact (b2_eq.mp c49) z.1 | exact (b2_eq.mp c62) z.2))
      · skip
        refine q_aload_n (pc2 := 53) C 1 dX1_nearestPlace_52 rfl rfl rfl ?_
        refine q_iload_n (pc2 := 54) C 2 dX1_nearestPlace_53 rfl rfl rfl ?_
        refine q_iload_n (pc2 := 55) C 3 dX1_nearestPlace_54 rfl rfl rfl ?_
        refine q_iload_n (pc2 := 56) C 4 dX1_nearestPlace_55 rfl rfl rfl ?_
        refine q_iload (pc2 := 58) C 0 dX1_nearestPlace_56 rfl rfl ?_
        refine q_iadd (pc2 := 59) C dX1_nearestPlace_58 rfl rfl ?_
        refine q_cV (pc2 := 62) (As := [.int (nI i), .int (nI j), .int (own + (nI d))]) (st := []) (st2 := [.int (b2 (clrX x (nI i) (nI j) (own + (nI d))))]) (q0 := 0) (w2 := (wR ct a x)) (c2 := 0) (s2 := 0) C (c_X1_isClear l D ct a x (nI i) (nI j) (own + (nI d))) (cwV 3 C.w gX1_nearestPlace_X1_isClear rfl rfl rfl (by decide +kernel) ⟨Nat.le_of_ble_eq_true rfl, Nat.le_of_ble_eq_true rfl⟩) rfl rfl [0, 1, 2, 3, 4, 5, 6, 7] [] [0, 1, 2, 3, 4, 5, 6, 7] rfl rfl (by decide) (by decide) (by decide) rfl (by decide) dX1_nearestPlace_59 rfl rfl (Nat.le_of_ble_eq_true rfl) ⟨Nat.zero_le _, Nat.zero_le _⟩ rfl rfl rfl rfl ?_
        refine q_if_eq (tgt := 70) (pc2 := 65) C dX1_nearestPlace_62 (by decide) rfl (fun c62 => ?_) (fun c62 => ?_)
        · skip
          refine q_iinc (v := nI (d + 1)) (lv' := [(4, .int (nI (d + 1))), (0, .ref (a 31)), (1, .int (nI i)), (2, .int (nI j)), (3, .int own)]) (pc2 := 73) C 0 dX1_nearestPlace_70 rfl (nI_1 d) (by decide) rfl rfl ?_
          refine q_goto (pc2 := 3) C dX1_nearestPlace_73 (by decide) ?_
          refine q_lv (lv' := [(4, .int (nI (d + 1))), (0, .ref (a 31)), (1, .int (nI i)), (2, .int (nI j)), (3, .int own)]) [0, 1, 2, 3, 4] rfl ?_
          exact ihd (nrst_no hyd hd (fun z => by first | exact (b2_eq.mp c19) z.1 | exact (b2_eq.mp c32) z.2) (fun z => by first | exact (b2_eq.mp c49) z.1 | exact (b2_eq.mp c62) z.2))
        · skip
          refine q_iload_n (pc2 := 66) C 4 dX1_nearestPlace_65 rfl rfl rfl ?_
          refine q_iload (pc2 := 68) C 0 dX1_nearestPlace_66 rfl rfl ?_
          refine q_iadd (pc2 := 69) C dX1_nearestPlace_68 rfl rfl ?_
          exact q_zret C hQ rfl (rfl) (Nat.zero_le _) (Nat.zero_le _) dX1_nearestPlace_69 ⟨by rw [nrst_hi hyd hd (fun z => by first | exact (b2_eq.mp c19) z.1 | exact (b2_eq.mp c32) z.2) ⟨b2_ne.mp c49, b2_ne.mp c62⟩], rfl⟩
    · skip
      refine q_aload_n (pc2 := 23) C 1 dX1_nearestPlace_22 rfl rfl rfl ?_
      refine q_iload_n (pc2 := 24) C 2 dX1_nearestPlace_23 rfl rfl rfl ?_
      refine q_iload_n (pc2 := 25) C 3 dX1_nearestPlace_24 rfl rfl rfl ?_
      refine q_iload_n (pc2 := 26) C 4 dX1_nearestPlace_25 rfl rfl rfl ?_
      refine q_iload (pc2 := 28) C 0 dX1_nearestPlace_26 rfl rfl ?_
      refine q_isub (pc2 := 29) C dX1_nearestPlace_28 rfl rfl ?_
      refine q_cV (pc2 := 32) (As := [.int (nI i), .int (nI j), .int (own - (nI d))]) (st := []) (st2 := [.int (b2 (clrX x (nI i) (nI j) (own - (nI d))))]) (q0 := 0) (w2 := (wR ct a x)) (c2 := 0) (s2 := 0) C (c_X1_isClear l D ct a x (nI i) (nI j) (own - (nI d))) (cwV 3 C.w gX1_nearestPlace_X1_isClear rfl rfl rfl (by decide +kernel) ⟨Nat.le_of_ble_eq_true rfl, Nat.le_of_ble_eq_true rfl⟩) rfl rfl [0, 1, 2, 3, 4, 5, 6, 7] [] [0, 1, 2, 3, 4, 5, 6, 7] rfl rfl (by decide) (by decide) (by decide) rfl (by decide) dX1_nearestPlace_29 rfl rfl (Nat.le_of_ble_eq_true rfl) ⟨Nat.zero_le _, Nat.zero_le _⟩ rfl rfl rfl rfl ?_
      refine q_if_eq (tgt := 40) (pc2 := 35) C dX1_nearestPlace_32 (by decide) rfl (fun c32 => ?_) (fun c32 => ?_)
      · skip
        refine q_aload_n (pc2 := 41) C 1 dX1_nearestPlace_40 rfl rfl rfl ?_
        refine q_iload_n (pc2 := 42) C 3 dX1_nearestPlace_41 rfl rfl rfl ?_
        refine q_iload_n (pc2 := 43) C 4 dX1_nearestPlace_42 rfl rfl rfl ?_
        refine q_iload (pc2 := 45) C 0 dX1_nearestPlace_43 rfl rfl ?_
        refine q_iadd (pc2 := 46) C dX1_nearestPlace_45 rfl rfl ?_
        refine q_cV (pc2 := 49) (As := [.int (nI j), .int (own + (nI d))]) (st := []) (st2 := [.int (b2 (plcX x h j (own + (nI d))))]) (q0 := 0) (w2 := (wR ct a x)) (c2 := 0) (s2 := 0) C (c_X1_hasPlace l D ct a x h hh hlt j hj (own + (nI d))) (cwV 2 C.w gX1_nearestPlace_X1_hasPlace rfl rfl rfl (by decide +kernel) ⟨Nat.le_of_ble_eq_true rfl, Nat.le_of_ble_eq_true rfl⟩) rfl rfl [0, 1, 2, 3, 4, 5, 6, 7] [] [0, 1, 2, 3, 4, 5, 6, 7] rfl rfl (by decide) (by decide) (by decide) rfl (by decide) dX1_nearestPlace_46 rfl rfl (Nat.le_of_ble_eq_true rfl) ⟨Nat.zero_le _, Nat.zero_le _⟩ rfl rfl rfl rfl ?_
        refine q_if_eq (tgt := 70) (pc2 := 52) C dX1_nearestPlace_49 (by decide) rfl (fun c49 => ?_) (fun c49 => ?_)
        · skip
          refine q_iinc (v := nI (d + 1)) (lv' := [(4, .int (nI (d + 1))), (0, .ref (a 31)), (1, .int (nI i)), (2, .int (nI j)), (3, .int own)]) (pc2 := 73) C 0 dX1_nearestPlace_70 rfl (nI_1 d) (by decide) rfl rfl ?_
          refine q_goto (pc2 := 3) C dX1_nearestPlace_73 (by decide) ?_
          refine q_lv (lv' := [(4, .int (nI (d + 1))), (0, .ref (a 31)), (1, .int (nI i)), (2, .int (nI j)), (3, .int own)]) [0, 1, 2, 3, 4] rfl ?_
          exact ihd (nrst_no hyd hd (fun z => by first | exact (b2_eq.mp c19) z.1 | exact (b2_eq.mp c32) z.2) (fun z => by first | exact (b2_eq.mp c49) z.1 | exact (b2_eq.mp c62) z.2))
        · skip
          refine q_aload_n (pc2 := 53) C 1 dX1_nearestPlace_52 rfl rfl rfl ?_
          refine q_iload_n (pc2 := 54) C 2 dX1_nearestPlace_53 rfl rfl rfl ?_
          refine q_iload_n (pc2 := 55) C 3 dX1_nearestPlace_54 rfl rfl rfl ?_
          refine q_iload_n (pc2 := 56) C 4 dX1_nearestPlace_55 rfl rfl rfl ?_
          refine q_iload (pc2 := 58) C 0 dX1_nearestPlace_56 rfl rfl ?_
          refine q_iadd (pc2 := 59) C dX1_nearestPlace_58 rfl rfl ?_
          refine q_cV (pc2 := 62) (As := [.int (nI i), .int (nI j), .int (own + (nI d))]) (st := []) (st2 := [.int (b2 (clrX x (nI i) (nI j) (own + (nI d))))]) (q0 := 0) (w2 := (wR ct a x)) (c2 := 0) (s2 := 0) C (c_X1_isClear l D ct a x (nI i) (nI j) (own + (nI d))) (cwV 3 C.w gX1_nearestPlace_X1_isClear rfl rfl rfl (by decide +kernel) ⟨Nat.le_of_ble_eq_true rfl, Nat.le_of_ble_eq_true rfl⟩) rfl rfl [0, 1, 2, 3, 4, 5, 6, 7] [] [0, 1, 2, 3, 4, 5, 6, 7] rfl rfl (by decide) (by decide) (by decide) rfl (by decide) dX1_nearestPlace_59 rfl rfl (Nat.le_of_ble_eq_true rfl) ⟨Nat.zero_le _, Nat.zero_le _⟩ rfl rfl rfl rfl ?_
          refine q_if_eq (tgt := 70) (pc2 := 65) C dX1_nearestPlace_62 (by decide) rfl (fun c62 => ?_) (fun c62 => ?_)
          · skip
            refine q_iinc (v := nI (d + 1)) (lv' := [(4, .int (nI (d + 1))), (0, .ref (a 31)), (1, .int (nI i)), (2, .int (nI j)), (3, .int own)]) (pc2 := 73) C 0 dX1_nearestPlace_70 rfl (nI_1 d) (by decide) rfl rfl ?_
            refine q_goto (pc2 := 3) C dX1_nearestPlace_73 (by decide) ?_
            refine q_lv (lv' := [(4, .int (nI (d + 1))), (0, .ref (a 31)), (1, .int (nI i)), (2, .int (nI j)), (3, .int own)]) [0, 1, 2, 3, 4] rfl ?_
            exact ihd (nrst_no hyd hd (fun z => by first | exact (b2_eq.mp c19) z.1 | exact (b2_eq.mp c32) z.2) (fun z => by first | exact (b2_eq.mp c49) z.1 | exact (b2_eq.mp c62) z.2))
          · skip
            refine q_iload_n (pc2 := 66) C 4 dX1_nearestPlace_65 rfl rfl rfl ?_
            refine q_iload (pc2 := 68) C 0 dX1_nearestPlace_66 rfl rfl ?_
            refine q_iadd (pc2 := 69) C dX1_nearestPlace_68 rfl rfl ?_
            exact q_zret C hQ rfl (rfl) (Nat.zero_le _) (Nat.zero_le _) dX1_nearestPlace_69 ⟨by rw [nrst_hi hyd hd (fun z => by first | exact (b2_eq.mp c19) z.1 | exact (b2_eq.mp c32) z.2) ⟨b2_ne.mp c49, b2_ne.mp c62⟩], rfl⟩
      · skip
        refine q_iload_n (pc2 := 36) C 4 dX1_nearestPlace_35 rfl rfl rfl ?_
        refine q_iload (pc2 := 38) C 0 dX1_nearestPlace_36 rfl rfl ?_
        refine q_isub (pc2 := 39) C dX1_nearestPlace_38 rfl rfl ?_
        exact q_zret C hQ rfl (rfl) (Nat.zero_le _) (Nat.zero_le _) dX1_nearestPlace_39 ⟨by rw [nrst_lo hyd hd ⟨b2_ne.mp c19, b2_ne.mp c32⟩], rfl⟩
  · intro hyd
    refine q_iload (pc2 := 5) C 0 dX1_nearestPlace_3 rfl rfl ?_
    refine q_bipush (v := 100) (pc2 := 7) C dX1_nearestPlace_5 (by decide) rfl ?_
    refine q_icmp_gt (tgt := 76) (pc2 := 10) C dX1_nearestPlace_7 (by decide) rfl (fun _ => ?_) (fun c7 => (absurd (nI_lt (a := 100) (b := 101) (by decide) (by decide)) c7))
    refine q_iconst (v := (-1)) (pc2 := 77) C dX1_nearestPlace_76 (by decide) rfl ?_
    exact q_zret C hQ rfl (rfl) (Nat.zero_le _) (Nat.zero_le _) dX1_nearestPlace_77 ⟨by rw [nrst_end hyd], rfl⟩

set_option maxHeartbeats 4000000 in
set_option maxRecDepth 100000 in
theorem c_X1_hangAgain (l : Launch) (D : va_G) (ct : Nat → ClassId) (a : Nat → Nat) (x : Nat → Nat → Int32) (h : Nat) (hh : x 4 0 = nI h) (hlt : h < 2) (kb : Nat) (hkb : x 5 h = nI kb) (hkb4 : kb ≤ 4) (i : Nat) (hi : i < 10) (bar : Int32) : qM l yX1_hangAgain wsX1_hangAgain ({ frames := 3, cells := 0, slots := 0, locals := 69 }) D ct [.ref (a 31), .int (nI i), .int bar] (wR ct a x) (qD (some (.int (b2 (hgP x h i bar ≠ -1)))) (wR ct a (set2 (set2 x 9 (if hgP x h i bar = -1 then x 9 else upd (x 9) i bar)) 11 (if hgP x h i bar = -1 then x 11 else upd (x 11) i (hgP x h i bar))))) 0 0 := by
  refine q_start (ret := some .boolean) (lv := [(0, .ref (a 31)), (1, .int (nI i)), (2, .int bar)]) (by decide +kernel) rfl (Nat.le_of_ble_eq_true rfl) rfl ?_
  intro p e s m args below meth c A Q C hQ hnm
  have hT1 : ∀ w ∈ u_ws RX1 TX1 8, w ∈ wsX1_hangAgain := by decide +kernel
  have f40 : (Cond.fieldLink RX1 40 "PlotPatch$Rig" "places" "[I").before args s = true := C.w _ (by decide +kernel)
  refine q_aload_n (pc2 := 1) C 0 dX1_hangAgain_0 rfl rfl rfl ?_
  refine q_iload_n (pc2 := 2) C 2 dX1_hangAgain_1 rfl rfl rfl ?_
  refine q_cV (pc2 := 5) (As := [.int bar]) (st := []) (st2 := [.int (b2 (0 ≤ bar ∧ bar < x 5 h))]) (q0 := 0) (w2 := (wR ct a x)) (c2 := 0) (s2 := 0) C (c_X1_hasBar l D ct a x h hh hlt bar) (cwV 1 C.w gX1_hangAgain_X1_hasBar rfl rfl rfl (by decide +kernel) ⟨Nat.le_of_ble_eq_true rfl, Nat.le_of_ble_eq_true rfl⟩) rfl rfl [0, 1, 2, 3, 4, 5, 6, 7] [] [0, 1, 2, 3, 4, 5, 6, 7] rfl rfl (by decide) (by decide) (by decide) rfl (by decide) dX1_hangAgain_2 rfl rfl (Nat.le_of_ble_eq_true rfl) ⟨Nat.zero_le _, Nat.zero_le _⟩ rfl rfl rfl rfl ?_
  refine q_if_eq (tgt := 17) (pc2 := 8) C dX1_hangAgain_5 (by decide) rfl (fun c5 => ?_) (fun c5 => ?_)
  · skip
    refine q_iconst (v := 0) (pc2 := 18) C dX1_hangAgain_17 (by decide) rfl ?_
    have hv : hgP x h i bar = -1 := if_neg (fun z => b2_eq.mp c5 z.1)
    exact q_zret C hQ rfl (rfl) (Nat.zero_le _) (Nat.zero_le _) dX1_hangAgain_18 ⟨by rw [b2_f (c := hgP x h i bar ≠ -1) (fun z => z hv)], by rw [hv, if_pos rfl, if_pos rfl]; rfl⟩
  · skip
    obtain ⟨j, hj0, rfl⟩ := nI_below (k := kb) (by have z := b2_ne.mp c5; rw [hkb] at z; exact z) (by omega)
    have hj : j < 4 := by omega
    have hcl : (nI j).toNatClampNeg = j := nI_clamp (by omega)
    refine q_aload_n (pc2 := 9) C 0 dX1_hangAgain_8 rfl rfl rfl ?_
    refine q_iload_n (pc2 := 10) C 1 dX1_hangAgain_9 rfl rfl rfl ?_
    refine q_iload_n (pc2 := 11) C 2 dX1_hangAgain_10 rfl rfl rfl ?_
    refine q_cV (pc2 := 14) (As := [.int (nI i), .int (nI j)]) (st := []) (st2 := [.int (b2 (bearX x h i j))]) (q0 := 0) (w2 := (wR ct a x)) (c2 := 0) (s2 := 0) C (c_X1_bears l D ct a x h hh hlt i hi j hj) (cwV 2 C.w gX1_hangAgain_X1_bears rfl rfl rfl (by decide +kernel) ⟨Nat.le_of_ble_eq_true rfl, Nat.le_of_ble_eq_true rfl⟩) rfl rfl [0, 1, 2, 3, 4, 5, 6, 7] [] [0, 1, 2, 3, 4, 5, 6, 7] rfl rfl (by decide) (by decide) (by decide) rfl (by decide) dX1_hangAgain_11 rfl rfl (Nat.le_of_ble_eq_true rfl) ⟨Nat.zero_le _, Nat.zero_le _⟩ rfl rfl rfl rfl ?_
    refine q_if_ne (tgt := 19) (pc2 := 17) C dX1_hangAgain_14 (by decide) rfl (fun c14 => ?_) (fun c14 => ?_)
    · skip
      refine q_aload_n (pc2 := 20) C 0 dX1_hangAgain_19 rfl rfl rfl ?_
      refine q_iload_n (pc2 := 21) C 1 dX1_hangAgain_20 rfl rfl rfl ?_
      refine q_iload_n (pc2 := 22) C 2 dX1_hangAgain_21 rfl rfl rfl ?_
      refine q_aload_n (pc2 := 23) C 0 dX1_hangAgain_22 rfl rfl rfl ?_
      refine q_get (q0 := 0) (k := 7) (v := .ref (a 11)) (pc2 := 26) C hT1 f40 (wR_g0 ct a x) rfl (by decide) rfl rfl dX1_hangAgain_23 rfl ?_
      refine q_iload_n (pc2 := 27) C 1 dX1_hangAgain_26 rfl rfl rfl ?_
      refine q_iald (q0 := 7) (f := (x 11)) (pc2 := 28) C i (wR_g7 ct a x) rfl (rfl) (by omega) (by decide) dX1_hangAgain_27 rfl ?_
      refine q_cV (pc2 := 31) (As := [.int (nI i), .int (nI j), .int ((x 11) i)]) (st := []) (st2 := [.int (nearX x h i j (x 11 i))]) (q0 := 0) (w2 := (wR ct a x)) (c2 := 0) (s2 := 0) C (c_X1_nearestPlace l D ct a x h hh hlt i hi j hj (x 11 i)) (cwV 3 C.w gX1_hangAgain_X1_nearestPlace rfl rfl rfl (by decide +kernel) ⟨Nat.le_of_ble_eq_true rfl, Nat.le_of_ble_eq_true rfl⟩) rfl rfl [0, 1, 2, 3, 4, 5, 6, 7] [] [0, 1, 2, 3, 4, 5, 6, 7] rfl rfl (by decide) (by decide) (by decide) rfl (by decide) dX1_hangAgain_28 rfl rfl (Nat.le_of_ble_eq_true rfl) ⟨Nat.zero_le _, Nat.zero_le _⟩ rfl rfl rfl rfl ?_
      refine q_istore_n (lv' := [(3, .int (nearX x h i j (x 11 i))), (0, .ref (a 31)), (1, .int (nI i)), (2, .int (nI j))]) (pc2 := 32) C dX1_hangAgain_31 rfl (by decide) rfl rfl ?_
      refine q_iload_n (pc2 := 33) C 0 dX1_hangAgain_32 rfl rfl rfl ?_
      refine q_iconst (v := (-1)) (pc2 := 34) C dX1_hangAgain_33 (by decide) rfl ?_
      refine q_icmp_ne (tgt := 39) (pc2 := 37) C dX1_hangAgain_34 (by decide) rfl (fun c34 => ?_) (fun c34 => ?_)
      · skip
        have hv : hgP x h i (nI j) = nearX x h i j (x 11 i) := by unfold hgP; rw [hcl, if_pos ⟨b2_ne.mp c5, b2_ne.mp c14⟩]; rfl
        refine q_aload_n (pc2 := 40) C 1 dX1_hangAgain_39 rfl rfl rfl ?_
        refine q_iload_n (pc2 := 41) C 2 dX1_hangAgain_40 rfl rfl rfl ?_
        refine q_iload_n (pc2 := 42) C 3 dX1_hangAgain_41 rfl rfl rfl ?_
        refine q_iload_n (pc2 := 43) C 0 dX1_hangAgain_42 rfl rfl rfl ?_
        refine q_cV (pc2 := 46) (As := [.int (nI i), .int (nI j), .int (nearX x h i j (x 11 i))]) (st := []) (st2 := []) (q0 := 0) (w2 := (wR ct a (set2 (set2 x 9 (upd (x 9) i (nI j))) 11 (upd (x 11) i (nearX x h i j (x 11 i)))))) (c2 := 0) (s2 := 0) C (c_X1_put l D ct a x i hi (nI j) (nearX x h i j (x 11 i))) (cwV 3 C.w gX1_hangAgain_X1_put rfl rfl rfl (by decide +kernel) ⟨Nat.le_of_ble_eq_true rfl, Nat.le_of_ble_eq_true rfl⟩) rfl rfl [0, 1, 2, 3, 4, 5, 6, 7] [] [0, 1, 2, 3, 4, 5, 6, 7] rfl rfl (by decide) (by decide) (by decide) rfl (by decide) dX1_hangAgain_43 rfl rfl (Nat.le_of_ble_eq_true rfl) ⟨Nat.zero_le _, Nat.zero_le _⟩ rfl rfl rfl rfl ?_
        refine q_iconst (v := 1) (pc2 := 47) C dX1_hangAgain_46 (by decide) rfl ?_
        exact q_zret C hQ rfl (rfl) (Nat.zero_le _) (Nat.zero_le _) dX1_hangAgain_47 ⟨by rw [b2_t (c := hgP x h i (nI j) ≠ -1) (by rw [hv]; exact c34)], by rw [hv, if_neg c34, if_neg c34]⟩
      · skip
        refine q_iconst (v := 0) (pc2 := 38) C dX1_hangAgain_37 (by decide) rfl ?_
        have hv : hgP x h i (nI j) = -1 := by unfold hgP; rw [hcl, if_pos ⟨b2_ne.mp c5, b2_ne.mp c14⟩]; exact c34
        exact q_zret C hQ rfl (rfl) (Nat.zero_le _) (Nat.zero_le _) dX1_hangAgain_38 ⟨by rw [b2_f (c := hgP x h i (nI j) ≠ -1) (fun z => z hv)], by rw [hv, if_pos rfl, if_pos rfl]; rfl⟩
    · skip
      refine q_iconst (v := 0) (pc2 := 18) C dX1_hangAgain_17 (by decide) rfl ?_
      have hv : hgP x h i (nI j) = -1 := if_neg (fun z => by rw [hcl] at z; exact b2_eq.mp c14 z.2)
      exact q_zret C hQ rfl (rfl) (Nat.zero_le _) (Nat.zero_le _) dX1_hangAgain_18 ⟨by rw [b2_f (c := hgP x h i (nI j) ≠ -1) (fun z => z hv)], by rw [hv, if_pos rfl, if_pos rfl]; rfl⟩

set_option maxHeartbeats 4000000 in
set_option maxRecDepth 100000 in
theorem c_X1_changeHouse (l : Launch) (D : va_G) (ct : Nat → ClassId) (a : Nat → Nat) (x : Nat → Nat → Int32) (h : Nat) (hh : x 4 0 = nI h) (hlt : h < 2) (kb : Nat) (hkb : x 5 (1 - h) = nI kb) (hkb4 : kb ≤ 4) : qM l yX1_changeHouse wsX1_changeHouse ({ frames := 4, cells := 0, slots := 0, locals := 92 }) D ct [.ref (a 31)] (wR ct a x) (qD (some (.int (trn (tr0 x (1 - h)) (1 - h) 10).2.2)) (wR ct a (set2 (set2 (tr0 x (1 - h)) 9 (trn (tr0 x (1 - h)) (1 - h) 10).1) 11 (trn (tr0 x (1 - h)) (1 - h) 10).2.1))) 0 0 := by
  refine q_start (ret := some .int) (lv := [(0, .ref (a 31))]) (by decide +kernel) rfl (Nat.le_of_ble_eq_true rfl) rfl ?_
  intro p e s m args below meth c A Q C hQ hnm
  have hT1 : ∀ w ∈ u_ws RX1 TX1 8, w ∈ wsX1_changeHouse := by decide +kernel
  have f37 : (Cond.fieldLink RX1 37 "PlotPatch$Rig" "formerBars" "[I").before args s = true := C.w _ (by decide +kernel)
  have f28 : (Cond.fieldLink RX1 28 "PlotPatch$Rig" "bars" "[I").before args s = true := C.w _ (by decide +kernel)
  have f9 : (Cond.fieldLink RX1 9 "PlotPatch$Rig" "house" "I").before args s = true := C.w _ (by decide +kernel)
  refine q_iconst (v := 0) (pc2 := 1) C dX1_changeHouse_0 (by decide) rfl ?_
  refine q_istore_n (lv' := [(1, .int 0), (0, .ref (a 31))]) (pc2 := 2) C dX1_changeHouse_1 rfl (by decide) rfl rfl ?_
  refine q_lv (lv' := [(1, .int 0), (0, .ref (a 31))]) [0, 1] rfl ?_
  refine q_eqw (ws' := (wR ct a (set2 (set2 x 10 (fun k => if k < 0 then x 9 k else x 10 k)) 9 (fun k => if k < 0 then -1 else x 9 k)))) (by simp only [Nat.not_lt_zero, if_false]; rfl) ?_
  refine lp_up (P := fun i => Cf p l e ({ frames := 4, cells := 0, slots := 0, locals := 92 }) s m args below meth c D A 3 0 0 Q 2 [(1, .int (nI i)), (0, .ref (a 31))] [] (wR ct a (set2 (set2 x 10 (fun k => if k < i then x 9 k else x 10 k)) 9 (fun k => if k < i then -1 else x 9 k)))) (10) (fun i hi ihi => ?_) ?_
  · skip
    refine q_iload_n (pc2 := 3) C 0 dX1_changeHouse_2 rfl rfl rfl ?_
    refine q_bipush (v := 10) (pc2 := 5) C dX1_changeHouse_3 (by decide) rfl ?_
    refine q_icmp_ge (tgt := 33) (pc2 := 8) C dX1_changeHouse_5 (by decide) rfl (fun c5 => (q_absurd (a := 10) (b := i) c5 hi (by decide))) (fun _ => ?_)
    refine q_aload_n (pc2 := 9) C 1 dX1_changeHouse_8 rfl rfl rfl ?_
    refine q_get (q0 := 0) (k := 6) (v := .ref (a 10)) (pc2 := 12) C hT1 f37 (wR_g0 ct a (set2 (set2 x 10 (fun k => if k < i then x 9 k else x 10 k)) 9 (fun k => if k < i then -1 else x 9 k))) rfl (by decide) rfl rfl dX1_changeHouse_9 rfl ?_
    refine q_iload_n (pc2 := 13) C 0 dX1_changeHouse_12 rfl rfl rfl ?_
    refine q_aload_n (pc2 := 14) C 1 dX1_changeHouse_13 rfl rfl rfl ?_
    refine q_get (q0 := 0) (k := 5) (v := .ref (a 9)) (pc2 := 17) C hT1 f28 (wR_g0 ct a (set2 (set2 x 10 (fun k => if k < i then x 9 k else x 10 k)) 9 (fun k => if k < i then -1 else x 9 k))) rfl (by decide) rfl rfl dX1_changeHouse_14 rfl ?_
    refine q_iload_n (pc2 := 18) C 0 dX1_changeHouse_17 rfl rfl rfl ?_
    refine q_iald (q0 := 5) (f := (fun k => if k < i then -1 else x 9 k)) (pc2 := 19) C i (wR_g5 ct a (set2 (set2 x 10 (fun k => if k < i then x 9 k else x 10 k)) 9 (fun k => if k < i then -1 else x 9 k))) rfl (rfl) (by omega) (by decide) dX1_changeHouse_18 rfl ?_
    refine q_eqi (y := (x 9 i)) (by simp) ?_
    refine q_iast (q0 := 6) (f := (fun k => if k < i then x 9 k else x 10 k)) (ws' := (wR ct a (set2 (set2 x 10 (upd (fun k => if k < i then x 9 k else x 10 k) i (x 9 i))) 9 (fun k => if k < i then -1 else x 9 k)))) (pc2 := 20) C i (wR_g6 ct a (set2 (set2 x 10 (fun k => if k < i then x 9 k else x 10 k)) 9 (fun k => if k < i then -1 else x 9 k))) rfl (rfl) (by omega) (by decide) (wR_a6 ct a (set2 (set2 x 10 (fun k => if k < i then x 9 k else x 10 k)) 9 (fun k => if k < i then -1 else x 9 k)) (upd (fun k => if k < i then x 9 k else x 10 k) i (x 9 i))) dX1_changeHouse_19 rfl ?_
    refine q_aload_n (pc2 := 21) C 1 dX1_changeHouse_20 rfl rfl rfl ?_
    refine q_get (q0 := 0) (k := 5) (v := .ref (a 9)) (pc2 := 24) C hT1 f28 (wR_g0 ct a (set2 (set2 x 10 (upd (fun k => if k < i then x 9 k else x 10 k) i (x 9 i))) 9 (fun k => if k < i then -1 else x 9 k))) rfl (by decide) rfl rfl dX1_changeHouse_21 rfl ?_
    refine q_iload_n (pc2 := 25) C 0 dX1_changeHouse_24 rfl rfl rfl ?_
    refine q_iconst (v := (-1)) (pc2 := 26) C dX1_changeHouse_25 (by decide) rfl ?_
    refine q_iast (q0 := 5) (f := (fun k => if k < i then -1 else x 9 k)) (ws' := (wR ct a (set2 (set2 x 10 (upd (fun k => if k < i then x 9 k else x 10 k) i (x 9 i))) 9 (upd (fun k => if k < i then -1 else x 9 k) i (-1))))) (pc2 := 27) C i (wR_g5 ct a (set2 (set2 x 10 (upd (fun k => if k < i then x 9 k else x 10 k) i (x 9 i))) 9 (fun k => if k < i then -1 else x 9 k))) rfl (rfl) (by omega) (by decide) (wR_a5 ct a (set2 (set2 x 10 (upd (fun k => if k < i then x 9 k else x 10 k) i (x 9 i))) 9 (fun k => if k < i then -1 else x 9 k)) (upd (fun k => if k < i then -1 else x 9 k) i (-1))) dX1_changeHouse_26 rfl ?_
    refine q_iinc (v := nI (i + 1)) (lv' := [(1, .int (nI (i + 1))), (0, .ref (a 31))]) (pc2 := 30) C 0 dX1_changeHouse_27 rfl (nI_1 i) (by decide) rfl rfl ?_
    refine q_goto (pc2 := 2) C dX1_changeHouse_30 (by decide) ?_
    refine q_lv (lv' := [(1, .int (nI (i + 1))), (0, .ref (a 31))]) [0, 1] rfl ?_
    refine q_eqw (ws' := (wR ct a (set2 (set2 x 10 (fun k => if k < (i + 1) then x 9 k else x 10 k)) 9 (fun k => if k < (i + 1) then -1 else x 9 k)))) (by rw [fill_lt (x 9) (x 10) i, fillc_lt (-1) (x 9) i]) ?_
    exact ihi
  · skip
    refine q_iload_n (pc2 := 3) C 0 dX1_changeHouse_2 rfl rfl rfl ?_
    refine q_bipush (v := 10) (pc2 := 5) C dX1_changeHouse_3 (by decide) rfl ?_
    refine q_icmp_ge (tgt := 33) (pc2 := 8) C dX1_changeHouse_5 (by decide) rfl (fun _ => ?_) (fun c5 => (absurd (nI_le (Nat.le_refl (10)) (by decide)) c5))
    have hj46 : Cf p l e ({ frames := 4, cells := 0, slots := 0, locals := 92 }) s m args below meth c D A 3 0 0 Q 46 [(1, .int (nI 10)), (0, .ref (a 31))] [.int (nI (1 - h)), .ref (a 31)] (wR ct a (set2 (set2 x 10 (fun k => if k < 10 then x 9 k else x 10 k)) 9 (fun k => if k < 10 then -1 else x 9 k))) := by
      refine q_put (q0 := 0) (k := 0) (ty := .int) (ws' := (wR ct a (set2 (set2 (set2 x 10 (fun k => if k < 10 then x 9 k else x 10 k)) 9 (fun k => if k < 10 then -1 else x 9 k)) 4 (fun _ => (nI (1 - h)))))) (pc2 := 49) C hT1 tyX1_ok nmX1 f9 (wR_g0 ct a (set2 (set2 x 10 (fun k => if k < 10 then x 9 k else x 10 k)) 9 (fun k => if k < 10 then -1 else x 9 k))) rfl (by decide) rfl rfl (by decide +kernel) rfl rfl (Nat.le_of_ble_eq_true rfl) (wR_s0_0 ct a (set2 (set2 x 10 (fun k => if k < 10 then x 9 k else x 10 k)) 9 (fun k => if k < 10 then -1 else x 9 k)) (nI (1 - h))) dX1_changeHouse_46 rfl ?_
      refine q_eqw (ws' := (wR ct a (tr0 x (1 - h)))) (by rfl) ?_
      refine q_iconst (v := 0) (pc2 := 50) C dX1_changeHouse_49 (by decide) rfl ?_
      refine q_istore_n (lv' := [(1, .int 0), (0, .ref (a 31))]) (pc2 := 51) C dX1_changeHouse_50 rfl (by decide) rfl rfl ?_
      refine q_iconst (v := 0) (pc2 := 52) C dX1_changeHouse_51 (by decide) rfl ?_
      refine q_istore_n (lv' := [(2, .int 0), (1, .int 0), (0, .ref (a 31))]) (pc2 := 53) C dX1_changeHouse_52 rfl (by decide) rfl rfl ?_
      refine q_lv (lv' := [(2, .int 0), (1, .int 0), (0, .ref (a 31))]) [0, 1, 2] rfl ?_
      refine q_eqw (ws' := (wR ct a (set2 (set2 (tr0 x (1 - h)) 9 (trn (tr0 x (1 - h)) (1 - h) 0).1) 11 (trn (tr0 x (1 - h)) (1 - h) 0).2.1))) (by rfl) ?_
      refine lp_up (P := fun k => Cf p l e ({ frames := 4, cells := 0, slots := 0, locals := 92 }) s m args below meth c D A 3 0 0 Q 53 [(2, .int (nI k)), (1, .int (trn (tr0 x (1 - h)) (1 - h) k).2.2), (0, .ref (a 31))] [] (wR ct a (set2 (set2 (tr0 x (1 - h)) 9 (trn (tr0 x (1 - h)) (1 - h) k).1) 11 (trn (tr0 x (1 - h)) (1 - h) k).2.1))) (10) (fun k hk ihk => ?_) ?_
      · skip
        refine q_iload_n (pc2 := 54) C 0 dX1_changeHouse_53 rfl rfl rfl ?_
        refine q_bipush (v := 10) (pc2 := 56) C dX1_changeHouse_54 (by decide) rfl ?_
        refine q_icmp_ge (tgt := 92) (pc2 := 59) C dX1_changeHouse_56 (by decide) rfl (fun c56 => (q_absurd (a := 10) (b := k) c56 hk (by decide))) (fun _ => ?_)
        refine q_aload_n (pc2 := 60) C 2 dX1_changeHouse_59 rfl rfl rfl ?_
        refine q_get (q0 := 0) (k := 6) (v := .ref (a 10)) (pc2 := 63) C hT1 f37 (wR_g0 ct a (set2 (set2 (tr0 x (1 - h)) 9 (trn (tr0 x (1 - h)) (1 - h) k).1) 11 (trn (tr0 x (1 - h)) (1 - h) k).2.1)) rfl (by decide) rfl rfl dX1_changeHouse_60 rfl ?_
        refine q_iload_n (pc2 := 64) C 0 dX1_changeHouse_63 rfl rfl rfl ?_
        refine q_iald (q0 := 6) (f := ((tr0 x (1 - h)) 10)) (pc2 := 65) C k (wR_g6 ct a (set2 (set2 (tr0 x (1 - h)) 9 (trn (tr0 x (1 - h)) (1 - h) k).1) 11 (trn (tr0 x (1 - h)) (1 - h) k).2.1)) rfl (rfl) (by omega) (by decide) dX1_changeHouse_64 rfl ?_
        refine q_iconst (v := (-1)) (pc2 := 66) C dX1_changeHouse_65 (by decide) rfl ?_
        refine q_icmp_eq (tgt := 86) (pc2 := 69) C dX1_changeHouse_66 (by decide) rfl (fun c66 => ?_) (fun c66 => ?_)
        · skip
          refine q_iinc (v := nI (k + 1)) (lv' := [(2, .int (nI (k + 1))), (1, .int (trn (tr0 x (1 - h)) (1 - h) k).2.2), (0, .ref (a 31))]) (pc2 := 89) C 0 dX1_changeHouse_86 rfl (nI_1 k) (by decide) rfl rfl ?_
          refine q_goto (pc2 := 53) C dX1_changeHouse_89 (by decide) ?_
          refine q_lv (lv' := [(2, .int (nI (k + 1))), (1, .int (trn (tr0 x (1 - h)) (1 - h) k).2.2), (0, .ref (a 31))]) [0, 1, 2] rfl ?_
          refine q_eql (lv' := [(2, .int (nI (k + 1))), (1, .int (trn (tr0 x (1 - h)) (1 - h) (k + 1)).2.2), (0, .ref (a 31))]) (by simp only [trn]; simp [*]; done) ?_
          refine q_eqw (ws' := (wR ct a (set2 (set2 (tr0 x (1 - h)) 9 (trn (tr0 x (1 - h)) (1 - h) (k + 1)).1) 11 (trn (tr0 x (1 - h)) (1 - h) (k + 1)).2.1))) (by simp only [trn]; simp [*]; done) ?_
          exact ihk
        · skip
          refine q_aload_n (pc2 := 70) C 2 dX1_changeHouse_69 rfl rfl rfl ?_
          refine q_iload_n (pc2 := 71) C 0 dX1_changeHouse_70 rfl rfl rfl ?_
          refine q_aload_n (pc2 := 72) C 2 dX1_changeHouse_71 rfl rfl rfl ?_
          refine q_get (q0 := 0) (k := 6) (v := .ref (a 10)) (pc2 := 75) C hT1 f37 (wR_g0 ct a (set2 (set2 (tr0 x (1 - h)) 9 (trn (tr0 x (1 - h)) (1 - h) k).1) 11 (trn (tr0 x (1 - h)) (1 - h) k).2.1)) rfl (by decide) rfl rfl dX1_changeHouse_72 rfl ?_
          refine q_iload_n (pc2 := 76) C 0 dX1_changeHouse_75 rfl rfl rfl ?_
          refine q_iald (q0 := 6) (f := ((tr0 x (1 - h)) 10)) (pc2 := 77) C k (wR_g6 ct a (set2 (set2 (tr0 x (1 - h)) 9 (trn (tr0 x (1 - h)) (1 - h) k).1) 11 (trn (tr0 x (1 - h)) (1 - h) k).2.1)) rfl (rfl) (by omega) (by decide) dX1_changeHouse_76 rfl ?_
          refine q_cV (pc2 := 80) (As := [.int (nI k), .int (((tr0 x (1 - h)) 10) k)]) (st := []) (st2 := [.int (b2 (hgP (set2 (set2 (tr0 x (1 - h)) 9 (trn (tr0 x (1 - h)) (1 - h) k).1) 11 (trn (tr0 x (1 - h)) (1 - h) k).2.1) (1 - h) k ((tr0 x (1 - h)) 10 k) ≠ -1))]) (q0 := 0) (w2 := (wR ct a (set2 (set2 (tr0 x (1 - h)) 9 (if hgP (set2 (set2 (tr0 x (1 - h)) 9 (trn (tr0 x (1 - h)) (1 - h) k).1) 11 (trn (tr0 x (1 - h)) (1 - h) k).2.1) (1 - h) k ((tr0 x (1 - h)) 10 k) = -1 then (trn (tr0 x (1 - h)) (1 - h) k).1 else upd (trn (tr0 x (1 - h)) (1 - h) k).1 k ((tr0 x (1 - h)) 10 k))) 11 (if hgP (set2 (set2 (tr0 x (1 - h)) 9 (trn (tr0 x (1 - h)) (1 - h) k).1) 11 (trn (tr0 x (1 - h)) (1 - h) k).2.1) (1 - h) k ((tr0 x (1 - h)) 10 k) = -1 then (trn (tr0 x (1 - h)) (1 - h) k).2.1 else upd (trn (tr0 x (1 - h)) (1 - h) k).2.1 k (hgP (set2 (set2 (tr0 x (1 - h)) 9 (trn (tr0 x (1 - h)) (1 - h) k).1) 11 (trn (tr0 x (1 - h)) (1 - h) k).2.1) (1 - h) k ((tr0 x (1 - h)) 10 k)))))) (c2 := 0) (s2 := 0) C (c_X1_hangAgain l D ct a (set2 (set2 (tr0 x (1 - h)) 9 (trn (tr0 x (1 - h)) (1 - h) k).1) 11 (trn (tr0 x (1 - h)) (1 - h) k).2.1) (1 - h) rfl (by omega) kb hkb hkb4 k (by omega) ((tr0 x (1 - h)) 10 k)) (cwV 2 C.w gX1_changeHouse_X1_hangAgain rfl rfl rfl (by decide +kernel) ⟨Nat.le_of_ble_eq_true rfl, Nat.le_of_ble_eq_true rfl⟩) rfl rfl [0, 1, 2, 3, 4, 5, 6, 7] [] [0, 1, 2, 3, 4, 5, 6, 7] rfl rfl (by decide) (by decide) (by decide) rfl (by decide) dX1_changeHouse_77 rfl rfl (Nat.le_of_ble_eq_true rfl) ⟨Nat.zero_le _, Nat.zero_le _⟩ rfl rfl rfl rfl ?_
          refine q_if_ne (tgt := 86) (pc2 := 83) C dX1_changeHouse_80 (by decide) rfl (fun c80 => ?_) (fun c80 => ?_)
          · skip
            have z80 : ¬ hgP (set2 (set2 (tr0 x (1 - h)) 9 (trn (tr0 x (1 - h)) (1 - h) k).1) 11 (trn (tr0 x (1 - h)) (1 - h) k).2.1) (1 - h) k ((tr0 x (1 - h)) 10 k) = -1 := b2_ne.mp c80
            refine q_iinc (v := nI (k + 1)) (lv' := [(2, .int (nI (k + 1))), (1, .int (trn (tr0 x (1 - h)) (1 - h) k).2.2), (0, .ref (a 31))]) (pc2 := 89) C 0 dX1_changeHouse_86 rfl (nI_1 k) (by decide) rfl rfl ?_
            refine q_goto (pc2 := 53) C dX1_changeHouse_89 (by decide) ?_
            refine q_lv (lv' := [(2, .int (nI (k + 1))), (1, .int (trn (tr0 x (1 - h)) (1 - h) k).2.2), (0, .ref (a 31))]) [0, 1, 2] rfl ?_
            refine q_eql (lv' := [(2, .int (nI (k + 1))), (1, .int (trn (tr0 x (1 - h)) (1 - h) (k + 1)).2.2), (0, .ref (a 31))]) (by simp only [trn]; simp [*]; done) ?_
            refine q_eqw (ws' := (wR ct a (set2 (set2 (tr0 x (1 - h)) 9 (trn (tr0 x (1 - h)) (1 - h) (k + 1)).1) 11 (trn (tr0 x (1 - h)) (1 - h) (k + 1)).2.1))) (by simp only [trn]; simp [*]; done) ?_
            exact ihk
          · skip
            have z80 : hgP (set2 (set2 (tr0 x (1 - h)) 9 (trn (tr0 x (1 - h)) (1 - h) k).1) 11 (trn (tr0 x (1 - h)) (1 - h) k).2.1) (1 - h) k ((tr0 x (1 - h)) 10 k) = -1 := Classical.byContradiction (b2_eq.mp c80)
            refine q_iinc (v := ((trn (tr0 x (1 - h)) (1 - h) k).2.2 + 1)) (lv' := [(1, .int ((trn (tr0 x (1 - h)) (1 - h) k).2.2 + 1)), (2, .int (nI k)), (0, .ref (a 31))]) (pc2 := 86) C 1 dX1_changeHouse_83 rfl (rfl) (by decide) rfl rfl ?_
            refine q_iinc (v := nI (k + 1)) (lv' := [(2, .int (nI (k + 1))), (1, .int ((trn (tr0 x (1 - h)) (1 - h) k).2.2 + 1)), (0, .ref (a 31))]) (pc2 := 89) C 1 dX1_changeHouse_86 rfl (nI_1 k) (by decide) rfl rfl ?_
            refine q_goto (pc2 := 53) C dX1_changeHouse_89 (by decide) ?_
            refine q_lv (lv' := [(2, .int (nI (k + 1))), (1, .int ((trn (tr0 x (1 - h)) (1 - h) k).2.2 + 1)), (0, .ref (a 31))]) [0, 1, 2] rfl ?_
            refine q_eql (lv' := [(2, .int (nI (k + 1))), (1, .int (trn (tr0 x (1 - h)) (1 - h) (k + 1)).2.2), (0, .ref (a 31))]) (by simp only [trn]; simp [*]; done) ?_
            refine q_eqw (ws' := (wR ct a (set2 (set2 (tr0 x (1 - h)) 9 (trn (tr0 x (1 - h)) (1 - h) (k + 1)).1) 11 (trn (tr0 x (1 - h)) (1 - h) (k + 1)).2.1))) (by simp only [trn]; simp [*]; done) ?_
            exact ihk
      · skip
        refine q_iload_n (pc2 := 54) C 0 dX1_changeHouse_53 rfl rfl rfl ?_
        refine q_bipush (v := 10) (pc2 := 56) C dX1_changeHouse_54 (by decide) rfl ?_
        refine q_icmp_ge (tgt := 92) (pc2 := 59) C dX1_changeHouse_56 (by decide) rfl (fun _ => ?_) (fun c56 => (absurd (nI_le (Nat.le_refl (10)) (by decide)) c56))
        refine q_iload_n (pc2 := 93) C 1 dX1_changeHouse_92 rfl rfl rfl ?_
        exact q_zret C hQ rfl (rfl) (Nat.zero_le _) (Nat.zero_le _) dX1_changeHouse_93 ⟨rfl, rfl⟩
    refine q_aload_n (pc2 := 34) C 1 dX1_changeHouse_33 rfl rfl rfl ?_
    refine q_aload_n (pc2 := 35) C 1 dX1_changeHouse_34 rfl rfl rfl ?_
    refine q_get (q0 := 0) (k := 0) (v := .int (x 4 0)) (pc2 := 38) C hT1 f9 (wR_g0 ct a (set2 (set2 x 10 (fun k => if k < 10 then x 9 k else x 10 k)) 9 (fun k => if k < 10 then -1 else x 9 k))) rfl (by decide) rfl rfl dX1_changeHouse_35 rfl ?_
    refine q_if_ne (tgt := 45) (pc2 := 41) C dX1_changeHouse_38 (by decide) rfl (fun c38 => ?_) (fun c38 => ?_)
    · skip
      refine q_iconst (v := 0) (pc2 := 46) C dX1_changeHouse_45 (by decide) rfl ?_
      refine q_eqi (y := nI (1 - h)) (by rcases (show h = 0 ∨ h = 1 by omega) with rfl | rfl <;> first | rfl | exact absurd hh c38 | exact absurd (hh.symm.trans c38) (by decide)) ?_
      exact hj46
    · skip
      refine q_iconst (v := 1) (pc2 := 42) C dX1_changeHouse_41 (by decide) rfl ?_
      refine q_goto (pc2 := 46) C dX1_changeHouse_42 (by decide) ?_
      refine q_eqi (y := nI (1 - h)) (by rcases (show h = 0 ∨ h = 1 by omega) with rfl | rfl <;> first | rfl | exact absurd hh c38 | exact absurd (hh.symm.trans c38) (by decide)) ?_
      exact hj46
