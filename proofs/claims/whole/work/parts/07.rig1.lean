set_option maxHeartbeats 4000000 in
set_option maxRecDepth 100000 in
theorem c_X1_cell (l : Launch) (D : va_G) (ct : Nat → ClassId) (hh bb : Int32) : qM l yX1_cell wsX1_cell ({ frames := 0, cells := 0, slots := 0, locals := 0 }) D ct [.int hh, .int bb] [] (qD (some (.int ((hh * 4) + bb))) []) 0 0 := by
  refine q_start (ret := some .int) (lv := [(0, .int hh), (1, .int bb)]) (by decide +kernel) rfl (Nat.le_of_ble_eq_true rfl) rfl ?_
  intro p e s m args below meth c A Q C hQ hnm
  refine q_iload_n (pc2 := 1) C 0 dX1_cell_0 rfl rfl rfl ?_
  refine q_iconst (v := 4) (pc2 := 2) C dX1_cell_1 (by decide) rfl ?_
  refine q_imul (pc2 := 3) C dX1_cell_2 rfl rfl ?_
  refine q_iload_n (pc2 := 4) C 1 dX1_cell_3 rfl rfl rfl ?_
  refine q_iadd (pc2 := 5) C dX1_cell_4 rfl rfl ?_
  exact q_zret C hQ rfl (rfl) (by decide) (by decide) dX1_cell_5 ⟨rfl, rfl⟩

set_option maxHeartbeats 4000000 in
set_option maxRecDepth 100000 in
theorem c_X1_hangs (l : Launch) (D : va_G) (ct : Nat → ClassId) (a : Nat → Nat) (x : Nat → Nat → Int32) (i : Nat) (hi : i < 10) : qM l yX1_hangs wsX1_hangs ({ frames := 0, cells := 0, slots := 0, locals := 0 }) D ct [.ref (a 31), .int (nI i)] (wR ct a x) (qD (some (.int (b2 (x 9 i ≠ -1)))) (wR ct a x)) 0 0 := by
  refine q_start (ret := some .boolean) (lv := [(0, .ref (a 31)), (1, .int (nI i))]) (by decide +kernel) rfl (Nat.le_of_ble_eq_true rfl) rfl ?_
  intro p e s m args below meth c A Q C hQ hnm
  have hT1 : ∀ w ∈ u_ws RX1 TX1 8, w ∈ wsX1_hangs := by decide +kernel
  have f28 : (Cond.fieldLink RX1 28 "PlotPatch$Rig" "bars" "[I").before args s = true := C.w _ (by decide +kernel)
  refine q_aload_n (pc2 := 1) C 0 dX1_hangs_0 rfl rfl rfl ?_
  refine q_get (q0 := 0) (k := 5) (v := .ref (a 9)) (pc2 := 4) C hT1 f28 rfl rfl (by decide) rfl rfl dX1_hangs_1 rfl ?_
  refine q_iload_n (pc2 := 5) C 1 dX1_hangs_4 rfl rfl rfl ?_
  refine q_iald (q0 := 5) (f := (x 9)) (pc2 := 6) C i rfl rfl (rfl) (by omega) (by decide) dX1_hangs_5 rfl ?_
  refine q_iconst (v := (-1)) (pc2 := 7) C dX1_hangs_6 (by decide) rfl ?_
  refine q_icmp_eq (tgt := 14) (pc2 := 10) C dX1_hangs_7 (by decide) rfl (fun c7_1 => ?_) (fun c7_1 => ?_)
  · skip
    refine q_iconst (v := 0) (pc2 := 15) C dX1_hangs_14 (by decide) rfl ?_
    exact q_zret C hQ rfl (rfl) (by decide) (by decide) dX1_hangs_15 ⟨by simp [b2, *], rfl⟩
  · skip
    refine q_iconst (v := 1) (pc2 := 11) C dX1_hangs_10 (by decide) rfl ?_
    refine q_goto (pc2 := 15) C dX1_hangs_11 (by decide) ?_
    exact q_zret C hQ rfl (rfl) (by decide) (by decide) dX1_hangs_15 ⟨by simp [b2, *], rfl⟩

set_option maxHeartbeats 4000000 in
set_option maxRecDepth 100000 in
theorem c_X1_hasBar (l : Launch) (D : va_G) (ct : Nat → ClassId) (a : Nat → Nat) (x : Nat → Nat → Int32) (h : Nat) (hh : x 4 0 = nI h) (hlt : h < 2) (bar : Int32) : qM l yX1_hasBar wsX1_hasBar ({ frames := 0, cells := 0, slots := 0, locals := 0 }) D ct [.ref (a 31), .int bar] (wR ct a x) (qD (some (.int (b2 (0 ≤ bar ∧ bar < x 5 h)))) (wR ct a x)) 0 0 := by
  refine q_start (ret := some .boolean) (lv := [(0, .ref (a 31)), (1, .int bar)]) (by decide +kernel) rfl (Nat.le_of_ble_eq_true rfl) rfl ?_
  intro p e s m args below meth c A Q C hQ hnm
  have hT1 : ∀ w ∈ u_ws RX1 TX1 8, w ∈ wsX1_hasBar := by decide +kernel
  have f15 : (Cond.fieldLink RX1 15 "PlotPatch$Rig" "barCounts" "[I").before args s = true := C.w _ (by decide +kernel)
  have f9 : (Cond.fieldLink RX1 9 "PlotPatch$Rig" "house" "I").before args s = true := C.w _ (by decide +kernel)
  refine q_iload_n (pc2 := 1) C 1 dX1_hasBar_0 rfl rfl rfl ?_
  refine q_if_lt (tgt := 21) (pc2 := 4) C dX1_hasBar_1 (by decide) rfl (fun c1_1 => ?_) (fun c1_1 => ?_)
  · skip
    refine q_iconst (v := 0) (pc2 := 22) C dX1_hasBar_21 (by decide) rfl ?_
    exact q_zret C hQ rfl (rfl) (by decide) (by decide) dX1_hasBar_22 ⟨by simp [b2, *], rfl⟩
  · skip
    refine q_iload_n (pc2 := 5) C 1 dX1_hasBar_4 rfl rfl rfl ?_
    refine q_aload_n (pc2 := 6) C 0 dX1_hasBar_5 rfl rfl rfl ?_
    refine q_get (q0 := 0) (k := 1) (v := .ref (a 5)) (pc2 := 9) C hT1 f15 rfl rfl (by decide) rfl rfl dX1_hasBar_6 rfl ?_
    refine q_aload_n (pc2 := 10) C 0 dX1_hasBar_9 rfl rfl rfl ?_
    refine q_get (q0 := 0) (k := 0) (v := .int (x 4 0)) (pc2 := 13) C hT1 f9 rfl rfl (by decide) rfl rfl dX1_hasBar_10 rfl ?_
    refine q_iald (q0 := 1) (f := (x 5)) (pc2 := 14) C h rfl rfl (hh) (hlt) (by decide) dX1_hasBar_13 rfl ?_
    refine q_icmp_ge (tgt := 21) (pc2 := 17) C dX1_hasBar_14 (by decide) rfl (fun c14_2 => ?_) (fun c14_2 => ?_)
    · skip
      refine q_iconst (v := 0) (pc2 := 22) C dX1_hasBar_21 (by decide) rfl ?_
      exact q_zret C hQ rfl (rfl) (by decide) (by decide) dX1_hasBar_22 ⟨by simp [b2, *], rfl⟩
    · skip
      refine q_iconst (v := 1) (pc2 := 18) C dX1_hasBar_17 (by decide) rfl ?_
      refine q_goto (pc2 := 22) C dX1_hasBar_18 (by decide) ?_
      exact q_zret C hQ rfl (rfl) (by decide) (by decide) dX1_hasBar_22 ⟨by simp [b2, *], rfl⟩

set_option maxHeartbeats 4000000 in
set_option maxRecDepth 100000 in
theorem c_X1_put (l : Launch) (D : va_G) (ct : Nat → ClassId) (a : Nat → Nat) (x : Nat → Nat → Int32) (i : Nat) (hi : i < 10) (bar place : Int32) : qM l yX1_put wsX1_put ({ frames := 0, cells := 0, slots := 0, locals := 0 }) D ct [.ref (a 31), .int (nI i), .int bar, .int place] (wR ct a x) (qD none (wR ct a (set2 (set2 x 9 (upd (x 9) i bar)) 11 (upd (x 11) i place)))) 0 0 := by
  refine q_start (ret := none) (lv := [(0, .ref (a 31)), (1, .int (nI i)), (2, .int bar), (3, .int place)]) (by decide +kernel) rfl (Nat.le_of_ble_eq_true rfl) rfl ?_
  intro p e s m args below meth c A Q C hQ hnm
  have hT1 : ∀ w ∈ u_ws RX1 TX1 8, w ∈ wsX1_put := by decide +kernel
  have f28 : (Cond.fieldLink RX1 28 "PlotPatch$Rig" "bars" "[I").before args s = true := C.w _ (by decide +kernel)
  have f40 : (Cond.fieldLink RX1 40 "PlotPatch$Rig" "places" "[I").before args s = true := C.w _ (by decide +kernel)
  refine q_aload_n (pc2 := 1) C 0 dX1_put_0 rfl rfl rfl ?_
  refine q_get (q0 := 0) (k := 5) (v := .ref (a 9)) (pc2 := 4) C hT1 f28 rfl rfl (by decide) rfl rfl dX1_put_1 rfl ?_
  refine q_iload_n (pc2 := 5) C 1 dX1_put_4 rfl rfl rfl ?_
  refine q_iload_n (pc2 := 6) C 2 dX1_put_5 rfl rfl rfl ?_
  refine q_iast (q0 := 5) (f := (x 9)) (ws' := (wR ct a (set2 x 9 (upd (x 9) i bar)))) (pc2 := 7) C i rfl rfl (rfl) (by omega) (by decide) rfl dX1_put_6 rfl ?_
  refine q_aload_n (pc2 := 8) C 0 dX1_put_7 rfl rfl rfl ?_
  refine q_get (q0 := 0) (k := 7) (v := .ref (a 11)) (pc2 := 11) C hT1 f40 rfl rfl (by decide) rfl rfl dX1_put_8 rfl ?_
  refine q_iload_n (pc2 := 12) C 1 dX1_put_11 rfl rfl rfl ?_
  refine q_iload_n (pc2 := 13) C 3 dX1_put_12 rfl rfl rfl ?_
  refine q_iast (q0 := 7) (f := (x 11)) (ws' := (wR ct a (set2 (set2 x 9 (upd (x 9) i bar)) 11 (upd (x 11) i place)))) (pc2 := 14) C i rfl rfl (rfl) (by omega) (by decide) rfl dX1_put_13 rfl ?_
  exact q_vret C hQ rfl (by decide) (by decide) dX1_put_14 ⟨rfl, rfl⟩

set_option maxHeartbeats 4000000 in
set_option maxRecDepth 100000 in
theorem c_X1_weightOn (l : Launch) (D : va_G) (ct : Nat → ClassId) (a : Nat → Nat) (x : Nat → Nat → Int32) (bar : Int32) : qM l yX1_weightOn wsX1_weightOn ({ frames := 0, cells := 0, slots := 0, locals := 0 }) D ct [.ref (a 31), .int bar] (wR ct a x) (qD (some (.int (sumf (fun k => if x 9 k = bar then x 8 k else 0) 10))) (wR ct a x)) 0 0 := by
  refine q_start (ret := some .int) (lv := [(0, .ref (a 31)), (1, .int bar)]) (by decide +kernel) rfl (Nat.le_of_ble_eq_true rfl) rfl ?_
  intro p e s m args below meth c A Q C hQ hnm
  have hT1 : ∀ w ∈ u_ws RX1 TX1 8, w ∈ wsX1_weightOn := by decide +kernel
  have f28 : (Cond.fieldLink RX1 28 "PlotPatch$Rig" "bars" "[I").before args s = true := C.w _ (by decide +kernel)
  have f25 : (Cond.fieldLink RX1 25 "PlotPatch$Rig" "weights" "[I").before args s = true := C.w _ (by decide +kernel)
  refine q_iconst (v := 0) (pc2 := 1) C dX1_weightOn_0 (by decide) rfl ?_
  refine q_istore_n (lv' := [(2, .int 0), (0, .ref (a 31)), (1, .int bar)]) (pc2 := 2) C dX1_weightOn_1 rfl (by decide) rfl rfl ?_
  refine q_iconst (v := 0) (pc2 := 3) C dX1_weightOn_2 (by decide) rfl ?_
  refine q_istore_n (lv' := [(3, .int 0), (2, .int 0), (0, .ref (a 31)), (1, .int bar)]) (pc2 := 4) C dX1_weightOn_3 rfl (by decide) rfl rfl ?_
  refine q_lv (lv' := [(3, .int 0), (2, .int 0), (0, .ref (a 31)), (1, .int bar)]) [0, 1, 2, 3] rfl ?_
  refine lp_up (P := fun i => Cf p l e _ s m args below meth c D A 4 0 0 Q 4 [(3, .int (nI i)), (2, .int (sumf (fun k => if x 9 k = bar then x 8 k else 0) i)), (0, .ref (a 31)), (1, .int bar)] [] (wR ct a x)) (10) (fun i hi ihi => ?_) ?_
  · skip
    refine q_iload_n (pc2 := 5) C 0 dX1_weightOn_4 rfl rfl rfl ?_
    refine q_bipush (v := 10) (pc2 := 7) C dX1_weightOn_5 (by decide) rfl ?_
    refine q_icmp_ge (tgt := 35) (pc2 := 10) C dX1_weightOn_7 (by decide) rfl (fun c7_1 => (q_absurd (a := 10) (b := i) c7_1 hi (by decide))) (fun _ => ?_)
    refine q_aload_n (pc2 := 11) C 2 dX1_weightOn_10 rfl rfl rfl ?_
    refine q_get (q0 := 0) (k := 5) (v := .ref (a 9)) (pc2 := 14) C hT1 f28 rfl rfl (by decide) rfl rfl dX1_weightOn_11 rfl ?_
    refine q_iload_n (pc2 := 15) C 0 dX1_weightOn_14 rfl rfl rfl ?_
    refine q_iald (q0 := 5) (f := (x 9)) (pc2 := 16) C i rfl rfl (rfl) (by omega) (by decide) dX1_weightOn_15 rfl ?_
    refine q_iload_n (pc2 := 17) C 3 dX1_weightOn_16 rfl rfl rfl ?_
    refine q_icmp_ne (tgt := 29) (pc2 := 20) C dX1_weightOn_17 (by decide) rfl (fun c17_2 => ?_) (fun c17_2 => ?_)
    · skip
      refine q_iinc (v := nI (i + 1)) (lv' := [(3, .int (nI (i + 1))), (2, .int (sumf (fun k => if x 9 k = bar then x 8 k else 0) i)), (0, .ref (a 31)), (1, .int bar)]) (pc2 := 32) C 0 dX1_weightOn_29 rfl (nI_1 i) (by decide) rfl rfl ?_
      refine q_goto (pc2 := 4) C dX1_weightOn_32 (by decide) ?_
      refine q_lv (lv' := [(3, .int (nI (i + 1))), (2, .int (sumf (fun k => if x 9 k = bar then x 8 k else 0) i)), (0, .ref (a 31)), (1, .int bar)]) [0, 1, 2, 3] rfl ?_
      refine q_eql (lv' := [(3, .int (nI (i + 1))), (2, .int (sumf (fun k => if x 9 k = bar then x 8 k else 0) (i + 1))), (0, .ref (a 31)), (1, .int bar)]) (by simp [sumf, *]) ?_
      exact ihi
    · skip
      refine q_iload_n (pc2 := 21) C 1 dX1_weightOn_20 rfl rfl rfl ?_
      refine q_aload_n (pc2 := 22) C 2 dX1_weightOn_21 rfl rfl rfl ?_
      refine q_get (q0 := 0) (k := 4) (v := .ref (a 8)) (pc2 := 25) C hT1 f25 rfl rfl (by decide) rfl rfl dX1_weightOn_22 rfl ?_
      refine q_iload_n (pc2 := 26) C 0 dX1_weightOn_25 rfl rfl rfl ?_
      refine q_iald (q0 := 4) (f := (x 8)) (pc2 := 27) C i rfl rfl (rfl) (by omega) (by decide) dX1_weightOn_26 rfl ?_
      refine q_iadd (pc2 := 28) C dX1_weightOn_27 rfl rfl ?_
      refine q_istore_n (lv' := [(2, .int ((sumf (fun k => if x 9 k = bar then x 8 k else 0) i) + ((x 8) i))), (3, .int (nI i)), (0, .ref (a 31)), (1, .int bar)]) (pc2 := 29) C dX1_weightOn_28 rfl (by decide) rfl rfl ?_
      refine q_iinc (v := nI (i + 1)) (lv' := [(3, .int (nI (i + 1))), (2, .int ((sumf (fun k => if x 9 k = bar then x 8 k else 0) i) + ((x 8) i))), (0, .ref (a 31)), (1, .int bar)]) (pc2 := 32) C 1 dX1_weightOn_29 rfl (nI_1 i) (by decide) rfl rfl ?_
      refine q_goto (pc2 := 4) C dX1_weightOn_32 (by decide) ?_
      refine q_lv (lv' := [(3, .int (nI (i + 1))), (2, .int ((sumf (fun k => if x 9 k = bar then x 8 k else 0) i) + ((x 8) i))), (0, .ref (a 31)), (1, .int bar)]) [0, 1, 2, 3] rfl ?_
      refine q_eql (lv' := [(3, .int (nI (i + 1))), (2, .int (sumf (fun k => if x 9 k = bar then x 8 k else 0) (i + 1))), (0, .ref (a 31)), (1, .int bar)]) (by simp [sumf, *]) ?_
      exact ihi
  · skip
    refine q_iload_n (pc2 := 5) C 0 dX1_weightOn_4 rfl rfl rfl ?_
    refine q_bipush (v := 10) (pc2 := 7) C dX1_weightOn_5 (by decide) rfl ?_
    refine q_icmp_ge (tgt := 35) (pc2 := 10) C dX1_weightOn_7 (by decide) rfl (fun _ => ?_) (fun c7_3 => (absurd (nI_le (Nat.le_refl (10)) (by decide)) c7_3))
    refine q_iload_n (pc2 := 36) C 1 dX1_weightOn_35 rfl rfl rfl ?_
    exact q_zret C hQ rfl (rfl) (by decide) (by decide) dX1_weightOn_36 ⟨rfl, rfl⟩
