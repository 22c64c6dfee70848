set_option maxHeartbeats 4000000 in
set_option maxRecDepth 100000 in
theorem c_X1_isClear (l : Launch) (D : va_G) (ct : Nat → ClassId) (a : Nat → Nat) (x : Nat → Nat → Int32) (lm bar place : Int32) : qM l yX1_isClear wsX1_isClear ({ frames := 1, cells := 0, slots := 0, locals := 21 }) D ct [.ref (a 31), .int lm, .int bar, .int place] (wR ct a x) (qD (some (.int (b2 (clrX x lm bar place)))) (wR ct a x)) 0 0 := by
  refine q_start (ret := some .boolean) (lv := [(0, .ref (a 31)), (1, .int lm), (2, .int bar), (3, .int place)]) (by decide +kernel) rfl (Nat.le_of_ble_eq_true rfl) rfl ?_
  intro p e s m args below meth c A Q C hQ hnm
  have hT1 : ∀ w ∈ u_ws RX1 TX1 8, w ∈ wsX1_isClear := by decide +kernel
  have f28 : (Cond.fieldLink RX1 28 "PlotPatch$Rig" "bars" "[I").before args s = true := C.w _ (by decide +kernel)
  have f40 : (Cond.fieldLink RX1 40 "PlotPatch$Rig" "places" "[I").before args s = true := C.w _ (by decide +kernel)
  refine q_iconst (v := 0) (pc2 := 1) C dX1_isClear_0 (by decide) rfl ?_
  refine q_istore (lv' := [(4, .int 0), (0, .ref (a 31)), (1, .int lm), (2, .int bar), (3, .int place)]) (pc2 := 3) C dX1_isClear_1 (by decide) rfl rfl ?_
  refine q_lv (lv' := [(4, .int 0), (0, .ref (a 31)), (1, .int lm), (2, .int bar), (3, .int place)]) [0, 1, 2, 3, 4] rfl ?_
  refine (lp_up (P := fun k => (∀ q, q < k → clrI x lm bar place q) → Cf p l e ({ frames := 1, cells := 0, slots := 0, locals := 21 }) s m args below meth c D A 5 0 0 Q 3 [(4, .int (nI k)), (0, .ref (a 31)), (1, .int lm), (2, .int bar), (3, .int place)] [] (wR ct a x)) (10) (fun k hk ihk => ?_) ?_ : (∀ q, q < 0 → clrI x lm bar place q) → Cf p l e ({ frames := 1, cells := 0, slots := 0, locals := 21 }) s m args below meth c D A 5 0 0 Q 3 [(4, .int (nI 0)), (0, .ref (a 31)), (1, .int lm), (2, .int bar), (3, .int place)] [] (wR ct a x)) (fun q hq => absurd hq (Nat.not_lt_zero _))
  · intro hyk
    refine q_iload (pc2 := 5) C 0 dX1_isClear_3 rfl rfl ?_
    refine q_bipush (v := 10) (pc2 := 7) C dX1_isClear_5 (by decide) rfl ?_
    refine q_icmp_ge (tgt := 51) (pc2 := 10) C dX1_isClear_7 (by decide) rfl (fun c7 => (q_absurd (a := 10) (b := k) c7 hk (by decide))) (fun _ => ?_)
    refine q_iload (pc2 := 12) C 0 dX1_isClear_10 rfl rfl ?_
    refine q_iload_n (pc2 := 13) C 2 dX1_isClear_12 rfl rfl rfl ?_
    refine q_icmp_eq (tgt := 45) (pc2 := 16) C dX1_isClear_13 (by decide) rfl (fun c13 => ?_) (fun c13 => ?_)
    · skip
      refine q_iinc (v := nI (k + 1)) (lv' := [(4, .int (nI (k + 1))), (0, .ref (a 31)), (1, .int lm), (2, .int bar), (3, .int place)]) (pc2 := 48) C 0 dX1_isClear_45 rfl (nI_1 k) (by decide) rfl rfl ?_
      refine q_goto (pc2 := 3) C dX1_isClear_48 (by decide) ?_
      refine q_lv (lv' := [(4, .int (nI (k + 1))), (0, .ref (a 31)), (1, .int lm), (2, .int bar), (3, .int place)]) [0, 1, 2, 3, 4] rfl ?_
      exact ihk (lt_s hyk (by intro h1 h2; first | exact absurd c13 h1 | exact absurd h2 c24 | exact Int32.not_lt.mpr c40))
    · skip
      refine q_aload_n (pc2 := 17) C 1 dX1_isClear_16 rfl rfl rfl ?_
      refine q_get (q0 := 0) (k := 5) (v := .ref (a 9)) (pc2 := 20) C hT1 f28 (wR_g0 ct a x) rfl (by decide) rfl rfl dX1_isClear_17 rfl ?_
      refine q_iload (pc2 := 22) C 0 dX1_isClear_20 rfl rfl ?_
      refine q_iald (q0 := 5) (f := (x 9)) (pc2 := 23) C k (wR_g5 ct a x) rfl (rfl) (by omega) (by decide) dX1_isClear_22 rfl ?_
      refine q_iload_n (pc2 := 24) C 3 dX1_isClear_23 rfl rfl rfl ?_
      refine q_icmp_ne (tgt := 45) (pc2 := 27) C dX1_isClear_24 (by decide) rfl (fun c24 => ?_) (fun c24 => ?_)
      · skip
        refine q_iinc (v := nI (k + 1)) (lv' := [(4, .int (nI (k + 1))), (0, .ref (a 31)), (1, .int lm), (2, .int bar), (3, .int place)]) (pc2 := 48) C 0 dX1_isClear_45 rfl (nI_1 k) (by decide) rfl rfl ?_
        refine q_goto (pc2 := 3) C dX1_isClear_48 (by decide) ?_
        refine q_lv (lv' := [(4, .int (nI (k + 1))), (0, .ref (a 31)), (1, .int lm), (2, .int bar), (3, .int place)]) [0, 1, 2, 3, 4] rfl ?_
        exact ihk (lt_s hyk (by intro h1 h2; first | exact absurd c13 h1 | exact absurd h2 c24 | exact Int32.not_lt.mpr c40))
      · skip
        refine q_aload_n (pc2 := 28) C 1 dX1_isClear_27 rfl rfl rfl ?_
        refine q_get (q0 := 0) (k := 7) (v := .ref (a 11)) (pc2 := 31) C hT1 f40 (wR_g0 ct a x) rfl (by decide) rfl rfl dX1_isClear_28 rfl ?_
        refine q_iload (pc2 := 33) C 0 dX1_isClear_31 rfl rfl ?_
        refine q_iald (q0 := 7) (f := (x 11)) (pc2 := 34) C k (wR_g7 ct a x) rfl (rfl) (by omega) (by decide) dX1_isClear_33 rfl ?_
        refine q_iload_n (pc2 := 35) C 4 dX1_isClear_34 rfl rfl rfl ?_
        refine q_isub (pc2 := 36) C dX1_isClear_35 rfl rfl ?_
        refine q_mabs (v := absI (((x 11) k) - place)) (pc2 := 39) C (C.w _ (by decide +kernel)) (C.w _ (by decide +kernel)) (C.w _ (by decide +kernel)) (C.w _ (by decide +kernel)) (Nat.le_of_ble_eq_true rfl) (Nat.le_of_ble_eq_true rfl) (by decide) (by decide) rfl dX1_isClear_36 rfl ?_
        refine q_iconst (v := 3) (pc2 := 40) C dX1_isClear_39 (by decide) rfl ?_
        refine q_icmp_ge (tgt := 45) (pc2 := 43) C dX1_isClear_40 (by decide) rfl (fun c40 => ?_) (fun c40 => ?_)
        · skip
          refine q_iinc (v := nI (k + 1)) (lv' := [(4, .int (nI (k + 1))), (0, .ref (a 31)), (1, .int lm), (2, .int bar), (3, .int place)]) (pc2 := 48) C 0 dX1_isClear_45 rfl (nI_1 k) (by decide) rfl rfl ?_
          refine q_goto (pc2 := 3) C dX1_isClear_48 (by decide) ?_
          refine q_lv (lv' := [(4, .int (nI (k + 1))), (0, .ref (a 31)), (1, .int lm), (2, .int bar), (3, .int place)]) [0, 1, 2, 3, 4] rfl ?_
          exact ihk (lt_s hyk (by intro h1 h2; first | exact absurd c13 h1 | exact absurd h2 c24 | exact Int32.not_lt.mpr c40))
        · skip
          refine q_iconst (v := 0) (pc2 := 44) C dX1_isClear_43 (by decide) rfl ?_
          exact q_zret C hQ rfl (rfl) (Nat.zero_le _) (Nat.zero_le _) dX1_isClear_44 ⟨by rw [b2_f (c := clrX x lm bar place) (fun z => z k hk c13 c24 (Int32.not_le.mp c40))], rfl⟩
  · intro hyk
    refine q_iload (pc2 := 5) C 0 dX1_isClear_3 rfl rfl ?_
    refine q_bipush (v := 10) (pc2 := 7) C dX1_isClear_5 (by decide) rfl ?_
    refine q_icmp_ge (tgt := 51) (pc2 := 10) C dX1_isClear_7 (by decide) rfl (fun _ => ?_) (fun c7 => (absurd (nI_le (Nat.le_refl (10)) (by decide)) c7))
    refine q_iconst (v := 1) (pc2 := 52) C dX1_isClear_51 (by decide) rfl ?_
    exact q_zret C hQ rfl (rfl) (Nat.zero_le _) (Nat.zero_le _) dX1_isClear_52 ⟨by rw [b2_t (c := clrX x lm bar place) hyk], rfl⟩

set_option maxHeartbeats 4000000 in
set_option maxRecDepth 100000 in
theorem c_X1_countBelow (l : Launch) (D : va_G) (ct : Nat → ClassId) (a : Nat → Nat) (x : Nat → Nat → Int32) (bar place : Int32) : qM l yX1_countBelow wsX1_countBelow ({ frames := 0, cells := 0, slots := 0, locals := 0 }) D ct [.ref (a 31), .int bar, .int place] (wR ct a x) (qD (some (.int (belX x bar place))) (wR ct a x)) 0 0 := by
  refine q_start (ret := some .int) (lv := [(0, .ref (a 31)), (1, .int bar), (2, .int place)]) (by decide +kernel) rfl (Nat.le_of_ble_eq_true rfl) rfl ?_
  intro p e s m args below meth c A Q C hQ hnm
  have hT1 : ∀ w ∈ u_ws RX1 TX1 8, w ∈ wsX1_countBelow := by decide +kernel
  have f28 : (Cond.fieldLink RX1 28 "PlotPatch$Rig" "bars" "[I").before args s = true := C.w _ (by decide +kernel)
  have f40 : (Cond.fieldLink RX1 40 "PlotPatch$Rig" "places" "[I").before args s = true := C.w _ (by decide +kernel)
  refine q_iconst (v := 0) (pc2 := 1) C dX1_countBelow_0 (by decide) rfl ?_
  refine q_istore_n (lv' := [(3, .int 0), (0, .ref (a 31)), (1, .int bar), (2, .int place)]) (pc2 := 2) C dX1_countBelow_1 rfl (by decide) rfl rfl ?_
  refine q_iconst (v := 0) (pc2 := 3) C dX1_countBelow_2 (by decide) rfl ?_
  refine q_istore (lv' := [(4, .int 0), (3, .int 0), (0, .ref (a 31)), (1, .int bar), (2, .int place)]) (pc2 := 5) C dX1_countBelow_3 (by decide) rfl rfl ?_
  refine q_lv (lv' := [(4, .int 0), (3, .int 0), (0, .ref (a 31)), (1, .int bar), (2, .int place)]) [0, 1, 2, 3, 4] rfl ?_
  refine lp_up (P := fun i => Cf p l e ({ frames := 0, cells := 0, slots := 0, locals := 0 }) s m args below meth c D A 5 0 0 Q 5 [(4, .int (nI i)), (3, .int (sumf (fun k => if x 9 k = bar ∧ x 11 k < place then 1 else 0) i)), (0, .ref (a 31)), (1, .int bar), (2, .int place)] [] (wR ct a x)) (10) (fun i hi ihi => ?_) ?_
  · skip
    refine q_iload (pc2 := 7) C 0 dX1_countBelow_5 rfl rfl ?_
    refine q_bipush (v := 10) (pc2 := 9) C dX1_countBelow_7 (by decide) rfl ?_
    refine q_icmp_ge (tgt := 43) (pc2 := 12) C dX1_countBelow_9 (by decide) rfl (fun c9_1 => (q_absurd (a := 10) (b := i) c9_1 hi (by decide))) (fun _ => ?_)
    refine q_aload_n (pc2 := 13) C 2 dX1_countBelow_12 rfl rfl rfl ?_
    refine q_get (q0 := 0) (k := 5) (v := .ref (a 9)) (pc2 := 16) C hT1 f28 (wR_g0 ct a x) rfl (by decide) rfl rfl dX1_countBelow_13 rfl ?_
    refine q_iload (pc2 := 18) C 0 dX1_countBelow_16 rfl rfl ?_
    refine q_iald (q0 := 5) (f := (x 9)) (pc2 := 19) C i (wR_g5 ct a x) rfl (rfl) (by omega) (by decide) dX1_countBelow_18 rfl ?_
    refine q_iload_n (pc2 := 20) C 3 dX1_countBelow_19 rfl rfl rfl ?_
    refine q_icmp_ne (tgt := 37) (pc2 := 23) C dX1_countBelow_20 (by decide) rfl (fun c20_2 => ?_) (fun c20_2 => ?_)
    · skip
      refine q_iinc (v := nI (i + 1)) (lv' := [(4, .int (nI (i + 1))), (3, .int (sumf (fun k => if x 9 k = bar ∧ x 11 k < place then 1 else 0) i)), (0, .ref (a 31)), (1, .int bar), (2, .int place)]) (pc2 := 40) C 0 dX1_countBelow_37 rfl (nI_1 i) (by decide) rfl rfl ?_
      refine q_goto (pc2 := 5) C dX1_countBelow_40 (by decide) ?_
      refine q_lv (lv' := [(4, .int (nI (i + 1))), (3, .int (sumf (fun k => if x 9 k = bar ∧ x 11 k < place then 1 else 0) i)), (0, .ref (a 31)), (1, .int bar), (2, .int place)]) [0, 1, 2, 3, 4] rfl ?_
      refine q_eql (lv' := [(4, .int (nI (i + 1))), (3, .int (sumf (fun k => if x 9 k = bar ∧ x 11 k < place then 1 else 0) (i + 1))), (0, .ref (a 31)), (1, .int bar), (2, .int place)]) (by simp [sumf, *] <;> simp_all [Int32.not_lt, Int32.not_le]) ?_
      exact ihi
    · skip
      refine q_aload_n (pc2 := 24) C 2 dX1_countBelow_23 rfl rfl rfl ?_
      refine q_get (q0 := 0) (k := 7) (v := .ref (a 11)) (pc2 := 27) C hT1 f40 (wR_g0 ct a x) rfl (by decide) rfl rfl dX1_countBelow_24 rfl ?_
      refine q_iload (pc2 := 29) C 0 dX1_countBelow_27 rfl rfl ?_
      refine q_iald (q0 := 7) (f := (x 11)) (pc2 := 30) C i (wR_g7 ct a x) rfl (rfl) (by omega) (by decide) dX1_countBelow_29 rfl ?_
      refine q_iload_n (pc2 := 31) C 4 dX1_countBelow_30 rfl rfl rfl ?_
      refine q_icmp_ge (tgt := 37) (pc2 := 34) C dX1_countBelow_31 (by decide) rfl (fun c31_3 => ?_) (fun c31_3 => ?_)
      · skip
        refine q_iinc (v := nI (i + 1)) (lv' := [(4, .int (nI (i + 1))), (3, .int (sumf (fun k => if x 9 k = bar ∧ x 11 k < place then 1 else 0) i)), (0, .ref (a 31)), (1, .int bar), (2, .int place)]) (pc2 := 40) C 0 dX1_countBelow_37 rfl (nI_1 i) (by decide) rfl rfl ?_
        refine q_goto (pc2 := 5) C dX1_countBelow_40 (by decide) ?_
        refine q_lv (lv' := [(4, .int (nI (i + 1))), (3, .int (sumf (fun k => if x 9 k = bar ∧ x 11 k < place then 1 else 0) i)), (0, .ref (a 31)), (1, .int bar), (2, .int place)]) [0, 1, 2, 3, 4] rfl ?_
        refine q_eql (lv' := [(4, .int (nI (i + 1))), (3, .int (sumf (fun k => if x 9 k = bar ∧ x 11 k < place then 1 else 0) (i + 1))), (0, .ref (a 31)), (1, .int bar), (2, .int place)]) (by simp [sumf, *] <;> simp_all [Int32.not_lt, Int32.not_le]) ?_
        exact ihi
      · skip
        refine q_iinc (v := ((sumf (fun k => if x 9 k = bar ∧ x 11 k < place then 1 else 0) i) + 1)) (lv' := [(3, .int ((sumf (fun k => if x 9 k = bar ∧ x 11 k < place then 1 else 0) i) + 1)), (4, .int (nI i)), (0, .ref (a 31)), (1, .int bar), (2, .int place)]) (pc2 := 37) C 1 dX1_countBelow_34 rfl (rfl) (by decide) rfl rfl ?_
        refine q_iinc (v := nI (i + 1)) (lv' := [(4, .int (nI (i + 1))), (3, .int ((sumf (fun k => if x 9 k = bar ∧ x 11 k < place then 1 else 0) i) + 1)), (0, .ref (a 31)), (1, .int bar), (2, .int place)]) (pc2 := 40) C 1 dX1_countBelow_37 rfl (nI_1 i) (by decide) rfl rfl ?_
        refine q_goto (pc2 := 5) C dX1_countBelow_40 (by decide) ?_
        refine q_lv (lv' := [(4, .int (nI (i + 1))), (3, .int ((sumf (fun k => if x 9 k = bar ∧ x 11 k < place then 1 else 0) i) + 1)), (0, .ref (a 31)), (1, .int bar), (2, .int place)]) [0, 1, 2, 3, 4] rfl ?_
        refine q_eql (lv' := [(4, .int (nI (i + 1))), (3, .int (sumf (fun k => if x 9 k = bar ∧ x 11 k < place then 1 else 0) (i + 1))), (0, .ref (a 31)), (1, .int bar), (2, .int place)]) (by simp [sumf, *] <;> simp_all [Int32.not_lt, Int32.not_le]) ?_
        exact ihi
  · skip
    refine q_iload (pc2 := 7) C 0 dX1_countBelow_5 rfl rfl ?_
    refine q_bipush (v := 10) (pc2 := 9) C dX1_countBelow_7 (by decide) rfl ?_
    refine q_icmp_ge (tgt := 43) (pc2 := 12) C dX1_countBelow_9 (by decide) rfl (fun _ => ?_) (fun c9_4 => (absurd (nI_le (Nat.le_refl (10)) (by decide)) c9_4))
    refine q_iload_n (pc2 := 44) C 1 dX1_countBelow_43 rfl rfl rfl ?_
    exact q_zret C hQ rfl (rfl) (Nat.zero_le _) (Nat.zero_le _) dX1_countBelow_44 ⟨rfl, rfl⟩

set_option maxHeartbeats 4000000 in
set_option maxRecDepth 100000 in
theorem c_X1_ranked (l : Launch) (D : va_G) (ct : Nat → ClassId) (a : Nat → Nat) (x : Nat → Nat → Int32) (bar rank : Int32) : qM l yX1_ranked wsX1_ranked ({ frames := 1, cells := 0, slots := 0, locals := 24 }) D ct [.ref (a 31), .int bar, .int rank] (wR ct a x) (qD (some (.int (rnkX x bar rank))) (wR ct a x)) 0 0 := by
  refine q_start (ret := some .int) (lv := [(0, .ref (a 31)), (1, .int bar), (2, .int rank)]) (by decide +kernel) rfl (Nat.le_of_ble_eq_true rfl) rfl ?_
  intro p e s m args below meth c A Q C hQ hnm
  have hT1 : ∀ w ∈ u_ws RX1 TX1 8, w ∈ wsX1_ranked := by decide +kernel
  have f28 : (Cond.fieldLink RX1 28 "PlotPatch$Rig" "bars" "[I").before args s = true := C.w _ (by decide +kernel)
  have f40 : (Cond.fieldLink RX1 40 "PlotPatch$Rig" "places" "[I").before args s = true := C.w _ (by decide +kernel)
  refine q_iconst (v := 0) (pc2 := 1) C dX1_ranked_0 (by decide) rfl ?_
  refine q_istore_n (lv' := [(3, .int 0), (0, .ref (a 31)), (1, .int bar), (2, .int rank)]) (pc2 := 2) C dX1_ranked_1 rfl (by decide) rfl rfl ?_
  refine q_lv (lv' := [(3, .int 0), (0, .ref (a 31)), (1, .int bar), (2, .int rank)]) [0, 1, 2, 3] rfl ?_
  refine (lp_up (P := fun k => (fnd (fun k => x 9 k = bar ∧ belX x bar (x 11 k) = rank) (10 - k) k = rnkX x bar rank) → Cf p l e ({ frames := 1, cells := 0, slots := 0, locals := 24 }) s m args below meth c D A 4 0 0 Q 2 [(3, .int (nI k)), (0, .ref (a 31)), (1, .int bar), (2, .int rank)] [] (wR ct a x)) (10) (fun k hk ihk => ?_) ?_ : (fnd (fun k => x 9 k = bar ∧ belX x bar (x 11 k) = rank) (10 - 0) 0 = rnkX x bar rank) → Cf p l e ({ frames := 1, cells := 0, slots := 0, locals := 24 }) s m args below meth c D A 4 0 0 Q 2 [(3, .int (nI 0)), (0, .ref (a 31)), (1, .int bar), (2, .int rank)] [] (wR ct a x)) (rfl)
  · intro hyk
    refine q_iload_n (pc2 := 3) C 0 dX1_ranked_2 rfl rfl rfl ?_
    refine q_bipush (v := 10) (pc2 := 5) C dX1_ranked_3 (by decide) rfl ?_
    refine q_icmp_ge (tgt := 41) (pc2 := 8) C dX1_ranked_5 (by decide) rfl (fun c5 => (q_absurd (a := 10) (b := k) c5 hk (by decide))) (fun _ => ?_)
    refine q_aload_n (pc2 := 9) C 1 dX1_ranked_8 rfl rfl rfl ?_
    refine q_get (q0 := 0) (k := 5) (v := .ref (a 9)) (pc2 := 12) C hT1 f28 (wR_g0 ct a x) rfl (by decide) rfl rfl dX1_ranked_9 rfl ?_
    refine q_iload_n (pc2 := 13) C 0 dX1_ranked_12 rfl rfl rfl ?_
    refine q_iald (q0 := 5) (f := (x 9)) (pc2 := 14) C k (wR_g5 ct a x) rfl (rfl) (by omega) (by decide) dX1_ranked_13 rfl ?_
    refine q_iload_n (pc2 := 15) C 2 dX1_ranked_14 rfl rfl rfl ?_
    refine q_icmp_ne (tgt := 35) (pc2 := 18) C dX1_ranked_15 (by decide) rfl (fun c15 => ?_) (fun c15 => ?_)
    · skip
      refine q_iinc (v := nI (k + 1)) (lv' := [(3, .int (nI (k + 1))), (0, .ref (a 31)), (1, .int bar), (2, .int rank)]) (pc2 := 38) C 0 dX1_ranked_35 rfl (nI_1 k) (by decide) rfl rfl ?_
      refine q_goto (pc2 := 2) C dX1_ranked_38 (by decide) ?_
      refine q_lv (lv' := [(3, .int (nI (k + 1))), (0, .ref (a 31)), (1, .int bar), (2, .int rank)]) [0, 1, 2, 3] rfl ?_
      exact ihk (fnd_no hyk hk (fun z => by first | exact absurd z.1 c15 | exact absurd z.2 c30))
    · skip
      refine q_aload_n (pc2 := 19) C 1 dX1_ranked_18 rfl rfl rfl ?_
      refine q_iload_n (pc2 := 20) C 2 dX1_ranked_19 rfl rfl rfl ?_
      refine q_aload_n (pc2 := 21) C 1 dX1_ranked_20 rfl rfl rfl ?_
      refine q_get (q0 := 0) (k := 7) (v := .ref (a 11)) (pc2 := 24) C hT1 f40 (wR_g0 ct a x) rfl (by decide) rfl rfl dX1_ranked_21 rfl ?_
      refine q_iload_n (pc2 := 25) C 0 dX1_ranked_24 rfl rfl rfl ?_
      refine q_iald (q0 := 7) (f := (x 11)) (pc2 := 26) C k (wR_g7 ct a x) rfl (rfl) (by omega) (by decide) dX1_ranked_25 rfl ?_
      refine q_cV (pc2 := 29) (As := [.int bar, .int ((x 11) k)]) (st := []) (st2 := [.int (belX x bar ((x 11) k))]) (q0 := 0) (w2 := (wR ct a x)) (c2 := 0) (s2 := 0) C (c_X1_countBelow l D ct a x bar ((x 11) k)) (cwV 2 C.w gX1_ranked_X1_countBelow rfl rfl rfl (by decide +kernel) ⟨Nat.le_of_ble_eq_true rfl, Nat.le_of_ble_eq_true rfl⟩) rfl rfl [0, 1, 2, 3, 4, 5, 6, 7] [] [0, 1, 2, 3, 4, 5, 6, 7] rfl rfl (by decide) (by decide) (by decide) rfl (by decide) dX1_ranked_26 rfl rfl (Nat.le_of_ble_eq_true rfl) ⟨Nat.zero_le _, Nat.zero_le _⟩ rfl rfl rfl rfl ?_
      refine q_iload_n (pc2 := 30) C 3 dX1_ranked_29 rfl rfl rfl ?_
      refine q_icmp_ne (tgt := 35) (pc2 := 33) C dX1_ranked_30 (by decide) rfl (fun c30 => ?_) (fun c30 => ?_)
      · skip
        refine q_iinc (v := nI (k + 1)) (lv' := [(3, .int (nI (k + 1))), (0, .ref (a 31)), (1, .int bar), (2, .int rank)]) (pc2 := 38) C 0 dX1_ranked_35 rfl (nI_1 k) (by decide) rfl rfl ?_
        refine q_goto (pc2 := 2) C dX1_ranked_38 (by decide) ?_
        refine q_lv (lv' := [(3, .int (nI (k + 1))), (0, .ref (a 31)), (1, .int bar), (2, .int rank)]) [0, 1, 2, 3] rfl ?_
        exact ihk (fnd_no hyk hk (fun z => by first | exact absurd z.1 c15 | exact absurd z.2 c30))
      · skip
        refine q_iload_n (pc2 := 34) C 0 dX1_ranked_33 rfl rfl rfl ?_
        exact q_zret C hQ rfl (rfl) (Nat.zero_le _) (Nat.zero_le _) dX1_ranked_34 ⟨by rw [fnd_yes hyk hk ⟨c15, c30⟩], rfl⟩
  · intro hyk
    refine q_iload_n (pc2 := 3) C 0 dX1_ranked_2 rfl rfl rfl ?_
    refine q_bipush (v := 10) (pc2 := 5) C dX1_ranked_3 (by decide) rfl ?_
    refine q_icmp_ge (tgt := 41) (pc2 := 8) C dX1_ranked_5 (by decide) rfl (fun _ => ?_) (fun c5 => (absurd (nI_le (Nat.le_refl (10)) (by decide)) c5))
    refine q_iconst (v := (-1)) (pc2 := 42) C dX1_ranked_41 (by decide) rfl ?_
    exact q_zret C hQ rfl (rfl) (Nat.zero_le _) (Nat.zero_le _) dX1_ranked_42 ⟨by rw [fnd_end hyk], rfl⟩
