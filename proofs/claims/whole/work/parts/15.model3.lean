set_option maxHeartbeats 4000000 in
set_option maxRecDepth 100000 in
theorem c_X4_ranked (l : Launch) (D : va_G) (ct : Nat → ClassId) (b : Nat → Nat) (y : Nat → Nat → Int32) (n : Nat) (hn : y 4 0 = nI n) (hn10 : n ≤ 10) (bar rank : Int32) : qM l yX4_ranked wsX4_ranked ({ frames := 0, cells := 0, slots := 0, locals := 0 }) D ct [.ref (b 30), .int bar, .int rank] (wM ct b y) (qD (some (.int (rnkM y n bar rank))) (wM ct b y)) 0 0 := by
  refine q_start (ret := some .int) (lv := [(0, .ref (b 30)), (1, .int bar), (2, .int rank)]) (by decide +kernel) rfl (Nat.le_of_ble_eq_true rfl) rfl ?_
  intro p e s m args below meth c A Q C hQ hnm
  have hT4 : ∀ w ∈ u_ws RX4 TX4 28, w ∈ wsX4_ranked := by decide +kernel
  have f78 : (Cond.fieldLink RX4 78 "PlotPatchModel" "lamps" "I").before args s = true := C.w _ (by decide +kernel)
  have f25 : (Cond.fieldLink RX4 25 "PlotPatchModel" "bar" "[I").before args s = true := C.w _ (by decide +kernel)
  have f28 : (Cond.fieldLink RX4 28 "PlotPatchModel" "place" "[I").before args s = true := C.w _ (by decide +kernel)
  refine q_iconst (v := 0) (pc2 := 1) C dX4_ranked_0 (by decide) rfl ?_
  refine q_istore_n (lv' := [(3, .int 0), (0, .ref (b 30)), (1, .int bar), (2, .int rank)]) (pc2 := 2) C dX4_ranked_1 rfl (by decide) rfl rfl ?_
  refine q_lv (lv' := [(3, .int 0), (0, .ref (b 30)), (1, .int bar), (2, .int rank)]) [0, 1, 2, 3] rfl ?_
  refine (lp_up (P := fun k => (fnd (fun k => y 7 k = bar ∧ ahd y n bar k = rank) (n - k) k = rnkM y n bar rank) → Cf p l e ({ frames := 0, cells := 0, slots := 0, locals := 0 }) s m args below meth c D A 6 0 0 Q 2 [(3, .int (nI k)), (0, .ref (b 30)), (1, .int bar), (2, .int rank)] [] (wM ct b y)) (n) (fun k hk ihk => ?_) ?_ : (fnd (fun k => y 7 k = bar ∧ ahd y n bar k = rank) (n - 0) 0 = rnkM y n bar rank) → Cf p l e ({ frames := 0, cells := 0, slots := 0, locals := 0 }) s m args below meth c D A 6 0 0 Q 2 [(3, .int (nI 0)), (0, .ref (b 30)), (1, .int bar), (2, .int rank)] [] (wM ct b y)) (rfl)
  · intro hyk
    refine q_iload_n (pc2 := 3) C 0 dX4_ranked_2 rfl rfl rfl ?_
    refine q_aload_n (pc2 := 4) C 1 dX4_ranked_3 rfl rfl rfl ?_
    refine q_get (q0 := 0) (k := 4) (v := .int (y 4 0)) (pc2 := 7) C hT4 f78 (wM_g0 ct b y) rfl (by decide) rfl rfl dX4_ranked_4 rfl ?_
    refine q_icmp_ge (tgt := 92) (pc2 := 10) C dX4_ranked_7 (by decide) rfl (fun c7 => (q_absurd (a := n) (b := k) (show nI n ≤ nI k by rw [← hn]; exact c7) hk (by omega))) (fun _ => ?_)
    refine q_iconst (v := 0) (pc2 := 11) C dX4_ranked_10 (by decide) rfl ?_
    refine q_istore (lv' := [(4, .int 0), (3, .int (nI k)), (0, .ref (b 30)), (1, .int bar), (2, .int rank)]) (pc2 := 13) C dX4_ranked_11 (by decide) rfl rfl ?_
    refine q_iconst (v := 0) (pc2 := 14) C dX4_ranked_13 (by decide) rfl ?_
    refine q_istore (lv' := [(5, .int 0), (4, .int 0), (3, .int (nI k)), (0, .ref (b 30)), (1, .int bar), (2, .int rank)]) (pc2 := 16) C dX4_ranked_14 (by decide) rfl rfl ?_
    refine q_lv (lv' := [(5, .int 0), (4, .int 0), (3, .int (nI k)), (0, .ref (b 30)), (1, .int bar), (2, .int rank)]) [0, 1, 2, 3, 4, 5] rfl ?_
    refine lp_up (P := fun j => Cf p l e ({ frames := 0, cells := 0, slots := 0, locals := 0 }) s m args below meth c D A 6 0 0 Q 16 [(5, .int (nI j)), (4, .int (sumf (fun j => if y 7 j = bar ∧ y 8 j < y 8 k then 1 else 0) j)), (3, .int (nI k)), (0, .ref (b 30)), (1, .int bar), (2, .int rank)] [] (wM ct b y)) (n) (fun j hj ihj => ?_) ?_
    · skip
      refine q_iload (pc2 := 18) C 0 dX4_ranked_16 rfl rfl ?_
      refine q_aload_n (pc2 := 19) C 3 dX4_ranked_18 rfl rfl rfl ?_
      refine q_get (q0 := 0) (k := 4) (v := .int (y 4 0)) (pc2 := 22) C hT4 f78 (wM_g0 ct b y) rfl (by decide) rfl rfl dX4_ranked_19 rfl ?_
      refine q_icmp_ge (tgt := 68) (pc2 := 25) C dX4_ranked_22 (by decide) rfl (fun c22 => (q_absurd (a := n) (b := j) (show nI n ≤ nI j by rw [← hn]; exact c22) hj (by omega))) (fun _ => ?_)
      refine q_iload (pc2 := 27) C 1 dX4_ranked_25 rfl rfl ?_
      refine q_aload_n (pc2 := 28) C 3 dX4_ranked_27 rfl rfl rfl ?_
      refine q_get (q0 := 0) (k := 7) (v := .ref (b 7)) (pc2 := 31) C hT4 f25 (wM_g0 ct b y) rfl (by decide) rfl rfl dX4_ranked_28 rfl ?_
      refine q_iload (pc2 := 33) C 0 dX4_ranked_31 rfl rfl ?_
      refine q_iald (q0 := 6) (f := (y 7)) (pc2 := 34) C j (wM_g6 ct b y) rfl (rfl) (by omega) (by decide) dX4_ranked_33 rfl ?_
      refine q_iload_n (pc2 := 35) C 4 dX4_ranked_34 rfl rfl rfl ?_
      refine q_icmp_ne (tgt := 58) (pc2 := 38) C dX4_ranked_35 (by decide) rfl (fun c35 => ?_) (fun c35 => ?_)
      · skip
        refine q_iconst (v := 0) (pc2 := 59) C dX4_ranked_58 (by decide) rfl ?_
        refine q_iadd (pc2 := 60) C dX4_ranked_59 rfl rfl ?_
        refine q_istore (lv' := [(4, .int ((sumf (fun j => if y 7 j = bar ∧ y 8 j < y 8 k then 1 else 0) j) + 0)), (5, .int (nI j)), (3, .int (nI k)), (0, .ref (b 30)), (1, .int bar), (2, .int rank)]) (pc2 := 62) C dX4_ranked_60 (by decide) rfl rfl ?_
        refine q_iinc (v := nI (j + 1)) (lv' := [(5, .int (nI (j + 1))), (4, .int ((sumf (fun j => if y 7 j = bar ∧ y 8 j < y 8 k then 1 else 0) j) + 0)), (3, .int (nI k)), (0, .ref (b 30)), (1, .int bar), (2, .int rank)]) (pc2 := 65) C 1 dX4_ranked_62 rfl (nI_1 j) (by decide) rfl rfl ?_
        refine q_goto (pc2 := 16) C dX4_ranked_65 (by decide) ?_
        refine q_lv (lv' := [(5, .int (nI (j + 1))), (4, .int ((sumf (fun j => if y 7 j = bar ∧ y 8 j < y 8 k then 1 else 0) j) + 0)), (3, .int (nI k)), (0, .ref (b 30)), (1, .int bar), (2, .int rank)]) [0, 1, 2, 3, 4, 5] rfl ?_
        refine q_eql (lv' := [(5, .int (nI (j + 1))), (4, .int (sumf (fun j => if y 7 j = bar ∧ y 8 j < y 8 k then 1 else 0) (j + 1))), (3, .int (nI k)), (0, .ref (b 30)), (1, .int bar), (2, .int rank)]) (by simp only [sumf]; rw [if_neg (fun z => c35 z.1)]) ?_
        exact ihj
      · skip
        refine q_aload_n (pc2 := 39) C 3 dX4_ranked_38 rfl rfl rfl ?_
        refine q_get (q0 := 0) (k := 8) (v := .ref (b 8)) (pc2 := 42) C hT4 f28 (wM_g0 ct b y) rfl (by decide) rfl rfl dX4_ranked_39 rfl ?_
        refine q_iload (pc2 := 44) C 0 dX4_ranked_42 rfl rfl ?_
        refine q_iald (q0 := 7) (f := (y 8)) (pc2 := 45) C j (wM_g7 ct b y) rfl (rfl) (by omega) (by decide) dX4_ranked_44 rfl ?_
        refine q_aload_n (pc2 := 46) C 3 dX4_ranked_45 rfl rfl rfl ?_
        refine q_get (q0 := 0) (k := 8) (v := .ref (b 8)) (pc2 := 49) C hT4 f28 (wM_g0 ct b y) rfl (by decide) rfl rfl dX4_ranked_46 rfl ?_
        refine q_iload_n (pc2 := 50) C 2 dX4_ranked_49 rfl rfl rfl ?_
        refine q_iald (q0 := 7) (f := (y 8)) (pc2 := 51) C k (wM_g7 ct b y) rfl (rfl) (by omega) (by decide) dX4_ranked_50 rfl ?_
        refine q_icmp_ge (tgt := 58) (pc2 := 54) C dX4_ranked_51 (by decide) rfl (fun c51 => ?_) (fun c51 => ?_)
        · skip
          refine q_iconst (v := 0) (pc2 := 59) C dX4_ranked_58 (by decide) rfl ?_
          refine q_iadd (pc2 := 60) C dX4_ranked_59 rfl rfl ?_
          refine q_istore (lv' := [(4, .int ((sumf (fun j => if y 7 j = bar ∧ y 8 j < y 8 k then 1 else 0) j) + 0)), (5, .int (nI j)), (3, .int (nI k)), (0, .ref (b 30)), (1, .int bar), (2, .int rank)]) (pc2 := 62) C dX4_ranked_60 (by decide) rfl rfl ?_
          refine q_iinc (v := nI (j + 1)) (lv' := [(5, .int (nI (j + 1))), (4, .int ((sumf (fun j => if y 7 j = bar ∧ y 8 j < y 8 k then 1 else 0) j) + 0)), (3, .int (nI k)), (0, .ref (b 30)), (1, .int bar), (2, .int rank)]) (pc2 := 65) C 1 dX4_ranked_62 rfl (nI_1 j) (by decide) rfl rfl ?_
          refine q_goto (pc2 := 16) C dX4_ranked_65 (by decide) ?_
          refine q_lv (lv' := [(5, .int (nI (j + 1))), (4, .int ((sumf (fun j => if y 7 j = bar ∧ y 8 j < y 8 k then 1 else 0) j) + 0)), (3, .int (nI k)), (0, .ref (b 30)), (1, .int bar), (2, .int rank)]) [0, 1, 2, 3, 4, 5] rfl ?_
          refine q_eql (lv' := [(5, .int (nI (j + 1))), (4, .int (sumf (fun j => if y 7 j = bar ∧ y 8 j < y 8 k then 1 else 0) (j + 1))), (3, .int (nI k)), (0, .ref (b 30)), (1, .int bar), (2, .int rank)]) (by simp only [sumf]; rw [if_neg (fun z => absurd c51 (Int32.not_le.mpr z.2))]) ?_
          exact ihj
        · skip
          refine q_iconst (v := 1) (pc2 := 55) C dX4_ranked_54 (by decide) rfl ?_
          refine q_goto (pc2 := 59) C dX4_ranked_55 (by decide) ?_
          refine q_iadd (pc2 := 60) C dX4_ranked_59 rfl rfl ?_
          refine q_istore (lv' := [(4, .int ((sumf (fun j => if y 7 j = bar ∧ y 8 j < y 8 k then 1 else 0) j) + 1)), (5, .int (nI j)), (3, .int (nI k)), (0, .ref (b 30)), (1, .int bar), (2, .int rank)]) (pc2 := 62) C dX4_ranked_60 (by decide) rfl rfl ?_
          refine q_iinc (v := nI (j + 1)) (lv' := [(5, .int (nI (j + 1))), (4, .int ((sumf (fun j => if y 7 j = bar ∧ y 8 j < y 8 k then 1 else 0) j) + 1)), (3, .int (nI k)), (0, .ref (b 30)), (1, .int bar), (2, .int rank)]) (pc2 := 65) C 1 dX4_ranked_62 rfl (nI_1 j) (by decide) rfl rfl ?_
          refine q_goto (pc2 := 16) C dX4_ranked_65 (by decide) ?_
          refine q_lv (lv' := [(5, .int (nI (j + 1))), (4, .int ((sumf (fun j => if y 7 j = bar ∧ y 8 j < y 8 k then 1 else 0) j) + 1)), (3, .int (nI k)), (0, .ref (b 30)), (1, .int bar), (2, .int rank)]) [0, 1, 2, 3, 4, 5] rfl ?_
          refine q_eql (lv' := [(5, .int (nI (j + 1))), (4, .int (sumf (fun j => if y 7 j = bar ∧ y 8 j < y 8 k then 1 else 0) (j + 1))), (3, .int (nI k)), (0, .ref (b 30)), (1, .int bar), (2, .int rank)]) (by simp only [sumf]; rw [if_pos ⟨c35, Int32.not_le.mp c51⟩]) ?_
          exact ihj
    · skip
      refine q_iload (pc2 := 18) C 0 dX4_ranked_16 rfl rfl ?_
      refine q_aload_n (pc2 := 19) C 3 dX4_ranked_18 rfl rfl rfl ?_
      refine q_get (q0 := 0) (k := 4) (v := .int (y 4 0)) (pc2 := 22) C hT4 f78 (wM_g0 ct b y) rfl (by decide) rfl rfl dX4_ranked_19 rfl ?_
      refine q_icmp_ge (tgt := 68) (pc2 := 25) C dX4_ranked_22 (by decide) rfl (fun _ => ?_) (fun c22 => (absurd (show (y 4 0) ≤ nI n by rw [hn]; exact nI_le (Nat.le_refl n) (by omega)) c22))
      refine q_aload_n (pc2 := 69) C 3 dX4_ranked_68 rfl rfl rfl ?_
      refine q_get (q0 := 0) (k := 7) (v := .ref (b 7)) (pc2 := 72) C hT4 f25 (wM_g0 ct b y) rfl (by decide) rfl rfl dX4_ranked_69 rfl ?_
      refine q_iload_n (pc2 := 73) C 2 dX4_ranked_72 rfl rfl rfl ?_
      refine q_iald (q0 := 6) (f := (y 7)) (pc2 := 74) C k (wM_g6 ct b y) rfl (rfl) (by omega) (by decide) dX4_ranked_73 rfl ?_
      refine q_iload_n (pc2 := 75) C 4 dX4_ranked_74 rfl rfl rfl ?_
      refine q_icmp_ne (tgt := 86) (pc2 := 78) C dX4_ranked_75 (by decide) rfl (fun c75 => ?_) (fun c75 => ?_)
      · skip
        refine q_iinc (v := nI (k + 1)) (lv' := [(3, .int (nI (k + 1))), (5, .int (nI n)), (4, .int (sumf (fun j => if y 7 j = bar ∧ y 8 j < y 8 k then 1 else 0) n)), (0, .ref (b 30)), (1, .int bar), (2, .int rank)]) (pc2 := 89) C 2 dX4_ranked_86 rfl (nI_1 k) (by decide) rfl rfl ?_
        refine q_goto (pc2 := 2) C dX4_ranked_89 (by decide) ?_
        refine q_lv (lv' := [(3, .int (nI (k + 1))), (0, .ref (b 30)), (1, .int bar), (2, .int rank)]) [0, 3, 4, 5] rfl ?_
        exact ihk (fnd_no hyk hk (fun z => c75 z.1))
      · skip
        refine q_iload (pc2 := 80) C 1 dX4_ranked_78 rfl rfl ?_
        refine q_iload_n (pc2 := 81) C 5 dX4_ranked_80 rfl rfl rfl ?_
        refine q_icmp_ne (tgt := 86) (pc2 := 84) C dX4_ranked_81 (by decide) rfl (fun c81 => ?_) (fun c81 => ?_)
        · skip
          refine q_iinc (v := nI (k + 1)) (lv' := [(3, .int (nI (k + 1))), (5, .int (nI n)), (4, .int (sumf (fun j => if y 7 j = bar ∧ y 8 j < y 8 k then 1 else 0) n)), (0, .ref (b 30)), (1, .int bar), (2, .int rank)]) (pc2 := 89) C 2 dX4_ranked_86 rfl (nI_1 k) (by decide) rfl rfl ?_
          refine q_goto (pc2 := 2) C dX4_ranked_89 (by decide) ?_
          refine q_lv (lv' := [(3, .int (nI (k + 1))), (0, .ref (b 30)), (1, .int bar), (2, .int rank)]) [0, 3, 4, 5] rfl ?_
          exact ihk (fnd_no hyk hk (fun z => c81 z.2))
        · skip
          refine q_iload_n (pc2 := 85) C 2 dX4_ranked_84 rfl rfl rfl ?_
          exact q_zret C hQ rfl (rfl) (Nat.zero_le _) (Nat.zero_le _) dX4_ranked_85 ⟨by rw [fnd_yes hyk hk ⟨c75, c81⟩], rfl⟩
  · intro hyk
    refine q_iload_n (pc2 := 3) C 0 dX4_ranked_2 rfl rfl rfl ?_
    refine q_aload_n (pc2 := 4) C 1 dX4_ranked_3 rfl rfl rfl ?_
    refine q_get (q0 := 0) (k := 4) (v := .int (y 4 0)) (pc2 := 7) C hT4 f78 (wM_g0 ct b y) rfl (by decide) rfl rfl dX4_ranked_4 rfl ?_
    refine q_icmp_ge (tgt := 92) (pc2 := 10) C dX4_ranked_7 (by decide) rfl (fun _ => ?_) (fun c7 => (absurd (show (y 4 0) ≤ nI n by rw [hn]; exact nI_le (Nat.le_refl n) (by omega)) c7))
    refine q_iconst (v := (-1)) (pc2 := 93) C dX4_ranked_92 (by decide) rfl ?_
    exact q_zret C hQ rfl (rfl) (Nat.zero_le _) (Nat.zero_le _) dX4_ranked_93 ⟨by rw [fnd_end hyk], rfl⟩

set_option maxHeartbeats 4000000 in
set_option maxRecDepth 100000 in
theorem c_X4_onBar (l : Launch) (D : va_G) (ct : Nat → ClassId) (b : Nat → Nat) (y : Nat → Nat → Int32) (n : Nat) (hn : y 4 0 = nI n) (hn10 : n ≤ 10) (h : Nat) (hh : y 0 0 = nI h) (hlt : h < 2) (kb : Nat) (hkb : y 1 h = nI kb) (hkb4 : kb ≤ 4) (bar rank : Int32) : qM l yX4_onBar wsX4_onBar ({ frames := 2, cells := 0, slots := 0, locals := 43 }) D ct [.ref (b 30), .int bar, .int rank] (wM ct b y) (qD (some (.int (if T1 ((if (inR bar 0 (y 1 h - 1) ∧ inR rank 0 9) then rnkM y n bar rank else -1) ≠ -1) = 0 then (if (inR bar 0 (y 1 h - 1) ∧ inR rank 0 9) then rnkM y n bar rank else -1) else 0))) (wM ct b (if T1 ((if (inR bar 0 (y 1 h - 1) ∧ inR rank 0 9) then rnkM y n bar rank else -1) ≠ -1) = 0 then (set2 y 27 (fun _ => T1 ((if (inR bar 0 (y 1 h - 1) ∧ inR rank 0 9) then rnkM y n bar rank else -1) ≠ -1))) else (set2 y 27 (fun _ => T1 ((if (inR bar 0 (y 1 h - 1) ∧ inR rank 0 9) then rnkM y n bar rank else -1) ≠ -1)))))) 0 0 := by
  refine q_start (ret := some .int) (lv := [(0, .ref (b 30)), (1, .int bar), (2, .int rank)]) (by decide +kernel) rfl (Nat.le_of_ble_eq_true rfl) rfl ?_
  intro p e s m args below meth c A Q C hQ hnm
  have hj23 : Cf p l e ({ frames := 2, cells := 0, slots := 0, locals := 43 }) s m args below meth c D A 5 0 0 Q 23 [(0, .ref (b 30)), (1, .int bar), (2, .int rank)] [.int (b2 (inR bar 0 (y 1 h - 1) ∧ inR rank 0 9))] (wM ct b y) := by
    refine q_istore_n (lv' := [(3, .int (b2 (inR bar 0 (y 1 h - 1) ∧ inR rank 0 9))), (0, .ref (b 30)), (1, .int bar), (2, .int rank)]) (pc2 := 24) C dX4_onBar_23 rfl (by decide) rfl rfl ?_
    have hj38 : Cf p l e ({ frames := 2, cells := 0, slots := 0, locals := 43 }) s m args below meth c D A 5 0 0 Q 38 [(3, .int (b2 (inR bar 0 (y 1 h - 1) ∧ inR rank 0 9))), (0, .ref (b 30)), (1, .int bar), (2, .int rank)] [.int (if (inR bar 0 (y 1 h - 1) ∧ inR rank 0 9) then rnkM y n bar rank else -1)] (wM ct b y) := by
      refine q_istore (lv' := [(4, .int (if (inR bar 0 (y 1 h - 1) ∧ inR rank 0 9) then rnkM y n bar rank else -1)), (3, .int (b2 (inR bar 0 (y 1 h - 1) ∧ inR rank 0 9))), (0, .ref (b 30)), (1, .int bar), (2, .int rank)]) (pc2 := 40) C dX4_onBar_38 (by decide) rfl rfl ?_
      refine q_aload_n (pc2 := 41) C 2 dX4_onBar_40 rfl rfl rfl ?_
      have hj52 : Cf p l e ({ frames := 2, cells := 0, slots := 0, locals := 43 }) s m args below meth c D A 5 0 0 Q 52 [(4, .int (if (inR bar 0 (y 1 h - 1) ∧ inR rank 0 9) then rnkM y n bar rank else -1)), (3, .int (b2 (inR bar 0 (y 1 h - 1) ∧ inR rank 0 9))), (0, .ref (b 30)), (1, .int bar), (2, .int rank)] [.int (b2 ((if (inR bar 0 (y 1 h - 1) ∧ inR rank 0 9) then rnkM y n bar rank else -1) ≠ -1)), .ref (b 30)] (wM ct b y) := by
        refine q_cV (pc2 := 55) (As := [.int (b2 ((if (inR bar 0 (y 1 h - 1) ∧ inR rank 0 9) then rnkM y n bar rank else -1) ≠ -1))]) (st := []) (st2 := [.int (b2 ((if (inR bar 0 (y 1 h - 1) ∧ inR rank 0 9) then rnkM y n bar rank else -1) ≠ -1))]) (q0 := 0) (w2 := (wM ct b (set2 y 27 (fun _ => T1 ((if (inR bar 0 (y 1 h - 1) ∧ inR rank 0 9) then rnkM y n bar rank else -1) ≠ -1))))) (c2 := 0) (s2 := 0) C (c_X4_may l D ct b y (b2 ((if (inR bar 0 (y 1 h - 1) ∧ inR rank 0 9) then rnkM y n bar rank else -1) ≠ -1)) (b2_nar _)) (cwV 1 C.w gX4_onBar_X4_may rfl rfl rfl (by decide +kernel) ⟨Nat.le_of_ble_eq_true rfl, Nat.le_of_ble_eq_true rfl⟩) rfl rfl [0, 1, 2, 3, 4, 5, 6, 7, 8, 9, 10, 11, 12, 13, 14, 15, 16, 17, 18, 19, 20, 21] [] [0, 1, 2, 3, 4, 5, 6, 7, 8, 9, 10, 11, 12, 13, 14, 15, 16, 17, 18, 19, 20, 21] rfl rfl (by decide) (by decide) (by decide) rfl (by decide) dX4_onBar_52 rfl rfl (Nat.le_of_ble_eq_true rfl) ⟨Nat.zero_le _, Nat.zero_le _⟩ rfl rfl rfl rfl ?_
        refine q_if_eq (tgt := 63) (pc2 := 58) C dX4_onBar_55 (by decide) rfl (fun c55 => ?_) (fun c55 => ?_)
        · skip
          have ht0 : ¬ T1 ((if (inR bar 0 (y 1 h - 1) ∧ inR rank 0 9) then rnkM y n bar rank else -1) ≠ -1) = 0 := by rw [show T1 ((if (inR bar 0 (y 1 h - 1) ∧ inR rank 0 9) then rnkM y n bar rank else -1) ≠ -1) = 1 from if_pos c55]; decide
          refine q_iconst (v := 0) (pc2 := 64) C dX4_onBar_63 (by decide) rfl ?_
          exact q_zret C hQ rfl (rfl) (Nat.zero_le _) (Nat.zero_le _) dX4_onBar_64 ⟨by rw [if_neg ht0], by rw [if_neg ht0]⟩
        · skip
          have ht : T1 ((if (inR bar 0 (y 1 h - 1) ∧ inR rank 0 9) then rnkM y n bar rank else -1) ≠ -1) = 0 := if_neg c55
          have hP := b2_ne.mp c55
          refine q_iload (pc2 := 60) C 0 dX4_onBar_58 rfl rfl ?_
          refine q_goto (pc2 := 64) C dX4_onBar_60 (by decide) ?_
          exact q_zret C hQ rfl (rfl) (Nat.zero_le _) (Nat.zero_le _) dX4_onBar_64 ⟨by rw [if_pos ht], by rw [if_pos ht]⟩
      refine q_iload (pc2 := 43) C 0 dX4_onBar_41 rfl rfl ?_
      refine q_iconst (v := (-1)) (pc2 := 44) C dX4_onBar_43 (by decide) rfl ?_
      refine q_icmp_eq (tgt := 51) (pc2 := 47) C dX4_onBar_44 (by decide) rfl (fun c44 => ?_) (fun c44 => ?_)
      · skip
        refine q_iconst (v := 0) (pc2 := 52) C dX4_onBar_51 (by decide) rfl ?_
        refine q_eqi (y := (b2 ((if (inR bar 0 (y 1 h - 1) ∧ inR rank 0 9) then rnkM y n bar rank else -1) ≠ -1))) ((b2_f (fun z : (if (inR bar 0 (y 1 h - 1) ∧ inR rank 0 9) then rnkM y n bar rank else -1) ≠ -1 => absurd z (fun z => z c44))).symm) ?_
        exact hj52
      · skip
        refine q_iconst (v := 1) (pc2 := 48) C dX4_onBar_47 (by decide) rfl ?_
        refine q_goto (pc2 := 52) C dX4_onBar_48 (by decide) ?_
        refine q_eqi (y := (b2 ((if (inR bar 0 (y 1 h - 1) ∧ inR rank 0 9) then rnkM y n bar rank else -1) ≠ -1))) ((b2_t (c := (if (inR bar 0 (y 1 h - 1) ∧ inR rank 0 9) then rnkM y n bar rank else -1) ≠ -1) (c44)).symm) ?_
        exact hj52
    refine q_iload_n (pc2 := 25) C 0 dX4_onBar_24 rfl rfl rfl ?_
    refine q_if_eq (tgt := 37) (pc2 := 28) C dX4_onBar_25 (by decide) rfl (fun c25 => ?_) (fun c25 => ?_)
    · skip
      refine q_iconst (v := (-1)) (pc2 := 38) C dX4_onBar_37 (by decide) rfl ?_
      refine q_eqi (y := (if (inR bar 0 (y 1 h - 1) ∧ inR rank 0 9) then rnkM y n bar rank else -1)) ((if_neg (b2_eq.mp c25)).symm) ?_
      exact hj38
    · skip
      refine q_aload_n (pc2 := 29) C 1 dX4_onBar_28 rfl rfl rfl ?_
      refine q_iload_n (pc2 := 30) C 2 dX4_onBar_29 rfl rfl rfl ?_
      refine q_iload_n (pc2 := 31) C 3 dX4_onBar_30 rfl rfl rfl ?_
      refine q_cV (pc2 := 34) (As := [.int bar, .int rank]) (st := []) (st2 := [.int (rnkM y n bar rank)]) (q0 := 0) (w2 := (wM ct b y)) (c2 := 0) (s2 := 0) C (c_X4_ranked l D ct b y n hn hn10 bar rank) (cwV 2 C.w gX4_onBar_X4_ranked rfl rfl rfl (by decide +kernel) ⟨Nat.le_of_ble_eq_true rfl, Nat.le_of_ble_eq_true rfl⟩) rfl rfl [0, 1, 2, 3, 4, 5, 6, 7, 8, 9, 10, 11, 12, 13, 14, 15, 16, 17, 18, 19, 20, 21] [] [0, 1, 2, 3, 4, 5, 6, 7, 8, 9, 10, 11, 12, 13, 14, 15, 16, 17, 18, 19, 20, 21] rfl rfl (by decide) (by decide) (by decide) rfl (by decide) dX4_onBar_31 rfl rfl (Nat.le_of_ble_eq_true rfl) ⟨Nat.zero_le _, Nat.zero_le _⟩ rfl rfl rfl rfl ?_
      refine q_goto (pc2 := 38) C dX4_onBar_34 (by decide) ?_
      refine q_eqi (y := (if (inR bar 0 (y 1 h - 1) ∧ inR rank 0 9) then rnkM y n bar rank else -1)) ((if_pos (b2_ne.mp c25)).symm) ?_
      exact hj38
  refine q_aload_n (pc2 := 1) C 0 dX4_onBar_0 rfl rfl rfl ?_
  refine q_iload_n (pc2 := 2) C 1 dX4_onBar_1 rfl rfl rfl ?_
  refine q_cV (pc2 := 5) (As := [.int bar]) (st := []) (st2 := [.int (b2 (inR bar 0 (y 1 h - 1)))]) (q0 := 0) (w2 := (wM ct b y)) (c2 := 0) (s2 := 0) C (c_X4_isBar l D ct b y h hh hlt bar) (cwV 1 C.w gX4_onBar_X4_isBar rfl rfl rfl (by decide +kernel) ⟨Nat.le_of_ble_eq_true rfl, Nat.le_of_ble_eq_true rfl⟩) rfl rfl [0, 1, 2, 3, 4, 5, 6, 7, 8, 9, 10, 11, 12, 13, 14, 15, 16, 17, 18, 19, 20, 21] [] [0, 1, 2, 3, 4, 5, 6, 7, 8, 9, 10, 11, 12, 13, 14, 15, 16, 17, 18, 19, 20, 21] rfl rfl (by decide) (by decide) (by decide) rfl (by decide) dX4_onBar_2 rfl rfl (Nat.le_of_ble_eq_true rfl) ⟨Nat.zero_le _, Nat.zero_le _⟩ rfl rfl rfl rfl ?_
  refine q_if_eq (tgt := 22) (pc2 := 8) C dX4_onBar_5 (by decide) rfl (fun c5 => ?_) (fun c5 => ?_)
  · skip
    refine q_iconst (v := 0) (pc2 := 23) C dX4_onBar_22 (by decide) rfl ?_
    refine q_eqi (y := (b2 (inR bar 0 (y 1 h - 1) ∧ inR rank 0 9))) ((b2_f (fun z : inR bar 0 (y 1 h - 1) ∧ inR rank 0 9 => absurd z.1 (b2_eq.mp c5))).symm) ?_
    exact hj23
  · skip
    refine q_iload_n (pc2 := 9) C 2 dX4_onBar_8 rfl rfl rfl ?_
    refine q_iconst (v := 0) (pc2 := 10) C dX4_onBar_9 (by decide) rfl ?_
    refine q_bipush (v := 9) (pc2 := 12) C dX4_onBar_10 (by decide) rfl ?_
    refine q_cS (pc2 := 15) (As := [.int rank, .int 0, .int 9]) (st := []) (st2 := [.int (b2 (inR rank 0 9))]) (w2 := (wM ct b y)) (c2 := 0) (s2 := 0) C (c_X4_isIn l D ct rank 0 9) (va_cwS 3 C.w gX4_onBar_X4_isIn rfl rfl rfl (by decide +kernel) ⟨Nat.le_of_ble_eq_true rfl, Nat.le_of_ble_eq_true rfl⟩) [] [0, 1, 2, 3, 4, 5, 6, 7, 8, 9, 10, 11, 12, 13, 14, 15, 16, 17, 18, 19, 20, 21] [0, 1, 2, 3, 4, 5, 6, 7, 8, 9, 10, 11, 12, 13, 14, 15, 16, 17, 18, 19, 20, 21] rfl rfl (by decide) (by decide) (by decide) rfl (by decide) dX4_onBar_12 rfl rfl (Nat.le_of_ble_eq_true rfl) ⟨Nat.zero_le _, Nat.zero_le _⟩ rfl rfl rfl rfl ?_
    refine q_if_eq (tgt := 22) (pc2 := 18) C dX4_onBar_15 (by decide) rfl (fun c15 => ?_) (fun c15 => ?_)
    · skip
      refine q_iconst (v := 0) (pc2 := 23) C dX4_onBar_22 (by decide) rfl ?_
      refine q_eqi (y := (b2 (inR bar 0 (y 1 h - 1) ∧ inR rank 0 9))) ((b2_f (fun z : inR bar 0 (y 1 h - 1) ∧ inR rank 0 9 => absurd z.2 (b2_eq.mp c15))).symm) ?_
      exact hj23
    · skip
      refine q_iconst (v := 1) (pc2 := 19) C dX4_onBar_18 (by decide) rfl ?_
      refine q_goto (pc2 := 23) C dX4_onBar_19 (by decide) ?_
      refine q_eqi (y := (b2 (inR bar 0 (y 1 h - 1) ∧ inR rank 0 9))) ((b2_t (c := inR bar 0 (y 1 h - 1) ∧ inR rank 0 9) ⟨b2_ne.mp c5, b2_ne.mp c15⟩).symm) ?_
      exact hj23

set_option maxHeartbeats 4000000 in
set_option maxRecDepth 100000 in
theorem c_X4_where (l : Launch) (D : va_G) (ct : Nat → ClassId) (b : Nat → Nat) (y : Nat → Nat → Int32) (n : Nat) (hn : y 4 0 = nI n) (hn10 : n ≤ 10) (lm : Int32) : qM l yX4_where wsX4_where ({ frames := 2, cells := 0, slots := 0, locals := 43 }) D ct [.ref (b 30), .int lm] (wM ct b y) (qD (some (.int (if T1 (inR lm 0 (y 4 0 - 1)) = 0 then (if y 7 lm.toNatClampNeg = -1 then -1 else 1000 * y 7 lm.toNatClampNeg + y 8 lm.toNatClampNeg) else 0))) (wM ct b (if T1 (inR lm 0 (y 4 0 - 1)) = 0 then (set2 y 27 (fun _ => T1 (inR lm 0 (y 4 0 - 1)))) else (set2 y 27 (fun _ => T1 (inR lm 0 (y 4 0 - 1))))))) 0 0 := by
  refine q_start (ret := some .int) (lv := [(0, .ref (b 30)), (1, .int lm)]) (by decide +kernel) rfl (Nat.le_of_ble_eq_true rfl) rfl ?_
  intro p e s m args below meth c A Q C hQ hnm
  have hT4 : ∀ w ∈ u_ws RX4 TX4 28, w ∈ wsX4_where := by decide +kernel
  have f25 : (Cond.fieldLink RX4 25 "PlotPatchModel" "bar" "[I").before args s = true := C.w _ (by decide +kernel)
  have f28 : (Cond.fieldLink RX4 28 "PlotPatchModel" "place" "[I").before args s = true := C.w _ (by decide +kernel)
  refine q_aload_n (pc2 := 1) C 0 dX4_where_0 rfl rfl rfl ?_
  refine q_aload_n (pc2 := 2) C 0 dX4_where_1 rfl rfl rfl ?_
  refine q_iload_n (pc2 := 3) C 1 dX4_where_2 rfl rfl rfl ?_
  refine q_cV (pc2 := 6) (As := [.int lm]) (st := [.ref (b 30)]) (st2 := [.int (b2 (inR lm 0 (y 4 0 - 1))), .ref (b 30)]) (q0 := 0) (w2 := (wM ct b y)) (c2 := 0) (s2 := 0) C (c_X4_isLamp l D ct b y lm) (cwV 1 C.w gX4_where_X4_isLamp rfl rfl rfl (by decide +kernel) ⟨Nat.le_of_ble_eq_true rfl, Nat.le_of_ble_eq_true rfl⟩) rfl rfl [0, 1, 2, 3, 4, 5, 6, 7, 8, 9, 10, 11, 12, 13, 14, 15, 16, 17, 18, 19, 20, 21] [] [0, 1, 2, 3, 4, 5, 6, 7, 8, 9, 10, 11, 12, 13, 14, 15, 16, 17, 18, 19, 20, 21] rfl rfl (by decide) (by decide) (by decide) rfl (by decide) dX4_where_3 rfl rfl (Nat.le_of_ble_eq_true rfl) ⟨Nat.zero_le _, Nat.zero_le _⟩ rfl rfl rfl rfl ?_
  refine q_cV (pc2 := 9) (As := [.int (b2 (inR lm 0 (y 4 0 - 1)))]) (st := []) (st2 := [.int (b2 (inR lm 0 (y 4 0 - 1)))]) (q0 := 0) (w2 := (wM ct b (set2 y 27 (fun _ => T1 (inR lm 0 (y 4 0 - 1)))))) (c2 := 0) (s2 := 0) C (c_X4_may l D ct b y (b2 (inR lm 0 (y 4 0 - 1))) (b2_nar _)) (cwV 1 C.w gX4_where_X4_may rfl rfl rfl (by decide +kernel) ⟨Nat.le_of_ble_eq_true rfl, Nat.le_of_ble_eq_true rfl⟩) rfl rfl [0, 1, 2, 3, 4, 5, 6, 7, 8, 9, 10, 11, 12, 13, 14, 15, 16, 17, 18, 19, 20, 21] [] [0, 1, 2, 3, 4, 5, 6, 7, 8, 9, 10, 11, 12, 13, 14, 15, 16, 17, 18, 19, 20, 21] rfl rfl (by decide) (by decide) (by decide) rfl (by decide) dX4_where_6 rfl rfl (Nat.le_of_ble_eq_true rfl) ⟨Nat.zero_le _, Nat.zero_le _⟩ rfl rfl rfl rfl ?_
  refine q_if_ne (tgt := 14) (pc2 := 12) C dX4_where_9 (by decide) rfl (fun c9 => ?_) (fun c9 => ?_)
  · skip
    have ht : T1 (inR lm 0 (y 4 0 - 1)) = 0 := if_neg c9
    have hP := b2_ne.mp c9
    have hL := idxN (k := n) (by have z := hP; rw [hn] at z; exact z) (by omega)
    refine q_aload_n (pc2 := 15) C 0 dX4_where_14 rfl rfl rfl ?_
    refine q_get (q0 := 0) (k := 7) (v := .ref (b 7)) (pc2 := 18) C hT4 f25 (wM_g0 ct b (set2 y 27 (fun _ => T1 (inR lm 0 (y 4 0 - 1))))) rfl (by decide) rfl rfl dX4_where_15 rfl ?_
    refine q_iload_n (pc2 := 19) C 1 dX4_where_18 rfl rfl rfl ?_
    refine q_iald (q0 := 6) (f := (y 7)) (pc2 := 20) C lm.toNatClampNeg (wM_g6 ct b (set2 y 27 (fun _ => T1 (inR lm 0 (y 4 0 - 1))))) rfl (hL.2) (by have := hL.1; omega) (by decide) dX4_where_19 rfl ?_
    refine q_iconst (v := (-1)) (pc2 := 21) C dX4_where_20 (by decide) rfl ?_
    refine q_icmp_ne (tgt := 28) (pc2 := 24) C dX4_where_21 (by decide) rfl (fun c21 => ?_) (fun c21 => ?_)
    · skip
      refine q_sipush (v := 1000) (pc2 := 31) C dX4_where_28 (by decide) rfl ?_
      refine q_aload_n (pc2 := 32) C 0 dX4_where_31 rfl rfl rfl ?_
      refine q_get (q0 := 0) (k := 7) (v := .ref (b 7)) (pc2 := 35) C hT4 f25 (wM_g0 ct b (set2 y 27 (fun _ => T1 (inR lm 0 (y 4 0 - 1))))) rfl (by decide) rfl rfl dX4_where_32 rfl ?_
      refine q_iload_n (pc2 := 36) C 1 dX4_where_35 rfl rfl rfl ?_
      refine q_iald (q0 := 6) (f := (y 7)) (pc2 := 37) C lm.toNatClampNeg (wM_g6 ct b (set2 y 27 (fun _ => T1 (inR lm 0 (y 4 0 - 1))))) rfl (hL.2) (by have := hL.1; omega) (by decide) dX4_where_36 rfl ?_
      refine q_imul (pc2 := 38) C dX4_where_37 rfl rfl ?_
      refine q_aload_n (pc2 := 39) C 0 dX4_where_38 rfl rfl rfl ?_
      refine q_get (q0 := 0) (k := 8) (v := .ref (b 8)) (pc2 := 42) C hT4 f28 (wM_g0 ct b (set2 y 27 (fun _ => T1 (inR lm 0 (y 4 0 - 1))))) rfl (by decide) rfl rfl dX4_where_39 rfl ?_
      refine q_iload_n (pc2 := 43) C 1 dX4_where_42 rfl rfl rfl ?_
      refine q_iald (q0 := 7) (f := (y 8)) (pc2 := 44) C lm.toNatClampNeg (wM_g7 ct b (set2 y 27 (fun _ => T1 (inR lm 0 (y 4 0 - 1))))) rfl (hL.2) (by have := hL.1; omega) (by decide) dX4_where_43 rfl ?_
      refine q_iadd (pc2 := 45) C dX4_where_44 rfl rfl ?_
      exact q_zret C hQ rfl (rfl) (Nat.zero_le _) (Nat.zero_le _) dX4_where_45 ⟨by rw [if_pos ht, if_neg c21], by rw [if_pos ht]⟩
    · skip
      refine q_iconst (v := (-1)) (pc2 := 25) C dX4_where_24 (by decide) rfl ?_
      refine q_goto (pc2 := 45) C dX4_where_25 (by decide) ?_
      exact q_zret C hQ rfl (rfl) (Nat.zero_le _) (Nat.zero_le _) dX4_where_45 ⟨by rw [if_pos ht, if_pos c21], by rw [if_pos ht]⟩
  · skip
    have ht0 : ¬ T1 (inR lm 0 (y 4 0 - 1)) = 0 := by rw [show T1 (inR lm 0 (y 4 0 - 1)) = 1 from if_pos c9]; decide
    refine q_iconst (v := 0) (pc2 := 13) C dX4_where_12 (by decide) rfl ?_
    exact q_zret C hQ rfl (rfl) (Nat.zero_le _) (Nat.zero_le _) dX4_where_13 ⟨by rw [if_neg ht0], by rw [if_neg ht0]⟩

set_option maxHeartbeats 4000000 in
set_option maxRecDepth 100000 in
theorem c_X4_lampsAt (l : Launch) (D : va_G) (ct : Nat → ClassId) (b : Nat → Nat) (y : Nat → Nat → Int32) (n : Nat) (hn : y 4 0 = nI n) (hn10 : n ≤ 10) (ad : Int32) : qM l yX4_lampsAt wsX4_lampsAt ({ frames := 1, cells := 0, slots := 0, locals := 22 }) D ct [.ref (b 30), .int ad] (wM ct b y) (qD (some (.int (atM y n ad))) (wM ct b y)) 0 0 := by
  refine q_start (ret := some .int) (lv := [(0, .ref (b 30)), (1, .int ad)]) (by decide +kernel) rfl (Nat.le_of_ble_eq_true rfl) rfl ?_
  intro p e s m args below meth c A Q C hQ hnm
  have hT4 : ∀ w ∈ u_ws RX4 TX4 28, w ∈ wsX4_lampsAt := by decide +kernel
  have f78 : (Cond.fieldLink RX4 78 "PlotPatchModel" "lamps" "I").before args s = true := C.w _ (by decide +kernel)
  have f31 : (Cond.fieldLink RX4 31 "PlotPatchModel" "first" "[I").before args s = true := C.w _ (by decide +kernel)
  have f19 : (Cond.fieldLink RX4 19 "PlotPatchModel" "kind" "[I").before args s = true := C.w _ (by decide +kernel)
  refine q_iconst (v := 0) (pc2 := 1) C dX4_lampsAt_0 (by decide) rfl ?_
  refine q_istore_n (lv' := [(2, .int 0), (0, .ref (b 30)), (1, .int ad)]) (pc2 := 2) C dX4_lampsAt_1 rfl (by decide) rfl rfl ?_
  refine q_iconst (v := 0) (pc2 := 3) C dX4_lampsAt_2 (by decide) rfl ?_
  refine q_istore_n (lv' := [(3, .int 0), (2, .int 0), (0, .ref (b 30)), (1, .int ad)]) (pc2 := 4) C dX4_lampsAt_3 rfl (by decide) rfl rfl ?_
  refine q_lv (lv' := [(3, .int 0), (2, .int 0), (0, .ref (b 30)), (1, .int ad)]) [0, 1, 2, 3] rfl ?_
  refine lp_up (P := fun i => Cf p l e ({ frames := 1, cells := 0, slots := 0, locals := 22 }) s m args below meth c D A 4 0 0 Q 4 [(3, .int (nI i)), (2, .int (sumf (fun k => if y 9 k ≠ -1 ∧ inR ad (y 9 k) (y 9 k + hasA (y 5 k) - 1) then 1 else 0) i)), (0, .ref (b 30)), (1, .int ad)] [] (wM ct b y)) (n) (fun i hi ihi => ?_) ?_
  · skip
    refine q_iload_n (pc2 := 5) C 0 dX4_lampsAt_4 rfl rfl rfl ?_
    refine q_aload_n (pc2 := 6) C 2 dX4_lampsAt_5 rfl rfl rfl ?_
    refine q_get (q0 := 0) (k := 4) (v := .int (y 4 0)) (pc2 := 9) C hT4 f78 (wM_g0 ct b y) rfl (by decide) rfl rfl dX4_lampsAt_6 rfl ?_
    refine q_icmp_ge (tgt := 67) (pc2 := 12) C dX4_lampsAt_9 (by decide) rfl (fun c9 => (q_absurd (a := n) (b := i) (show nI n ≤ nI i by rw [← hn]; exact c9) hi (by omega))) (fun _ => ?_)
    refine q_iload_n (pc2 := 13) C 1 dX4_lampsAt_12 rfl rfl rfl ?_
    refine q_aload_n (pc2 := 14) C 2 dX4_lampsAt_13 rfl rfl rfl ?_
    refine q_get (q0 := 0) (k := 9) (v := .ref (b 9)) (pc2 := 17) C hT4 f31 (wM_g0 ct b y) rfl (by decide) rfl rfl dX4_lampsAt_14 rfl ?_
    refine q_iload_n (pc2 := 18) C 0 dX4_lampsAt_17 rfl rfl rfl ?_
    refine q_iald (q0 := 8) (f := (y 9)) (pc2 := 19) C i (wM_g8 ct b y) rfl (rfl) (by omega) (by decide) dX4_lampsAt_18 rfl ?_
    refine q_iconst (v := (-1)) (pc2 := 20) C dX4_lampsAt_19 (by decide) rfl ?_
    refine q_icmp_eq (tgt := 58) (pc2 := 23) C dX4_lampsAt_20 (by decide) rfl (fun c20 => ?_) (fun c20 => ?_)
    · skip
      refine q_iconst (v := 0) (pc2 := 59) C dX4_lampsAt_58 (by decide) rfl ?_
      refine q_iadd (pc2 := 60) C dX4_lampsAt_59 rfl rfl ?_
      refine q_istore_n (lv' := [(2, .int ((sumf (fun k => if y 9 k ≠ -1 ∧ inR ad (y 9 k) (y 9 k + hasA (y 5 k) - 1) then 1 else 0) i) + 0)), (3, .int (nI i)), (0, .ref (b 30)), (1, .int ad)]) (pc2 := 61) C dX4_lampsAt_60 rfl (by decide) rfl rfl ?_
      refine q_iinc (v := nI (i + 1)) (lv' := [(3, .int (nI (i + 1))), (2, .int ((sumf (fun k => if y 9 k ≠ -1 ∧ inR ad (y 9 k) (y 9 k + hasA (y 5 k) - 1) then 1 else 0) i) + 0)), (0, .ref (b 30)), (1, .int ad)]) (pc2 := 64) C 1 dX4_lampsAt_61 rfl (nI_1 i) (by decide) rfl rfl ?_
      refine q_goto (pc2 := 4) C dX4_lampsAt_64 (by decide) ?_
      refine q_lv (lv' := [(3, .int (nI (i + 1))), (2, .int ((sumf (fun k => if y 9 k ≠ -1 ∧ inR ad (y 9 k) (y 9 k + hasA (y 5 k) - 1) then 1 else 0) i) + 0)), (0, .ref (b 30)), (1, .int ad)]) [0, 1, 2, 3] rfl ?_
      refine q_eql (lv' := [(3, .int (nI (i + 1))), (2, .int (sumf (fun k => if y 9 k ≠ -1 ∧ inR ad (y 9 k) (y 9 k + hasA (y 5 k) - 1) then 1 else 0) (i + 1))), (0, .ref (b 30)), (1, .int ad)]) (by simp only [sumf]; rw [if_neg (fun z => z.1 c20)]) ?_
      exact ihi
    · skip
      refine q_iload_n (pc2 := 24) C 3 dX4_lampsAt_23 rfl rfl rfl ?_
      refine q_aload_n (pc2 := 25) C 2 dX4_lampsAt_24 rfl rfl rfl ?_
      refine q_get (q0 := 0) (k := 9) (v := .ref (b 9)) (pc2 := 28) C hT4 f31 (wM_g0 ct b y) rfl (by decide) rfl rfl dX4_lampsAt_25 rfl ?_
      refine q_iload_n (pc2 := 29) C 0 dX4_lampsAt_28 rfl rfl rfl ?_
      refine q_iald (q0 := 8) (f := (y 9)) (pc2 := 30) C i (wM_g8 ct b y) rfl (rfl) (by omega) (by decide) dX4_lampsAt_29 rfl ?_
      refine q_aload_n (pc2 := 31) C 2 dX4_lampsAt_30 rfl rfl rfl ?_
      refine q_get (q0 := 0) (k := 9) (v := .ref (b 9)) (pc2 := 34) C hT4 f31 (wM_g0 ct b y) rfl (by decide) rfl rfl dX4_lampsAt_31 rfl ?_
      refine q_iload_n (pc2 := 35) C 0 dX4_lampsAt_34 rfl rfl rfl ?_
      refine q_iald (q0 := 8) (f := (y 9)) (pc2 := 36) C i (wM_g8 ct b y) rfl (rfl) (by omega) (by decide) dX4_lampsAt_35 rfl ?_
      refine q_aload_n (pc2 := 37) C 2 dX4_lampsAt_36 rfl rfl rfl ?_
      refine q_get (q0 := 0) (k := 5) (v := .ref (b 5)) (pc2 := 40) C hT4 f19 (wM_g0 ct b y) rfl (by decide) rfl rfl dX4_lampsAt_37 rfl ?_
      refine q_iload_n (pc2 := 41) C 0 dX4_lampsAt_40 rfl rfl rfl ?_
      refine q_iald (q0 := 4) (f := (y 5)) (pc2 := 42) C i (wM_g4 ct b y) rfl (rfl) (by omega) (by decide) dX4_lampsAt_41 rfl ?_
      refine q_cS (pc2 := 45) (As := [.int ((y 5) i)]) (st := [.int ((y 9) i), .int ((y 9) i), .int ad, .int (sumf (fun k => if y 9 k ≠ -1 ∧ inR ad (y 9 k) (y 9 k + hasA (y 5 k) - 1) then 1 else 0) i)]) (st2 := [.int (hasA ((y 5) i)), .int ((y 9) i), .int ((y 9) i), .int ad, .int (sumf (fun k => if y 9 k ≠ -1 ∧ inR ad (y 9 k) (y 9 k + hasA (y 5 k) - 1) then 1 else 0) i)]) (w2 := (wM ct b y)) (c2 := 0) (s2 := 0) C (c_X4_has l D ct ((y 5) i)) (va_cwS 1 C.w gX4_lampsAt_X4_has rfl rfl rfl (by decide +kernel) ⟨Nat.le_of_ble_eq_true rfl, Nat.le_of_ble_eq_true rfl⟩) [] [0, 1, 2, 3, 4, 5, 6, 7, 8, 9, 10, 11, 12, 13, 14, 15, 16, 17, 18, 19, 20, 21] [0, 1, 2, 3, 4, 5, 6, 7, 8, 9, 10, 11, 12, 13, 14, 15, 16, 17, 18, 19, 20, 21] rfl rfl (by decide) (by decide) (by decide) rfl (by decide) dX4_lampsAt_42 rfl rfl (Nat.le_of_ble_eq_true rfl) ⟨Nat.zero_le _, Nat.zero_le _⟩ rfl rfl rfl rfl ?_
      refine q_iadd (pc2 := 46) C dX4_lampsAt_45 rfl rfl ?_
      refine q_iconst (v := 1) (pc2 := 47) C dX4_lampsAt_46 (by decide) rfl ?_
      refine q_isub (pc2 := 48) C dX4_lampsAt_47 rfl rfl ?_
      refine q_cS (pc2 := 51) (As := [.int ad, .int ((y 9) i), .int ((((y 9) i) + (hasA ((y 5) i))) - 1)]) (st := [.int (sumf (fun k => if y 9 k ≠ -1 ∧ inR ad (y 9 k) (y 9 k + hasA (y 5 k) - 1) then 1 else 0) i)]) (st2 := [.int (b2 (inR ad ((y 9) i) ((((y 9) i) + (hasA ((y 5) i))) - 1))), .int (sumf (fun k => if y 9 k ≠ -1 ∧ inR ad (y 9 k) (y 9 k + hasA (y 5 k) - 1) then 1 else 0) i)]) (w2 := (wM ct b y)) (c2 := 0) (s2 := 0) C (c_X4_isIn l D ct ad ((y 9) i) ((((y 9) i) + (hasA ((y 5) i))) - 1)) (va_cwS 3 C.w gX4_lampsAt_X4_isIn rfl rfl rfl (by decide +kernel) ⟨Nat.le_of_ble_eq_true rfl, Nat.le_of_ble_eq_true rfl⟩) [] [0, 1, 2, 3, 4, 5, 6, 7, 8, 9, 10, 11, 12, 13, 14, 15, 16, 17, 18, 19, 20, 21] [0, 1, 2, 3, 4, 5, 6, 7, 8, 9, 10, 11, 12, 13, 14, 15, 16, 17, 18, 19, 20, 21] rfl rfl (by decide) (by decide) (by decide) rfl (by decide) dX4_lampsAt_48 rfl rfl (Nat.le_of_ble_eq_true rfl) ⟨Nat.zero_le _, Nat.zero_le _⟩ rfl rfl rfl rfl ?_
      refine q_if_eq (tgt := 58) (pc2 := 54) C dX4_lampsAt_51 (by decide) rfl (fun c51 => ?_) (fun c51 => ?_)
      · skip
        refine q_iconst (v := 0) (pc2 := 59) C dX4_lampsAt_58 (by decide) rfl ?_
        refine q_iadd (pc2 := 60) C dX4_lampsAt_59 rfl rfl ?_
        refine q_istore_n (lv' := [(2, .int ((sumf (fun k => if y 9 k ≠ -1 ∧ inR ad (y 9 k) (y 9 k + hasA (y 5 k) - 1) then 1 else 0) i) + 0)), (3, .int (nI i)), (0, .ref (b 30)), (1, .int ad)]) (pc2 := 61) C dX4_lampsAt_60 rfl (by decide) rfl rfl ?_
        refine q_iinc (v := nI (i + 1)) (lv' := [(3, .int (nI (i + 1))), (2, .int ((sumf (fun k => if y 9 k ≠ -1 ∧ inR ad (y 9 k) (y 9 k + hasA (y 5 k) - 1) then 1 else 0) i) + 0)), (0, .ref (b 30)), (1, .int ad)]) (pc2 := 64) C 1 dX4_lampsAt_61 rfl (nI_1 i) (by decide) rfl rfl ?_
        refine q_goto (pc2 := 4) C dX4_lampsAt_64 (by decide) ?_
        refine q_lv (lv' := [(3, .int (nI (i + 1))), (2, .int ((sumf (fun k => if y 9 k ≠ -1 ∧ inR ad (y 9 k) (y 9 k + hasA (y 5 k) - 1) then 1 else 0) i) + 0)), (0, .ref (b 30)), (1, .int ad)]) [0, 1, 2, 3] rfl ?_
        refine q_eql (lv' := [(3, .int (nI (i + 1))), (2, .int (sumf (fun k => if y 9 k ≠ -1 ∧ inR ad (y 9 k) (y 9 k + hasA (y 5 k) - 1) then 1 else 0) (i + 1))), (0, .ref (b 30)), (1, .int ad)]) (by simp only [sumf]; rw [if_neg (fun z => b2_eq.mp c51 z.2)]) ?_
        exact ihi
      · skip
        refine q_iconst (v := 1) (pc2 := 55) C dX4_lampsAt_54 (by decide) rfl ?_
        refine q_goto (pc2 := 59) C dX4_lampsAt_55 (by decide) ?_
        refine q_iadd (pc2 := 60) C dX4_lampsAt_59 rfl rfl ?_
        refine q_istore_n (lv' := [(2, .int ((sumf (fun k => if y 9 k ≠ -1 ∧ inR ad (y 9 k) (y 9 k + hasA (y 5 k) - 1) then 1 else 0) i) + 1)), (3, .int (nI i)), (0, .ref (b 30)), (1, .int ad)]) (pc2 := 61) C dX4_lampsAt_60 rfl (by decide) rfl rfl ?_
        refine q_iinc (v := nI (i + 1)) (lv' := [(3, .int (nI (i + 1))), (2, .int ((sumf (fun k => if y 9 k ≠ -1 ∧ inR ad (y 9 k) (y 9 k + hasA (y 5 k) - 1) then 1 else 0) i) + 1)), (0, .ref (b 30)), (1, .int ad)]) (pc2 := 64) C 1 dX4_lampsAt_61 rfl (nI_1 i) (by decide) rfl rfl ?_
        refine q_goto (pc2 := 4) C dX4_lampsAt_64 (by decide) ?_
        refine q_lv (lv' := [(3, .int (nI (i + 1))), (2, .int ((sumf (fun k => if y 9 k ≠ -1 ∧ inR ad (y 9 k) (y 9 k + hasA (y 5 k) - 1) then 1 else 0) i) + 1)), (0, .ref (b 30)), (1, .int ad)]) [0, 1, 2, 3] rfl ?_
        refine q_eql (lv' := [(3, .int (nI (i + 1))), (2, .int (sumf (fun k => if y 9 k ≠ -1 ∧ inR ad (y 9 k) (y 9 k + hasA (y 5 k) - 1) then 1 else 0) (i + 1))), (0, .ref (b 30)), (1, .int ad)]) (by simp only [sumf]; rw [if_pos ⟨c20, b2_ne.mp c51⟩]) ?_
        exact ihi
  · skip
    refine q_iload_n (pc2 := 5) C 0 dX4_lampsAt_4 rfl rfl rfl ?_
    refine q_aload_n (pc2 := 6) C 2 dX4_lampsAt_5 rfl rfl rfl ?_
    refine q_get (q0 := 0) (k := 4) (v := .int (y 4 0)) (pc2 := 9) C hT4 f78 (wM_g0 ct b y) rfl (by decide) rfl rfl dX4_lampsAt_6 rfl ?_
    refine q_icmp_ge (tgt := 67) (pc2 := 12) C dX4_lampsAt_9 (by decide) rfl (fun _ => ?_) (fun c9 => (absurd (show (y 4 0) ≤ nI n by rw [hn]; exact nI_le (Nat.le_refl n) (by omega)) c9))
    refine q_iload_n (pc2 := 68) C 1 dX4_lampsAt_67 rfl rfl rfl ?_
    exact q_zret C hQ rfl (rfl) (Nat.zero_le _) (Nat.zero_le _) dX4_lampsAt_68 ⟨rfl, rfl⟩

set_option maxHeartbeats 4000000 in
set_option maxRecDepth 100000 in
theorem c_X4_patch (l : Launch) (D : va_G) (ct : Nat → ClassId) (b : Nat → Nat) (y : Nat → Nat → Int32) (n : Nat) (hn : y 4 0 = nI n) (hn10 : n ≤ 10) (lm first : Int32) : qM l yX4_patch wsX4_patch ({ frames := 2, cells := 0, slots := 0, locals := 45 }) D ct [.ref (b 30), .int lm, .int first] (wM ct b y) (qD (some (.int (if T2 (inR lm 0 (y 4 0 - 1)) (inR lm 0 (y 4 0 - 1) ∧ inR first (-1) (100 - hasA (y 5 lm.toNatClampNeg))) = 0 then dbl (fun k => atM (set2 (set2 y 27 (fun _ => T2 (inR lm 0 (y 4 0 - 1)) (inR lm 0 (y 4 0 - 1) ∧ inR first (-1) (100 - hasA (y 5 lm.toNatClampNeg))))) 9 (upd (y 9) lm.toNatClampNeg first)) n (nI k)) else 0))) (wM ct b (if T2 (inR lm 0 (y 4 0 - 1)) (inR lm 0 (y 4 0 - 1) ∧ inR first (-1) (100 - hasA (y 5 lm.toNatClampNeg))) = 0 then (set2 (set2 y 27 (fun _ => T2 (inR lm 0 (y 4 0 - 1)) (inR lm 0 (y 4 0 - 1) ∧ inR first (-1) (100 - hasA (y 5 lm.toNatClampNeg))))) 9 (upd (y 9) lm.toNatClampNeg first)) else (set2 y 27 (fun _ => T2 (inR lm 0 (y 4 0 - 1)) (inR lm 0 (y 4 0 - 1) ∧ inR first (-1) (100 - hasA (y 5 lm.toNatClampNeg)))))))) 0 0 := by
  refine q_start (ret := some .int) (lv := [(0, .ref (b 30)), (1, .int lm), (2, .int first)]) (by decide +kernel) rfl (Nat.le_of_ble_eq_true rfl) rfl ?_
  intro p e s m args below meth c A Q C hQ hnm
  have hT4 : ∀ w ∈ u_ws RX4 TX4 28, w ∈ wsX4_patch := by decide +kernel
  have f31 : (Cond.fieldLink RX4 31 "PlotPatchModel" "first" "[I").before args s = true := C.w _ (by decide +kernel)
  have f19 : (Cond.fieldLink RX4 19 "PlotPatchModel" "kind" "[I").before args s = true := C.w _ (by decide +kernel)
  refine q_aload_n (pc2 := 1) C 0 dX4_patch_0 rfl rfl rfl ?_
  refine q_iload_n (pc2 := 2) C 1 dX4_patch_1 rfl rfl rfl ?_
  refine q_cV (pc2 := 5) (As := [.int lm]) (st := []) (st2 := [.int (b2 (inR lm 0 (y 4 0 - 1)))]) (q0 := 0) (w2 := (wM ct b y)) (c2 := 0) (s2 := 0) C (c_X4_isLamp l D ct b y lm) (cwV 1 C.w gX4_patch_X4_isLamp rfl rfl rfl (by decide +kernel) ⟨Nat.le_of_ble_eq_true rfl, Nat.le_of_ble_eq_true rfl⟩) rfl rfl [0, 1, 2, 3, 4, 5, 6, 7, 8, 9, 10, 11, 12, 13, 14, 15, 16, 17, 18, 19, 20, 21] [] [0, 1, 2, 3, 4, 5, 6, 7, 8, 9, 10, 11, 12, 13, 14, 15, 16, 17, 18, 19, 20, 21] rfl rfl (by decide) (by decide) (by decide) rfl (by decide) dX4_patch_2 rfl rfl (Nat.le_of_ble_eq_true rfl) ⟨Nat.zero_le _, Nat.zero_le _⟩ rfl rfl rfl rfl ?_
  refine q_istore_n (lv' := [(3, .int (b2 (inR lm 0 (y 4 0 - 1)))), (0, .ref (b 30)), (1, .int lm), (2, .int first)]) (pc2 := 6) C dX4_patch_5 rfl (by decide) rfl rfl ?_
  refine q_aload_n (pc2 := 7) C 1 dX4_patch_6 rfl rfl rfl ?_
  refine q_iload_n (pc2 := 8) C 0 dX4_patch_7 rfl rfl rfl ?_
  have hj37 : Cf p l e ({ frames := 2, cells := 0, slots := 0, locals := 45 }) s m args below meth c D A 6 0 0 Q 37 [(3, .int (b2 (inR lm 0 (y 4 0 - 1)))), (0, .ref (b 30)), (1, .int lm), (2, .int first)] [.int (b2 (inR lm 0 (y 4 0 - 1) ∧ inR first (-1) (100 - hasA (y 5 lm.toNatClampNeg)))), .int (b2 (inR lm 0 (y 4 0 - 1))), .ref (b 30)] (wM ct b y) := by
    refine q_cV (pc2 := 40) (As := [.int (b2 (inR lm 0 (y 4 0 - 1))), .int (b2 (inR lm 0 (y 4 0 - 1) ∧ inR first (-1) (100 - hasA (y 5 lm.toNatClampNeg))))]) (st := []) (st2 := [.int (b2 (T2 (inR lm 0 (y 4 0 - 1)) (inR lm 0 (y 4 0 - 1) ∧ inR first (-1) (100 - hasA (y 5 lm.toNatClampNeg))) = 0))]) (q0 := 0) (w2 := (wM ct b (set2 y 27 (fun _ => T2 (inR lm 0 (y 4 0 - 1)) (inR lm 0 (y 4 0 - 1) ∧ inR first (-1) (100 - hasA (y 5 lm.toNatClampNeg))))))) (c2 := 0) (s2 := 0) C (c_X4_mayBoth l D ct b y (b2 (inR lm 0 (y 4 0 - 1))) (b2 (inR lm 0 (y 4 0 - 1) ∧ inR first (-1) (100 - hasA (y 5 lm.toNatClampNeg))))) (cwV 2 C.w gX4_patch_X4_mayBoth rfl rfl rfl (by decide +kernel) ⟨Nat.le_of_ble_eq_true rfl, Nat.le_of_ble_eq_true rfl⟩) rfl rfl [0, 1, 2, 3, 4, 5, 6, 7, 8, 9, 10, 11, 12, 13, 14, 15, 16, 17, 18, 19, 20, 21] [] [0, 1, 2, 3, 4, 5, 6, 7, 8, 9, 10, 11, 12, 13, 14, 15, 16, 17, 18, 19, 20, 21] rfl rfl (by decide) (by decide) (by decide) rfl (by decide) dX4_patch_37 rfl rfl (Nat.le_of_ble_eq_true rfl) ⟨Nat.zero_le _, Nat.zero_le _⟩ rfl rfl rfl rfl ?_
    refine q_if_ne (tgt := 45) (pc2 := 43) C dX4_patch_40 (by decide) rfl (fun c40 => ?_) (fun c40 => ?_)
    · skip
      have ht : T2 (inR lm 0 (y 4 0 - 1)) (inR lm 0 (y 4 0 - 1) ∧ inR first (-1) (100 - hasA (y 5 lm.toNatClampNeg))) = 0 := b2_ne.mp c40
      obtain ⟨p1, p2⟩ := t2_0 ht
      have hL := idxN (k := n) (by have z := p1; rw [hn] at z; exact z) (by omega)
      refine q_aload_n (pc2 := 46) C 1 dX4_patch_45 rfl rfl rfl ?_
      refine q_get (q0 := 0) (k := 9) (v := .ref (b 9)) (pc2 := 49) C hT4 f31 (wM_g0 ct b (set2 y 27 (fun _ => T2 (inR lm 0 (y 4 0 - 1)) (inR lm 0 (y 4 0 - 1) ∧ inR first (-1) (100 - hasA (y 5 lm.toNatClampNeg)))))) rfl (by decide) rfl rfl dX4_patch_46 rfl ?_
      refine q_iload_n (pc2 := 50) C 2 dX4_patch_49 rfl rfl rfl ?_
      refine q_iload_n (pc2 := 51) C 3 dX4_patch_50 rfl rfl rfl ?_
      refine q_iast (q0 := 8) (f := (y 9)) (ws' := (wM ct b (set2 (set2 y 27 (fun _ => T2 (inR lm 0 (y 4 0 - 1)) (inR lm 0 (y 4 0 - 1) ∧ inR first (-1) (100 - hasA (y 5 lm.toNatClampNeg))))) 9 (upd (y 9) lm.toNatClampNeg first)))) (pc2 := 52) C lm.toNatClampNeg (wM_g8 ct b (set2 y 27 (fun _ => T2 (inR lm 0 (y 4 0 - 1)) (inR lm 0 (y 4 0 - 1) ∧ inR first (-1) (100 - hasA (y 5 lm.toNatClampNeg)))))) rfl (hL.2) (by have := hL.1; omega) (by decide) (wM_a8 ct b (set2 y 27 (fun _ => T2 (inR lm 0 (y 4 0 - 1)) (inR lm 0 (y 4 0 - 1) ∧ inR first (-1) (100 - hasA (y 5 lm.toNatClampNeg))))) (upd (y 9) lm.toNatClampNeg first)) dX4_patch_51 rfl ?_
      refine q_iconst (v := 0) (pc2 := 53) C dX4_patch_52 (by decide) rfl ?_
      refine q_istore (lv' := [(4, .int 0), (3, .int (b2 (inR lm 0 (y 4 0 - 1)))), (0, .ref (b 30)), (1, .int lm), (2, .int first)]) (pc2 := 55) C dX4_patch_53 (by decide) rfl rfl ?_
      refine q_iconst (v := 0) (pc2 := 56) C dX4_patch_55 (by decide) rfl ?_
      refine q_istore (lv' := [(5, .int 0), (4, .int 0), (3, .int (b2 (inR lm 0 (y 4 0 - 1)))), (0, .ref (b 30)), (1, .int lm), (2, .int first)]) (pc2 := 58) C dX4_patch_56 (by decide) rfl rfl ?_
      refine q_lv (lv' := [(5, .int 0), (4, .int 0), (3, .int (b2 (inR lm 0 (y 4 0 - 1)))), (0, .ref (b 30)), (1, .int lm), (2, .int first)]) [0, 1, 2, 3, 4, 5] rfl ?_
      refine lp_up (P := fun i => Cf p l e ({ frames := 2, cells := 0, slots := 0, locals := 45 }) s m args below meth c D A 6 0 0 Q 58 [(5, .int (nI i)), (4, .int (sumf (fun k => if 1 < (fun k => atM (set2 (set2 y 27 (fun _ => T2 (inR lm 0 (y 4 0 - 1)) (inR lm 0 (y 4 0 - 1) ∧ inR first (-1) (100 - hasA (y 5 lm.toNatClampNeg))))) 9 (upd (y 9) lm.toNatClampNeg first)) n (nI k)) k then 1 else 0) i)), (3, .int (b2 (inR lm 0 (y 4 0 - 1)))), (0, .ref (b 30)), (1, .int lm), (2, .int first)] [] (wM ct b (set2 (set2 y 27 (fun _ => T2 (inR lm 0 (y 4 0 - 1)) (inR lm 0 (y 4 0 - 1) ∧ inR first (-1) (100 - hasA (y 5 lm.toNatClampNeg))))) 9 (upd (y 9) lm.toNatClampNeg first)))) (100) (fun i hi ihi => ?_) ?_
      · skip
        refine q_iload (pc2 := 60) C 0 dX4_patch_58 rfl rfl ?_
        refine q_bipush (v := 100) (pc2 := 62) C dX4_patch_60 (by decide) rfl ?_
        refine q_icmp_ge (tgt := 91) (pc2 := 65) C dX4_patch_62 (by decide) rfl (fun c62 => (q_absurd (a := 100) (b := i) c62 hi (by decide))) (fun _ => ?_)
        refine q_iload (pc2 := 67) C 1 dX4_patch_65 rfl rfl ?_
        refine q_aload_n (pc2 := 68) C 3 dX4_patch_67 rfl rfl rfl ?_
        refine q_iload (pc2 := 70) C 0 dX4_patch_68 rfl rfl ?_
        refine q_cV (pc2 := 73) (As := [.int (nI i)]) (st := [.int (sumf (fun k => if 1 < (fun k => atM (set2 (set2 y 27 (fun _ => T2 (inR lm 0 (y 4 0 - 1)) (inR lm 0 (y 4 0 - 1) ∧ inR first (-1) (100 - hasA (y 5 lm.toNatClampNeg))))) 9 (upd (y 9) lm.toNatClampNeg first)) n (nI k)) k then 1 else 0) i)]) (st2 := [.int (atM (set2 (set2 y 27 (fun _ => T2 (inR lm 0 (y 4 0 - 1)) (inR lm 0 (y 4 0 - 1) ∧ inR first (-1) (100 - hasA (y 5 lm.toNatClampNeg))))) 9 (upd (y 9) lm.toNatClampNeg first)) n (nI i)), .int (sumf (fun k => if 1 < (fun k => atM (set2 (set2 y 27 (fun _ => T2 (inR lm 0 (y 4 0 - 1)) (inR lm 0 (y 4 0 - 1) ∧ inR first (-1) (100 - hasA (y 5 lm.toNatClampNeg))))) 9 (upd (y 9) lm.toNatClampNeg first)) n (nI k)) k then 1 else 0) i)]) (q0 := 0) (w2 := (wM ct b (set2 (set2 y 27 (fun _ => T2 (inR lm 0 (y 4 0 - 1)) (inR lm 0 (y 4 0 - 1) ∧ inR first (-1) (100 - hasA (y 5 lm.toNatClampNeg))))) 9 (upd (y 9) lm.toNatClampNeg first)))) (c2 := 0) (s2 := 0) C (c_X4_lampsAt l D ct b (set2 (set2 y 27 (fun _ => T2 (inR lm 0 (y 4 0 - 1)) (inR lm 0 (y 4 0 - 1) ∧ inR first (-1) (100 - hasA (y 5 lm.toNatClampNeg))))) 9 (upd (y 9) lm.toNatClampNeg first)) n hn hn10 (nI i)) (cwV 1 C.w gX4_patch_X4_lampsAt rfl rfl rfl (by decide +kernel) ⟨Nat.le_of_ble_eq_true rfl, Nat.le_of_ble_eq_true rfl⟩) rfl rfl [0, 1, 2, 3, 4, 5, 6, 7, 8, 9, 10, 11, 12, 13, 14, 15, 16, 17, 18, 19, 20, 21] [] [0, 1, 2, 3, 4, 5, 6, 7, 8, 9, 10, 11, 12, 13, 14, 15, 16, 17, 18, 19, 20, 21] rfl rfl (by decide) (by decide) (by decide) rfl (by decide) dX4_patch_70 rfl rfl (Nat.le_of_ble_eq_true rfl) ⟨Nat.zero_le _, Nat.zero_le _⟩ rfl rfl rfl rfl ?_
        refine q_iconst (v := 1) (pc2 := 74) C dX4_patch_73 (by decide) rfl ?_
        refine q_icmp_le (tgt := 81) (pc2 := 77) C dX4_patch_74 (by decide) rfl (fun c74 => ?_) (fun c74 => ?_)
        · skip
          refine q_iconst (v := 0) (pc2 := 82) C dX4_patch_81 (by decide) rfl ?_
          refine q_iadd (pc2 := 83) C dX4_patch_82 rfl rfl ?_
          refine q_istore (lv' := [(4, .int ((sumf (fun k => if 1 < (fun k => atM (set2 (set2 y 27 (fun _ => T2 (inR lm 0 (y 4 0 - 1)) (inR lm 0 (y 4 0 - 1) ∧ inR first (-1) (100 - hasA (y 5 lm.toNatClampNeg))))) 9 (upd (y 9) lm.toNatClampNeg first)) n (nI k)) k then 1 else 0) i) + 0)), (5, .int (nI i)), (3, .int (b2 (inR lm 0 (y 4 0 - 1)))), (0, .ref (b 30)), (1, .int lm), (2, .int first)]) (pc2 := 85) C dX4_patch_83 (by decide) rfl rfl ?_
          refine q_iinc (v := nI (i + 1)) (lv' := [(5, .int (nI (i + 1))), (4, .int ((sumf (fun k => if 1 < (fun k => atM (set2 (set2 y 27 (fun _ => T2 (inR lm 0 (y 4 0 - 1)) (inR lm 0 (y 4 0 - 1) ∧ inR first (-1) (100 - hasA (y 5 lm.toNatClampNeg))))) 9 (upd (y 9) lm.toNatClampNeg first)) n (nI k)) k then 1 else 0) i) + 0)), (3, .int (b2 (inR lm 0 (y 4 0 - 1)))), (0, .ref (b 30)), (1, .int lm), (2, .int first)]) (pc2 := 88) C 1 dX4_patch_85 rfl (nI_1 i) (by decide) rfl rfl ?_
          refine q_goto (pc2 := 58) C dX4_patch_88 (by decide) ?_
          refine q_lv (lv' := [(5, .int (nI (i + 1))), (4, .int ((sumf (fun k => if 1 < (fun k => atM (set2 (set2 y 27 (fun _ => T2 (inR lm 0 (y 4 0 - 1)) (inR lm 0 (y 4 0 - 1) ∧ inR first (-1) (100 - hasA (y 5 lm.toNatClampNeg))))) 9 (upd (y 9) lm.toNatClampNeg first)) n (nI k)) k then 1 else 0) i) + 0)), (3, .int (b2 (inR lm 0 (y 4 0 - 1)))), (0, .ref (b 30)), (1, .int lm), (2, .int first)]) [0, 1, 2, 3, 4, 5] rfl ?_
          refine q_eql (lv' := [(5, .int (nI (i + 1))), (4, .int (sumf (fun k => if 1 < (fun k => atM (set2 (set2 y 27 (fun _ => T2 (inR lm 0 (y 4 0 - 1)) (inR lm 0 (y 4 0 - 1) ∧ inR first (-1) (100 - hasA (y 5 lm.toNatClampNeg))))) 9 (upd (y 9) lm.toNatClampNeg first)) n (nI k)) k then 1 else 0) (i + 1))), (3, .int (b2 (inR lm 0 (y 4 0 - 1)))), (0, .ref (b 30)), (1, .int lm), (2, .int first)]) (by simp only [sumf]; rw [if_neg (Int32.not_lt.mpr c74)]) ?_
          exact ihi
        · skip
          refine q_iconst (v := 1) (pc2 := 78) C dX4_patch_77 (by decide) rfl ?_
          refine q_goto (pc2 := 82) C dX4_patch_78 (by decide) ?_
          refine q_iadd (pc2 := 83) C dX4_patch_82 rfl rfl ?_
          refine q_istore (lv' := [(4, .int ((sumf (fun k => if 1 < (fun k => atM (set2 (set2 y 27 (fun _ => T2 (inR lm 0 (y 4 0 - 1)) (inR lm 0 (y 4 0 - 1) ∧ inR first (-1) (100 - hasA (y 5 lm.toNatClampNeg))))) 9 (upd (y 9) lm.toNatClampNeg first)) n (nI k)) k then 1 else 0) i) + 1)), (5, .int (nI i)), (3, .int (b2 (inR lm 0 (y 4 0 - 1)))), (0, .ref (b 30)), (1, .int lm), (2, .int first)]) (pc2 := 85) C dX4_patch_83 (by decide) rfl rfl ?_
          refine q_iinc (v := nI (i + 1)) (lv' := [(5, .int (nI (i + 1))), (4, .int ((sumf (fun k => if 1 < (fun k => atM (set2 (set2 y 27 (fun _ => T2 (inR lm 0 (y 4 0 - 1)) (inR lm 0 (y 4 0 - 1) ∧ inR first (-1) (100 - hasA (y 5 lm.toNatClampNeg))))) 9 (upd (y 9) lm.toNatClampNeg first)) n (nI k)) k then 1 else 0) i) + 1)), (3, .int (b2 (inR lm 0 (y 4 0 - 1)))), (0, .ref (b 30)), (1, .int lm), (2, .int first)]) (pc2 := 88) C 1 dX4_patch_85 rfl (nI_1 i) (by decide) rfl rfl ?_
          refine q_goto (pc2 := 58) C dX4_patch_88 (by decide) ?_
          refine q_lv (lv' := [(5, .int (nI (i + 1))), (4, .int ((sumf (fun k => if 1 < (fun k => atM (set2 (set2 y 27 (fun _ => T2 (inR lm 0 (y 4 0 - 1)) (inR lm 0 (y 4 0 - 1) ∧ inR first (-1) (100 - hasA (y 5 lm.toNatClampNeg))))) 9 (upd (y 9) lm.toNatClampNeg first)) n (nI k)) k then 1 else 0) i) + 1)), (3, .int (b2 (inR lm 0 (y 4 0 - 1)))), (0, .ref (b 30)), (1, .int lm), (2, .int first)]) [0, 1, 2, 3, 4, 5] rfl ?_
          refine q_eql (lv' := [(5, .int (nI (i + 1))), (4, .int (sumf (fun k => if 1 < (fun k => atM (set2 (set2 y 27 (fun _ => T2 (inR lm 0 (y 4 0 - 1)) (inR lm 0 (y 4 0 - 1) ∧ inR first (-1) (100 - hasA (y 5 lm.toNatClampNeg))))) 9 (upd (y 9) lm.toNatClampNeg first)) n (nI k)) k then 1 else 0) (i + 1))), (3, .int (b2 (inR lm 0 (y 4 0 - 1)))), (0, .ref (b 30)), (1, .int lm), (2, .int first)]) (by simp only [sumf]; rw [if_pos (Int32.not_le.mp c74)]) ?_
          exact ihi
      · skip
        refine q_iload (pc2 := 60) C 0 dX4_patch_58 rfl rfl ?_
        refine q_bipush (v := 100) (pc2 := 62) C dX4_patch_60 (by decide) rfl ?_
        refine q_icmp_ge (tgt := 91) (pc2 := 65) C dX4_patch_62 (by decide) rfl (fun _ => ?_) (fun c62 => (absurd (nI_le (Nat.le_refl (100)) (by decide)) c62))
        refine q_iload (pc2 := 93) C 1 dX4_patch_91 rfl rfl ?_
        exact q_zret C hQ rfl (rfl) (Nat.zero_le _) (Nat.zero_le _) dX4_patch_93 ⟨by rw [if_pos ht]; rfl, by rw [if_pos ht]⟩
    · skip
      have ht0 : ¬ T2 (inR lm 0 (y 4 0 - 1)) (inR lm 0 (y 4 0 - 1) ∧ inR first (-1) (100 - hasA (y 5 lm.toNatClampNeg))) = 0 := b2_eq.mp c40
      refine q_iconst (v := 0) (pc2 := 44) C dX4_patch_43 (by decide) rfl ?_
      exact q_zret C hQ rfl (rfl) (Nat.zero_le _) (Nat.zero_le _) dX4_patch_44 ⟨by rw [if_neg ht0], by rw [if_neg ht0]⟩
  refine q_iload_n (pc2 := 9) C 0 dX4_patch_8 rfl rfl rfl ?_
  refine q_if_eq (tgt := 36) (pc2 := 12) C dX4_patch_9 (by decide) rfl (fun c9 => ?_) (fun c9 => ?_)
  · skip
    refine q_iconst (v := 0) (pc2 := 37) C dX4_patch_36 (by decide) rfl ?_
    refine q_eqi (y := (b2 (inR lm 0 (y 4 0 - 1) ∧ inR first (-1) (100 - hasA (y 5 lm.toNatClampNeg))))) ((b2_f (fun z : inR lm 0 (y 4 0 - 1) ∧ inR first (-1) (100 - hasA (y 5 lm.toNatClampNeg)) => absurd z.1 (b2_eq.mp c9))).symm) ?_
    exact hj37
  · skip
    have hL := idxN (k := n) (by have z := b2_ne.mp c9; rw [hn] at z; exact z) (by omega)
    refine q_iload_n (pc2 := 13) C 3 dX4_patch_12 rfl rfl rfl ?_
    refine q_iconst (v := (-1)) (pc2 := 14) C dX4_patch_13 (by decide) rfl ?_
    refine q_bipush (v := 100) (pc2 := 16) C dX4_patch_14 (by decide) rfl ?_
    refine q_aload_n (pc2 := 17) C 1 dX4_patch_16 rfl rfl rfl ?_
    refine q_get (q0 := 0) (k := 5) (v := .ref (b 5)) (pc2 := 20) C hT4 f19 (wM_g0 ct b y) rfl (by decide) rfl rfl dX4_patch_17 rfl ?_
    refine q_iload_n (pc2 := 21) C 2 dX4_patch_20 rfl rfl rfl ?_
    refine q_iald (q0 := 4) (f := (y 5)) (pc2 := 22) C lm.toNatClampNeg (wM_g4 ct b y) rfl (hL.2) (by have := hL.1; omega) (by decide) dX4_patch_21 rfl ?_
    refine q_cS (pc2 := 25) (As := [.int ((y 5) lm.toNatClampNeg)]) (st := [.int 100, .int (-1), .int first, .int (b2 (inR lm 0 (y 4 0 - 1))), .ref (b 30)]) (st2 := [.int (hasA ((y 5) lm.toNatClampNeg)), .int 100, .int (-1), .int first, .int (b2 (inR lm 0 (y 4 0 - 1))), .ref (b 30)]) (w2 := (wM ct b y)) (c2 := 0) (s2 := 0) C (c_X4_has l D ct ((y 5) lm.toNatClampNeg)) (va_cwS 1 C.w gX4_patch_X4_has rfl rfl rfl (by decide +kernel) ⟨Nat.le_of_ble_eq_true rfl, Nat.le_of_ble_eq_true rfl⟩) [] [0, 1, 2, 3, 4, 5, 6, 7, 8, 9, 10, 11, 12, 13, 14, 15, 16, 17, 18, 19, 20, 21] [0, 1, 2, 3, 4, 5, 6, 7, 8, 9, 10, 11, 12, 13, 14, 15, 16, 17, 18, 19, 20, 21] rfl rfl (by decide) (by decide) (by decide) rfl (by decide) dX4_patch_22 rfl rfl (Nat.le_of_ble_eq_true rfl) ⟨Nat.zero_le _, Nat.zero_le _⟩ rfl rfl rfl rfl ?_
    refine q_isub (pc2 := 26) C dX4_patch_25 rfl rfl ?_
    refine q_cS (pc2 := 29) (As := [.int first, .int (-1), .int (100 - (hasA ((y 5) lm.toNatClampNeg)))]) (st := [.int (b2 (inR lm 0 (y 4 0 - 1))), .ref (b 30)]) (st2 := [.int (b2 (inR first (-1) (100 - (hasA ((y 5) lm.toNatClampNeg))))), .int (b2 (inR lm 0 (y 4 0 - 1))), .ref (b 30)]) (w2 := (wM ct b y)) (c2 := 0) (s2 := 0) C (c_X4_isIn l D ct first (-1) (100 - (hasA ((y 5) lm.toNatClampNeg)))) (va_cwS 3 C.w gX4_patch_X4_isIn rfl rfl rfl (by decide +kernel) ⟨Nat.le_of_ble_eq_true rfl, Nat.le_of_ble_eq_true rfl⟩) [] [0, 1, 2, 3, 4, 5, 6, 7, 8, 9, 10, 11, 12, 13, 14, 15, 16, 17, 18, 19, 20, 21] [0, 1, 2, 3, 4, 5, 6, 7, 8, 9, 10, 11, 12, 13, 14, 15, 16, 17, 18, 19, 20, 21] rfl rfl (by decide) (by decide) (by decide) rfl (by decide) dX4_patch_26 rfl rfl (Nat.le_of_ble_eq_true rfl) ⟨Nat.zero_le _, Nat.zero_le _⟩ rfl rfl rfl rfl ?_
    refine q_if_eq (tgt := 36) (pc2 := 32) C dX4_patch_29 (by decide) rfl (fun c29 => ?_) (fun c29 => ?_)
    · skip
      refine q_iconst (v := 0) (pc2 := 37) C dX4_patch_36 (by decide) rfl ?_
      refine q_eqi (y := (b2 (inR lm 0 (y 4 0 - 1) ∧ inR first (-1) (100 - hasA (y 5 lm.toNatClampNeg))))) ((b2_f (fun z : inR lm 0 (y 4 0 - 1) ∧ inR first (-1) (100 - hasA (y 5 lm.toNatClampNeg)) => absurd z.2 (b2_eq.mp c29))).symm) ?_
      exact hj37
    · skip
      refine q_iconst (v := 1) (pc2 := 33) C dX4_patch_32 (by decide) rfl ?_
      refine q_goto (pc2 := 37) C dX4_patch_33 (by decide) ?_
      refine q_eqi (y := (b2 (inR lm 0 (y 4 0 - 1) ∧ inR first (-1) (100 - hasA (y 5 lm.toNatClampNeg))))) ((b2_t (c := inR lm 0 (y 4 0 - 1) ∧ inR first (-1) (100 - hasA (y 5 lm.toNatClampNeg))) ⟨b2_ne.mp c9, b2_ne.mp c29⟩).symm) ?_
      exact hj37

set_option maxHeartbeats 4000000 in
set_option maxRecDepth 100000 in
theorem c_X4_gap (l : Launch) (D : va_G) (ct : Nat → ClassId) (b : Nat → Nat) (y : Nat → Nat → Int32) (n : Nat) (hn : y 4 0 = nI n) (hn10 : n ≤ 10) (many : Int32) : qM l yX4_gap wsX4_gap ({ frames := 2, cells := 0, slots := 0, locals := 45 }) D ct [.ref (b 30), .int many] (wM ct b y) (qD (some (.int (if T1 (inR many 1 100) = 0 then gapf (fun k => atM (set2 y 27 (fun _ => T1 (inR many 1 100))) n (nI k)) many else 0))) (wM ct b (if T1 (inR many 1 100) = 0 then (set2 y 27 (fun _ => T1 (inR many 1 100))) else (set2 y 27 (fun _ => T1 (inR many 1 100)))))) 0 0 := by
  refine q_start (ret := some .int) (lv := [(0, .ref (b 30)), (1, .int many)]) (by decide +kernel) rfl (Nat.le_of_ble_eq_true rfl) rfl ?_
  intro p e s m args below meth c A Q C hQ hnm
  refine q_aload_n (pc2 := 1) C 0 dX4_gap_0 rfl rfl rfl ?_
  refine q_iload_n (pc2 := 2) C 1 dX4_gap_1 rfl rfl rfl ?_
  refine q_iconst (v := 1) (pc2 := 3) C dX4_gap_2 (by decide) rfl ?_
  refine q_bipush (v := 100) (pc2 := 5) C dX4_gap_3 (by decide) rfl ?_
  refine q_cS (pc2 := 8) (As := [.int many, .int 1, .int 100]) (st := [.ref (b 30)]) (st2 := [.int (b2 (inR many 1 100)), .ref (b 30)]) (w2 := (wM ct b y)) (c2 := 0) (s2 := 0) C (c_X4_isIn l D ct many 1 100) (va_cwS 3 C.w gX4_gap_X4_isIn rfl rfl rfl (by decide +kernel) ⟨Nat.le_of_ble_eq_true rfl, Nat.le_of_ble_eq_true rfl⟩) [] [0, 1, 2, 3, 4, 5, 6, 7, 8, 9, 10, 11, 12, 13, 14, 15, 16, 17, 18, 19, 20, 21] [0, 1, 2, 3, 4, 5, 6, 7, 8, 9, 10, 11, 12, 13, 14, 15, 16, 17, 18, 19, 20, 21] rfl rfl (by decide) (by decide) (by decide) rfl (by decide) dX4_gap_5 rfl rfl (Nat.le_of_ble_eq_true rfl) ⟨Nat.zero_le _, Nat.zero_le _⟩ rfl rfl rfl rfl ?_
  refine q_cV (pc2 := 11) (As := [.int (b2 (inR many 1 100))]) (st := []) (st2 := [.int (b2 (inR many 1 100))]) (q0 := 0) (w2 := (wM ct b (set2 y 27 (fun _ => T1 (inR many 1 100))))) (c2 := 0) (s2 := 0) C (c_X4_may l D ct b y (b2 (inR many 1 100)) (b2_nar _)) (cwV 1 C.w gX4_gap_X4_may rfl rfl rfl (by decide +kernel) ⟨Nat.le_of_ble_eq_true rfl, Nat.le_of_ble_eq_true rfl⟩) rfl rfl [0, 1, 2, 3, 4, 5, 6, 7, 8, 9, 10, 11, 12, 13, 14, 15, 16, 17, 18, 19, 20, 21] [] [0, 1, 2, 3, 4, 5, 6, 7, 8, 9, 10, 11, 12, 13, 14, 15, 16, 17, 18, 19, 20, 21] rfl rfl (by decide) (by decide) (by decide) rfl (by decide) dX4_gap_8 rfl rfl (Nat.le_of_ble_eq_true rfl) ⟨Nat.zero_le _, Nat.zero_le _⟩ rfl rfl rfl rfl ?_
  refine q_if_ne (tgt := 16) (pc2 := 14) C dX4_gap_11 (by decide) rfl (fun c11 => ?_) (fun c11 => ?_)
  · skip
    have ht : T1 (inR many 1 100) = 0 := if_neg c11
    have hP := b2_ne.mp c11
    refine q_iconst (v := 0) (pc2 := 17) C dX4_gap_16 (by decide) rfl ?_
    refine q_istore_n (lv' := [(2, .int 0), (0, .ref (b 30)), (1, .int many)]) (pc2 := 18) C dX4_gap_17 rfl (by decide) rfl rfl ?_
    refine q_iconst (v := 0) (pc2 := 19) C dX4_gap_18 (by decide) rfl ?_
    refine q_istore_n (lv' := [(3, .int 0), (2, .int 0), (0, .ref (b 30)), (1, .int many)]) (pc2 := 20) C dX4_gap_19 rfl (by decide) rfl rfl ?_
    refine q_lv (lv' := [(3, .int 0), (2, .int 0), (0, .ref (b 30)), (1, .int many)]) [0, 1, 2, 3] rfl ?_
    refine (lp_up (P := fun i => (fndv (fun i => frun (fun k => atM (set2 y 27 (fun _ => T1 (inR many 1 100))) n (nI k)) (i + 1) = many) (fun i => nI i - many + 1) (100 - i) i = gapf (fun k => atM (set2 y 27 (fun _ => T1 (inR many 1 100))) n (nI k)) many) → Cf p l e ({ frames := 2, cells := 0, slots := 0, locals := 45 }) s m args below meth c D A 4 0 0 Q 20 [(3, .int (nI i)), (2, .int (frun (fun k => atM (set2 y 27 (fun _ => T1 (inR many 1 100))) n (nI k)) i)), (0, .ref (b 30)), (1, .int many)] [] (wM ct b (set2 y 27 (fun _ => T1 (inR many 1 100))))) (100) (fun i hi ihi => ?_) ?_ : (fndv (fun i => frun (fun k => atM (set2 y 27 (fun _ => T1 (inR many 1 100))) n (nI k)) (i + 1) = many) (fun i => nI i - many + 1) (100 - 0) 0 = gapf (fun k => atM (set2 y 27 (fun _ => T1 (inR many 1 100))) n (nI k)) many) → Cf p l e ({ frames := 2, cells := 0, slots := 0, locals := 45 }) s m args below meth c D A 4 0 0 Q 20 [(3, .int (nI 0)), (2, .int (frun (fun k => atM (set2 y 27 (fun _ => T1 (inR many 1 100))) n (nI k)) 0)), (0, .ref (b 30)), (1, .int many)] [] (wM ct b (set2 y 27 (fun _ => T1 (inR many 1 100))))) (rfl)
    · intro hyi
      refine q_iload_n (pc2 := 21) C 0 dX4_gap_20 rfl rfl rfl ?_
      refine q_bipush (v := 100) (pc2 := 23) C dX4_gap_21 (by decide) rfl ?_
      refine q_icmp_ge (tgt := 59) (pc2 := 26) C dX4_gap_23 (by decide) rfl (fun c23 => (q_absurd (a := 100) (b := i) c23 hi (by decide))) (fun _ => ?_)
      have hj41 : Cf p l e ({ frames := 2, cells := 0, slots := 0, locals := 45 }) s m args below meth c D A 4 0 0 Q 41 [(3, .int (nI i)), (2, .int (frun (fun k => atM (set2 y 27 (fun _ => T1 (inR many 1 100))) n (nI k)) i)), (0, .ref (b 30)), (1, .int many)] [.int (frun (fun k => atM (set2 y 27 (fun _ => T1 (inR many 1 100))) n (nI k)) (i + 1))] (wM ct b (set2 y 27 (fun _ => T1 (inR many 1 100)))) := by
        refine q_istore_n (lv' := [(2, .int (frun (fun k => atM (set2 y 27 (fun _ => T1 (inR many 1 100))) n (nI k)) (i + 1))), (3, .int (nI i)), (0, .ref (b 30)), (1, .int many)]) (pc2 := 42) C dX4_gap_41 rfl (by decide) rfl rfl ?_
        refine q_iload_n (pc2 := 43) C 0 dX4_gap_42 rfl rfl rfl ?_
        refine q_iload_n (pc2 := 44) C 3 dX4_gap_43 rfl rfl rfl ?_
        refine q_icmp_ne (tgt := 53) (pc2 := 47) C dX4_gap_44 (by decide) rfl (fun c44 => ?_) (fun c44 => ?_)
        · skip
          refine q_iinc (v := nI (i + 1)) (lv' := [(3, .int (nI (i + 1))), (2, .int (frun (fun k => atM (set2 y 27 (fun _ => T1 (inR many 1 100))) n (nI k)) (i + 1))), (0, .ref (b 30)), (1, .int many)]) (pc2 := 56) C 1 dX4_gap_53 rfl (nI_1 i) (by decide) rfl rfl ?_
          refine q_goto (pc2 := 20) C dX4_gap_56 (by decide) ?_
          refine q_lv (lv' := [(3, .int (nI (i + 1))), (2, .int (frun (fun k => atM (set2 y 27 (fun _ => T1 (inR many 1 100))) n (nI k)) (i + 1))), (0, .ref (b 30)), (1, .int many)]) [0, 1, 2, 3] rfl ?_
          exact ihi (fndv_no hyi hi c44)
        · skip
          refine q_iload_n (pc2 := 48) C 1 dX4_gap_47 rfl rfl rfl ?_
          refine q_iload_n (pc2 := 49) C 3 dX4_gap_48 rfl rfl rfl ?_
          refine q_isub (pc2 := 50) C dX4_gap_49 rfl rfl ?_
          refine q_iconst (v := 1) (pc2 := 51) C dX4_gap_50 (by decide) rfl ?_
          refine q_iadd (pc2 := 52) C dX4_gap_51 rfl rfl ?_
          exact q_zret C hQ rfl (rfl) (Nat.zero_le _) (Nat.zero_le _) dX4_gap_52 ⟨by rw [if_pos ht, fndv_yes hyi hi c44], by rw [if_pos ht]⟩
      refine q_aload_n (pc2 := 27) C 2 dX4_gap_26 rfl rfl rfl ?_
      refine q_iload_n (pc2 := 28) C 0 dX4_gap_27 rfl rfl rfl ?_
      refine q_cV (pc2 := 31) (As := [.int (nI i)]) (st := []) (st2 := [.int (atM (set2 y 27 (fun _ => T1 (inR many 1 100))) n (nI i))]) (q0 := 0) (w2 := (wM ct b (set2 y 27 (fun _ => T1 (inR many 1 100))))) (c2 := 0) (s2 := 0) C (c_X4_lampsAt l D ct b (set2 y 27 (fun _ => T1 (inR many 1 100))) n hn hn10 (nI i)) (cwV 1 C.w gX4_gap_X4_lampsAt rfl rfl rfl (by decide +kernel) ⟨Nat.le_of_ble_eq_true rfl, Nat.le_of_ble_eq_true rfl⟩) rfl rfl [0, 1, 2, 3, 4, 5, 6, 7, 8, 9, 10, 11, 12, 13, 14, 15, 16, 17, 18, 19, 20, 21] [] [0, 1, 2, 3, 4, 5, 6, 7, 8, 9, 10, 11, 12, 13, 14, 15, 16, 17, 18, 19, 20, 21] rfl rfl (by decide) (by decide) (by decide) rfl (by decide) dX4_gap_28 rfl rfl (Nat.le_of_ble_eq_true rfl) ⟨Nat.zero_le _, Nat.zero_le _⟩ rfl rfl rfl rfl ?_
      refine q_if_ne (tgt := 40) (pc2 := 34) C dX4_gap_31 (by decide) rfl (fun c31 => ?_) (fun c31 => ?_)
      · skip
        refine q_iconst (v := 0) (pc2 := 41) C dX4_gap_40 (by decide) rfl ?_
        refine q_eqi (y := (frun (fun k => atM (set2 y 27 (fun _ => T1 (inR many 1 100))) n (nI k)) (i + 1))) ((by simp only [frun]; rw [if_neg c31])) ?_
        exact hj41
      · skip
        refine q_iload_n (pc2 := 35) C 1 dX4_gap_34 rfl rfl rfl ?_
        refine q_iconst (v := 1) (pc2 := 36) C dX4_gap_35 (by decide) rfl ?_
        refine q_iadd (pc2 := 37) C dX4_gap_36 rfl rfl ?_
        refine q_goto (pc2 := 41) C dX4_gap_37 (by decide) ?_
        refine q_eqi (y := (frun (fun k => atM (set2 y 27 (fun _ => T1 (inR many 1 100))) n (nI k)) (i + 1))) ((by simp only [frun]; rw [if_pos c31])) ?_
        exact hj41
    · intro hyi
      refine q_iload_n (pc2 := 21) C 0 dX4_gap_20 rfl rfl rfl ?_
      refine q_bipush (v := 100) (pc2 := 23) C dX4_gap_21 (by decide) rfl ?_
      refine q_icmp_ge (tgt := 59) (pc2 := 26) C dX4_gap_23 (by decide) rfl (fun _ => ?_) (fun c23 => (absurd (nI_le (Nat.le_refl (100)) (by decide)) c23))
      refine q_iconst (v := (-1)) (pc2 := 60) C dX4_gap_59 (by decide) rfl ?_
      exact q_zret C hQ rfl (rfl) (Nat.zero_le _) (Nat.zero_le _) dX4_gap_60 ⟨by rw [if_pos ht, fndv_end hyi], by rw [if_pos ht]⟩
  · skip
    have ht0 : ¬ T1 (inR many 1 100) = 0 := by rw [show T1 (inR many 1 100) = 1 from if_pos c11]; decide
    refine q_iconst (v := 0) (pc2 := 15) C dX4_gap_14 (by decide) rfl ?_
    exact q_zret C hQ rfl (rfl) (Nat.zero_le _) (Nat.zero_le _) dX4_gap_15 ⟨by rw [if_neg ht0], by rw [if_neg ht0]⟩

set_option maxHeartbeats 4000000 in
set_option maxRecDepth 100000 in
theorem c_X4_plug (l : Launch) (D : va_G) (ct : Nat → ClassId) (b : Nat → Nat) (y : Nat → Nat → Int32) (n : Nat) (hn : y 4 0 = nI n) (hn10 : n ≤ 10) (lm circ : Int32) : qM l yX4_plug wsX4_plug ({ frames := 2, cells := 0, slots := 0, locals := 43 }) D ct [.ref (b 30), .int lm, .int circ] (wM ct b y) (qD (some (.int (if T1 (inR lm 0 (y 4 0 - 1) ∧ inR circ (-1) 3) = 0 then y 10 lm.toNatClampNeg else 0))) (wM ct b (if T1 (inR lm 0 (y 4 0 - 1) ∧ inR circ (-1) 3) = 0 then (set2 (set2 y 27 (fun _ => T1 (inR lm 0 (y 4 0 - 1) ∧ inR circ (-1) 3))) 10 (upd (y 10) lm.toNatClampNeg circ)) else (set2 y 27 (fun _ => T1 (inR lm 0 (y 4 0 - 1) ∧ inR circ (-1) 3)))))) 0 0 := by
  refine q_start (ret := some .int) (lv := [(0, .ref (b 30)), (1, .int lm), (2, .int circ)]) (by decide +kernel) rfl (Nat.le_of_ble_eq_true rfl) rfl ?_
  intro p e s m args below meth c A Q C hQ hnm
  have hT4 : ∀ w ∈ u_ws RX4 TX4 28, w ∈ wsX4_plug := by decide +kernel
  have f34 : (Cond.fieldLink RX4 34 "PlotPatchModel" "circuit" "[I").before args s = true := C.w _ (by decide +kernel)
  refine q_aload_n (pc2 := 1) C 0 dX4_plug_0 rfl rfl rfl ?_
  have hj23 : Cf p l e ({ frames := 2, cells := 0, slots := 0, locals := 43 }) s m args below meth c D A 4 0 0 Q 23 [(0, .ref (b 30)), (1, .int lm), (2, .int circ)] [.int (b2 (inR lm 0 (y 4 0 - 1) ∧ inR circ (-1) 3)), .ref (b 30)] (wM ct b y) := by
    refine q_cV (pc2 := 26) (As := [.int (b2 (inR lm 0 (y 4 0 - 1) ∧ inR circ (-1) 3))]) (st := []) (st2 := [.int (b2 (inR lm 0 (y 4 0 - 1) ∧ inR circ (-1) 3))]) (q0 := 0) (w2 := (wM ct b (set2 y 27 (fun _ => T1 (inR lm 0 (y 4 0 - 1) ∧ inR circ (-1) 3))))) (c2 := 0) (s2 := 0) C (c_X4_may l D ct b y (b2 (inR lm 0 (y 4 0 - 1) ∧ inR circ (-1) 3)) (b2_nar _)) (cwV 1 C.w gX4_plug_X4_may rfl rfl rfl (by decide +kernel) ⟨Nat.le_of_ble_eq_true rfl, Nat.le_of_ble_eq_true rfl⟩) rfl rfl [0, 1, 2, 3, 4, 5, 6, 7, 8, 9, 10, 11, 12, 13, 14, 15, 16, 17, 18, 19, 20, 21] [] [0, 1, 2, 3, 4, 5, 6, 7, 8, 9, 10, 11, 12, 13, 14, 15, 16, 17, 18, 19, 20, 21] rfl rfl (by decide) (by decide) (by decide) rfl (by decide) dX4_plug_23 rfl rfl (Nat.le_of_ble_eq_true rfl) ⟨Nat.zero_le _, Nat.zero_le _⟩ rfl rfl rfl rfl ?_
    refine q_if_ne (tgt := 31) (pc2 := 29) C dX4_plug_26 (by decide) rfl (fun c26 => ?_) (fun c26 => ?_)
    · skip
      have ht : T1 (inR lm 0 (y 4 0 - 1) ∧ inR circ (-1) 3) = 0 := if_neg c26
      have hP := b2_ne.mp c26
      have hL := idxN (k := n) (by have z := hP.1; rw [hn] at z; exact z) (by omega)
      refine q_aload_n (pc2 := 32) C 0 dX4_plug_31 rfl rfl rfl ?_
      refine q_get (q0 := 0) (k := 10) (v := .ref (b 10)) (pc2 := 35) C hT4 f34 (wM_g0 ct b (set2 y 27 (fun _ => T1 (inR lm 0 (y 4 0 - 1) ∧ inR circ (-1) 3)))) rfl (by decide) rfl rfl dX4_plug_32 rfl ?_
      refine q_iload_n (pc2 := 36) C 1 dX4_plug_35 rfl rfl rfl ?_
      refine q_iald (q0 := 9) (f := (y 10)) (pc2 := 37) C lm.toNatClampNeg (wM_g9 ct b (set2 y 27 (fun _ => T1 (inR lm 0 (y 4 0 - 1) ∧ inR circ (-1) 3)))) rfl (hL.2) (by have := hL.1; omega) (by decide) dX4_plug_36 rfl ?_
      refine q_istore_n (lv' := [(3, .int ((y 10) lm.toNatClampNeg)), (0, .ref (b 30)), (1, .int lm), (2, .int circ)]) (pc2 := 38) C dX4_plug_37 rfl (by decide) rfl rfl ?_
      refine q_aload_n (pc2 := 39) C 1 dX4_plug_38 rfl rfl rfl ?_
      refine q_get (q0 := 0) (k := 10) (v := .ref (b 10)) (pc2 := 42) C hT4 f34 (wM_g0 ct b (set2 y 27 (fun _ => T1 (inR lm 0 (y 4 0 - 1) ∧ inR circ (-1) 3)))) rfl (by decide) rfl rfl dX4_plug_39 rfl ?_
      refine q_iload_n (pc2 := 43) C 2 dX4_plug_42 rfl rfl rfl ?_
      refine q_iload_n (pc2 := 44) C 3 dX4_plug_43 rfl rfl rfl ?_
      refine q_iast (q0 := 9) (f := (y 10)) (ws' := (wM ct b (set2 (set2 y 27 (fun _ => T1 (inR lm 0 (y 4 0 - 1) ∧ inR circ (-1) 3))) 10 (upd (y 10) lm.toNatClampNeg circ)))) (pc2 := 45) C lm.toNatClampNeg (wM_g9 ct b (set2 y 27 (fun _ => T1 (inR lm 0 (y 4 0 - 1) ∧ inR circ (-1) 3)))) rfl (hL.2) (by have := hL.1; omega) (by decide) (wM_a9 ct b (set2 y 27 (fun _ => T1 (inR lm 0 (y 4 0 - 1) ∧ inR circ (-1) 3))) (upd (y 10) lm.toNatClampNeg circ)) dX4_plug_44 rfl ?_
      refine q_iload_n (pc2 := 46) C 0 dX4_plug_45 rfl rfl rfl ?_
      exact q_zret C hQ rfl (rfl) (Nat.zero_le _) (Nat.zero_le _) dX4_plug_46 ⟨by rw [if_pos ht], by rw [if_pos ht]⟩
    · skip
      have ht0 : ¬ T1 (inR lm 0 (y 4 0 - 1) ∧ inR circ (-1) 3) = 0 := by rw [show T1 (inR lm 0 (y 4 0 - 1) ∧ inR circ (-1) 3) = 1 from if_pos c26]; decide
      refine q_iconst (v := 0) (pc2 := 30) C dX4_plug_29 (by decide) rfl ?_
      exact q_zret C hQ rfl (rfl) (Nat.zero_le _) (Nat.zero_le _) dX4_plug_30 ⟨by rw [if_neg ht0], by rw [if_neg ht0]⟩
  refine q_aload_n (pc2 := 2) C 0 dX4_plug_1 rfl rfl rfl ?_
  refine q_iload_n (pc2 := 3) C 1 dX4_plug_2 rfl rfl rfl ?_
  refine q_cV (pc2 := 6) (As := [.int lm]) (st := [.ref (b 30)]) (st2 := [.int (b2 (inR lm 0 (y 4 0 - 1))), .ref (b 30)]) (q0 := 0) (w2 := (wM ct b y)) (c2 := 0) (s2 := 0) C (c_X4_isLamp l D ct b y lm) (cwV 1 C.w gX4_plug_X4_isLamp rfl rfl rfl (by decide +kernel) ⟨Nat.le_of_ble_eq_true rfl, Nat.le_of_ble_eq_true rfl⟩) rfl rfl [0, 1, 2, 3, 4, 5, 6, 7, 8, 9, 10, 11, 12, 13, 14, 15, 16, 17, 18, 19, 20, 21] [] [0, 1, 2, 3, 4, 5, 6, 7, 8, 9, 10, 11, 12, 13, 14, 15, 16, 17, 18, 19, 20, 21] rfl rfl (by decide) (by decide) (by decide) rfl (by decide) dX4_plug_3 rfl rfl (Nat.le_of_ble_eq_true rfl) ⟨Nat.zero_le _, Nat.zero_le _⟩ rfl rfl rfl rfl ?_
  refine q_if_eq (tgt := 22) (pc2 := 9) C dX4_plug_6 (by decide) rfl (fun c6 => ?_) (fun c6 => ?_)
  · skip
    refine q_iconst (v := 0) (pc2 := 23) C dX4_plug_22 (by decide) rfl ?_
    refine q_eqi (y := (b2 (inR lm 0 (y 4 0 - 1) ∧ inR circ (-1) 3))) ((b2_f (fun z : inR lm 0 (y 4 0 - 1) ∧ inR circ (-1) 3 => absurd z.1 (b2_eq.mp c6))).symm) ?_
    exact hj23
  · skip
    refine q_iload_n (pc2 := 10) C 2 dX4_plug_9 rfl rfl rfl ?_
    refine q_iconst (v := (-1)) (pc2 := 11) C dX4_plug_10 (by decide) rfl ?_
    refine q_iconst (v := 3) (pc2 := 12) C dX4_plug_11 (by decide) rfl ?_
    refine q_cS (pc2 := 15) (As := [.int circ, .int (-1), .int 3]) (st := [.ref (b 30)]) (st2 := [.int (b2 (inR circ (-1) 3)), .ref (b 30)]) (w2 := (wM ct b y)) (c2 := 0) (s2 := 0) C (c_X4_isIn l D ct circ (-1) 3) (va_cwS 3 C.w gX4_plug_X4_isIn rfl rfl rfl (by decide +kernel) ⟨Nat.le_of_ble_eq_true rfl, Nat.le_of_ble_eq_true rfl⟩) [] [0, 1, 2, 3, 4, 5, 6, 7, 8, 9, 10, 11, 12, 13, 14, 15, 16, 17, 18, 19, 20, 21] [0, 1, 2, 3, 4, 5, 6, 7, 8, 9, 10, 11, 12, 13, 14, 15, 16, 17, 18, 19, 20, 21] rfl rfl (by decide) (by decide) (by decide) rfl (by decide) dX4_plug_12 rfl rfl (Nat.le_of_ble_eq_true rfl) ⟨Nat.zero_le _, Nat.zero_le _⟩ rfl rfl rfl rfl ?_
    refine q_if_eq (tgt := 22) (pc2 := 18) C dX4_plug_15 (by decide) rfl (fun c15 => ?_) (fun c15 => ?_)
    · skip
      refine q_iconst (v := 0) (pc2 := 23) C dX4_plug_22 (by decide) rfl ?_
      refine q_eqi (y := (b2 (inR lm 0 (y 4 0 - 1) ∧ inR circ (-1) 3))) ((b2_f (fun z : inR lm 0 (y 4 0 - 1) ∧ inR circ (-1) 3 => absurd z.2 (b2_eq.mp c15))).symm) ?_
      exact hj23
    · skip
      refine q_iconst (v := 1) (pc2 := 19) C dX4_plug_18 (by decide) rfl ?_
      refine q_goto (pc2 := 23) C dX4_plug_19 (by decide) ?_
      refine q_eqi (y := (b2 (inR lm 0 (y 4 0 - 1) ∧ inR circ (-1) 3))) ((b2_t (c := inR lm 0 (y 4 0 - 1) ∧ inR circ (-1) 3) ⟨b2_ne.mp c6, b2_ne.mp c15⟩).symm) ?_
      exact hj23

set_option maxHeartbeats 4000000 in
set_option maxRecDepth 100000 in
theorem c_X4_quotient (l : Launch) (D : va_G) (ct : Nat → ClassId) (u v : Int32) (hne : ¬ v = 0) : qM l yX4_quotient wsX4_quotient ({ frames := 0, cells := 0, slots := 0, locals := 0 }) D ct [.int u, .int v] [] (qD (some (.int (qtn u v))) []) 0 0 := by
  refine q_start (ret := some .int) (lv := [(0, .int u), (1, .int v)]) (by decide +kernel) rfl (Nat.le_of_ble_eq_true rfl) rfl ?_
  intro p e s m args below meth c A Q C hQ hnm
  refine q_iload_n (pc2 := 1) C 0 dX4_quotient_0 rfl rfl rfl ?_
  refine q_iload_n (pc2 := 2) C 1 dX4_quotient_1 rfl rfl rfl ?_
  refine q_idiv (pc2 := 3) C dX4_quotient_2 (hne) rfl rfl ?_
  refine q_istore_n (lv' := [(2, .int (u / v)), (0, .int u), (1, .int v)]) (pc2 := 4) C dX4_quotient_3 rfl (by decide) rfl rfl ?_
  refine q_iload_n (pc2 := 5) C 0 dX4_quotient_4 rfl rfl rfl ?_
  refine q_iload_n (pc2 := 6) C 2 dX4_quotient_5 rfl rfl rfl ?_
  refine q_imul (pc2 := 7) C dX4_quotient_6 rfl rfl ?_
  refine q_iload_n (pc2 := 8) C 1 dX4_quotient_7 rfl rfl rfl ?_
  refine q_icmp_le (tgt := 17) (pc2 := 11) C dX4_quotient_8 (by decide) rfl (fun c8 => ?_) (fun c8 => ?_)
  · skip
    refine q_iload_n (pc2 := 18) C 0 dX4_quotient_17 rfl rfl rfl ?_
    exact q_zret C hQ rfl (rfl) (Nat.zero_le _) (Nat.zero_le _) dX4_quotient_18 ⟨by unfold qtn; rw [if_pos c8], rfl⟩
  · skip
    refine q_iload_n (pc2 := 12) C 0 dX4_quotient_11 rfl rfl rfl ?_
    refine q_iconst (v := 1) (pc2 := 13) C dX4_quotient_12 (by decide) rfl ?_
    refine q_isub (pc2 := 14) C dX4_quotient_13 rfl rfl ?_
    refine q_goto (pc2 := 18) C dX4_quotient_14 (by decide) ?_
    exact q_zret C hQ rfl (rfl) (Nat.zero_le _) (Nat.zero_le _) dX4_quotient_18 ⟨by unfold qtn; rw [if_neg (Int32.not_le.mpr (Int32.not_le.mp c8))], rfl⟩

set_option maxHeartbeats 4000000 in
set_option maxRecDepth 100000 in
theorem c_X4_wantedOf (l : Launch) (D : va_G) (ct : Nat → ClassId) (b : Nat → Nat) (y : Nat → Nat → Int32) (lm : Int32) (i : Nat) (hlm : lm = nI i) (hi : i < 10) (hok : wOk y i) : qM l yX4_wantedOf wsX4_wantedOf ({ frames := 1, cells := 0, slots := 0, locals := 22 }) D ct [.ref (b 30), .int lm] (wM ct b y) (qD (some (.int (wlM y i))) (wM ct b y)) 0 0 := by
  refine q_start (ret := some .int) (lv := [(0, .ref (b 30)), (1, .int lm)]) (by decide +kernel) rfl (Nat.le_of_ble_eq_true rfl) rfl ?_
  intro p e s m args below meth c A Q C hQ hnm
  have hT4 : ∀ w ∈ u_ws RX4 TX4 28, w ∈ wsX4_wantedOf := by decide +kernel
  have f139 : (Cond.fieldLink RX4 139 "PlotPatchModel" "time" "I").before args s = true := C.w _ (by decide +kernel)
  have f50 : (Cond.fieldLink RX4 50 "PlotPatchModel" "since" "[I").before args s = true := C.w _ (by decide +kernel)
  have f53 : (Cond.fieldLink RX4 53 "PlotPatchModel" "fading" "[I").before args s = true := C.w _ (by decide +kernel)
  have f47 : (Cond.fieldLink RX4 47 "PlotPatchModel" "to" "[I").before args s = true := C.w _ (by decide +kernel)
  have f44 : (Cond.fieldLink RX4 44 "PlotPatchModel" "from" "[I").before args s = true := C.w _ (by decide +kernel)
  have f56 : (Cond.fieldLink RX4 56 "PlotPatchModel" "by" "[I").before args s = true := C.w _ (by decide +kernel)
  refine q_aload_n (pc2 := 1) C 0 dX4_wantedOf_0 rfl rfl rfl ?_
  refine q_get (q0 := 0) (k := 25) (v := .int (y 25 0)) (pc2 := 4) C hT4 f139 (wM_g0 ct b y) rfl (by decide) rfl rfl dX4_wantedOf_1 rfl ?_
  refine q_aload_n (pc2 := 5) C 0 dX4_wantedOf_4 rfl rfl rfl ?_
  refine q_get (q0 := 0) (k := 15) (v := .ref (b 15)) (pc2 := 8) C hT4 f50 (wM_g0 ct b y) rfl (by decide) rfl rfl dX4_wantedOf_5 rfl ?_
  refine q_iload_n (pc2 := 9) C 1 dX4_wantedOf_8 rfl rfl rfl ?_
  refine q_iald (q0 := 14) (f := (y 15)) (pc2 := 10) C i (wM_g14 ct b y) rfl (hlm) (hi) (by decide) dX4_wantedOf_9 rfl ?_
  refine q_isub (pc2 := 11) C dX4_wantedOf_10 rfl rfl ?_
  refine q_istore_n (lv' := [(2, .int ((y 25 0) - ((y 15) i))), (0, .ref (b 30)), (1, .int lm)]) (pc2 := 12) C dX4_wantedOf_11 rfl (by decide) rfl rfl ?_
  refine q_aload_n (pc2 := 13) C 1 dX4_wantedOf_12 rfl rfl rfl ?_
  refine q_get (q0 := 0) (k := 16) (v := .ref (b 16)) (pc2 := 16) C hT4 f53 (wM_g0 ct b y) rfl (by decide) rfl rfl dX4_wantedOf_13 rfl ?_
  refine q_iload_n (pc2 := 17) C 2 dX4_wantedOf_16 rfl rfl rfl ?_
  refine q_iald (q0 := 15) (f := (y 16)) (pc2 := 18) C i (wM_g15 ct b y) rfl (hlm) (hi) (by decide) dX4_wantedOf_17 rfl ?_
  refine q_istore_n (lv' := [(3, .int ((y 16) i)), (2, .int ((y 25 0) - ((y 15) i))), (0, .ref (b 30)), (1, .int lm)]) (pc2 := 19) C dX4_wantedOf_18 rfl (by decide) rfl rfl ?_
  refine q_iload_n (pc2 := 20) C 1 dX4_wantedOf_19 rfl rfl rfl ?_
  refine q_iload_n (pc2 := 21) C 0 dX4_wantedOf_20 rfl rfl rfl ?_
  refine q_icmp_lt (tgt := 31) (pc2 := 24) C dX4_wantedOf_21 (by decide) rfl (fun c21 => ?_) (fun c21 => ?_)
  · skip
    refine q_aload_n (pc2 := 32) C 2 dX4_wantedOf_31 rfl rfl rfl ?_
    refine q_get (q0 := 0) (k := 14) (v := .ref (b 14)) (pc2 := 35) C hT4 f47 (wM_g0 ct b y) rfl (by decide) rfl rfl dX4_wantedOf_32 rfl ?_
    refine q_iload_n (pc2 := 36) C 3 dX4_wantedOf_35 rfl rfl rfl ?_
    refine q_iald (q0 := 13) (f := (y 14)) (pc2 := 37) C i (wM_g13 ct b y) rfl (hlm) (hi) (by decide) dX4_wantedOf_36 rfl ?_
    refine q_aload_n (pc2 := 38) C 2 dX4_wantedOf_37 rfl rfl rfl ?_
    refine q_get (q0 := 0) (k := 13) (v := .ref (b 13)) (pc2 := 41) C hT4 f44 (wM_g0 ct b y) rfl (by decide) rfl rfl dX4_wantedOf_38 rfl ?_
    refine q_iload_n (pc2 := 42) C 3 dX4_wantedOf_41 rfl rfl rfl ?_
    refine q_iald (q0 := 12) (f := (y 13)) (pc2 := 43) C i (wM_g12 ct b y) rfl (hlm) (hi) (by decide) dX4_wantedOf_42 rfl ?_
    refine q_isub (pc2 := 44) C dX4_wantedOf_43 rfl rfl ?_
    refine q_istore (lv' := [(4, .int (((y 14) i) - ((y 13) i))), (3, .int ((y 16) i)), (2, .int ((y 25 0) - ((y 15) i))), (0, .ref (b 30)), (1, .int lm)]) (pc2 := 46) C dX4_wantedOf_44 (by decide) rfl rfl ?_
    refine q_aload_n (pc2 := 47) C 3 dX4_wantedOf_46 rfl rfl rfl ?_
    refine q_get (q0 := 0) (k := 17) (v := .ref (b 17)) (pc2 := 50) C hT4 f56 (wM_g0 ct b y) rfl (by decide) rfl rfl dX4_wantedOf_47 rfl ?_
    refine q_iload_n (pc2 := 51) C 4 dX4_wantedOf_50 rfl rfl rfl ?_
    refine q_iald (q0 := 16) (f := (y 17)) (pc2 := 52) C i (wM_g16 ct b y) rfl (hlm) (hi) (by decide) dX4_wantedOf_51 rfl ?_
    refine q_if_ne (tgt := 71) (pc2 := 55) C dX4_wantedOf_52 (by decide) rfl (fun c52 => ?_) (fun c52 => ?_)
    · skip
      refine q_aload_n (pc2 := 72) C 3 dX4_wantedOf_71 rfl rfl rfl ?_
      refine q_get (q0 := 0) (k := 17) (v := .ref (b 17)) (pc2 := 75) C hT4 f56 (wM_g0 ct b y) rfl (by decide) rfl rfl dX4_wantedOf_72 rfl ?_
      refine q_iload_n (pc2 := 76) C 4 dX4_wantedOf_75 rfl rfl rfl ?_
      refine q_iald (q0 := 16) (f := (y 17)) (pc2 := 77) C i (wM_g16 ct b y) rfl (hlm) (hi) (by decide) dX4_wantedOf_76 rfl ?_
      refine q_iconst (v := 1) (pc2 := 78) C dX4_wantedOf_77 (by decide) rfl ?_
      refine q_icmp_ne (tgt := 103) (pc2 := 81) C dX4_wantedOf_78 (by decide) rfl (fun c78 => ?_) (fun c78 => ?_)
      · skip
        refine q_aload_n (pc2 := 104) C 3 dX4_wantedOf_103 rfl rfl rfl ?_
        refine q_get (q0 := 0) (k := 13) (v := .ref (b 13)) (pc2 := 107) C hT4 f44 (wM_g0 ct b y) rfl (by decide) rfl rfl dX4_wantedOf_104 rfl ?_
        refine q_iload_n (pc2 := 108) C 4 dX4_wantedOf_107 rfl rfl rfl ?_
        refine q_iald (q0 := 12) (f := (y 13)) (pc2 := 109) C i (wM_g12 ct b y) rfl (hlm) (hi) (by decide) dX4_wantedOf_108 rfl ?_
        exact q_zret C hQ rfl (rfl) (Nat.zero_le _) (Nat.zero_le _) dX4_wantedOf_109 ⟨by unfold wlM; rw [if_neg (Int32.not_le.mpr c21), if_neg c52, if_neg c78], rfl⟩
      · skip
        refine q_aload_n (pc2 := 82) C 3 dX4_wantedOf_81 rfl rfl rfl ?_
        refine q_get (q0 := 0) (k := 13) (v := .ref (b 13)) (pc2 := 85) C hT4 f44 (wM_g0 ct b y) rfl (by decide) rfl rfl dX4_wantedOf_82 rfl ?_
        refine q_iload_n (pc2 := 86) C 4 dX4_wantedOf_85 rfl rfl rfl ?_
        refine q_iald (q0 := 12) (f := (y 13)) (pc2 := 87) C i (wM_g12 ct b y) rfl (hlm) (hi) (by decide) dX4_wantedOf_86 rfl ?_
        refine q_iload (pc2 := 89) C 0 dX4_wantedOf_87 rfl rfl ?_
        refine q_iload_n (pc2 := 90) C 2 dX4_wantedOf_89 rfl rfl rfl ?_
        refine q_imul (pc2 := 91) C dX4_wantedOf_90 rfl rfl ?_
        refine q_iload_n (pc2 := 92) C 2 dX4_wantedOf_91 rfl rfl rfl ?_
        refine q_imul (pc2 := 93) C dX4_wantedOf_92 rfl rfl ?_
        refine q_iload_n (pc2 := 94) C 1 dX4_wantedOf_93 rfl rfl rfl ?_
        refine q_iload_n (pc2 := 95) C 1 dX4_wantedOf_94 rfl rfl rfl ?_
        refine q_imul (pc2 := 96) C dX4_wantedOf_95 rfl rfl ?_
        refine q_cS (pc2 := 99) (As := [.int (((((y 14) i) - ((y 13) i)) * ((y 25 0) - ((y 15) i))) * ((y 25 0) - ((y 15) i))), .int (((y 16) i) * ((y 16) i))]) (st := [.int ((y 13) i)]) (st2 := [.int (qtn (((((y 14) i) - ((y 13) i)) * ((y 25 0) - ((y 15) i))) * ((y 25 0) - ((y 15) i))) (((y 16) i) * ((y 16) i))), .int ((y 13) i)]) (w2 := (wM ct b y)) (c2 := 0) (s2 := 0) C (c_X4_quotient l D ct (((((y 14) i) - ((y 13) i)) * ((y 25 0) - ((y 15) i))) * ((y 25 0) - ((y 15) i))) (((y 16) i) * ((y 16) i)) ((hok (Int32.not_le.mpr c21)).2)) (va_cwS 2 C.w gX4_wantedOf_X4_quotient rfl rfl rfl (by decide +kernel) ⟨Nat.le_of_ble_eq_true rfl, Nat.le_of_ble_eq_true rfl⟩) [] [0, 1, 2, 3, 4, 5, 6, 7, 8, 9, 10, 11, 12, 13, 14, 15, 16, 17, 18, 19, 20, 21] [0, 1, 2, 3, 4, 5, 6, 7, 8, 9, 10, 11, 12, 13, 14, 15, 16, 17, 18, 19, 20, 21] rfl rfl (by decide) (by decide) (by decide) rfl (by decide) dX4_wantedOf_96 rfl rfl (Nat.le_of_ble_eq_true rfl) ⟨Nat.zero_le _, Nat.zero_le _⟩ rfl rfl rfl rfl ?_
        refine q_iadd (pc2 := 100) C dX4_wantedOf_99 rfl rfl ?_
        refine q_goto (pc2 := 109) C dX4_wantedOf_100 (by decide) ?_
        exact q_zret C hQ rfl (rfl) (Nat.zero_le _) (Nat.zero_le _) dX4_wantedOf_109 ⟨by unfold wlM; rw [if_neg (Int32.not_le.mpr c21), if_neg c52, if_pos c78], rfl⟩
    · skip
      refine q_aload_n (pc2 := 56) C 3 dX4_wantedOf_55 rfl rfl rfl ?_
      refine q_get (q0 := 0) (k := 13) (v := .ref (b 13)) (pc2 := 59) C hT4 f44 (wM_g0 ct b y) rfl (by decide) rfl rfl dX4_wantedOf_56 rfl ?_
      refine q_iload_n (pc2 := 60) C 4 dX4_wantedOf_59 rfl rfl rfl ?_
      refine q_iald (q0 := 12) (f := (y 13)) (pc2 := 61) C i (wM_g12 ct b y) rfl (hlm) (hi) (by decide) dX4_wantedOf_60 rfl ?_
      refine q_iload (pc2 := 63) C 0 dX4_wantedOf_61 rfl rfl ?_
      refine q_iload_n (pc2 := 64) C 2 dX4_wantedOf_63 rfl rfl rfl ?_
      refine q_imul (pc2 := 65) C dX4_wantedOf_64 rfl rfl ?_
      refine q_iload_n (pc2 := 66) C 1 dX4_wantedOf_65 rfl rfl rfl ?_
      refine q_cS (pc2 := 69) (As := [.int ((((y 14) i) - ((y 13) i)) * ((y 25 0) - ((y 15) i))), .int ((y 16) i)]) (st := [.int ((y 13) i)]) (st2 := [.int (qtn ((((y 14) i) - ((y 13) i)) * ((y 25 0) - ((y 15) i))) ((y 16) i)), .int ((y 13) i)]) (w2 := (wM ct b y)) (c2 := 0) (s2 := 0) C (c_X4_quotient l D ct ((((y 14) i) - ((y 13) i)) * ((y 25 0) - ((y 15) i))) ((y 16) i) ((hok (Int32.not_le.mpr c21)).1)) (va_cwS 2 C.w gX4_wantedOf_X4_quotient rfl rfl rfl (by decide +kernel) ⟨Nat.le_of_ble_eq_true rfl, Nat.le_of_ble_eq_true rfl⟩) [] [0, 1, 2, 3, 4, 5, 6, 7, 8, 9, 10, 11, 12, 13, 14, 15, 16, 17, 18, 19, 20, 21] [0, 1, 2, 3, 4, 5, 6, 7, 8, 9, 10, 11, 12, 13, 14, 15, 16, 17, 18, 19, 20, 21] rfl rfl (by decide) (by decide) (by decide) rfl (by decide) dX4_wantedOf_66 rfl rfl (Nat.le_of_ble_eq_true rfl) ⟨Nat.zero_le _, Nat.zero_le _⟩ rfl rfl rfl rfl ?_
      refine q_iadd (pc2 := 70) C dX4_wantedOf_69 rfl rfl ?_
      exact q_zret C hQ rfl (rfl) (Nat.zero_le _) (Nat.zero_le _) dX4_wantedOf_70 ⟨by unfold wlM; rw [if_neg (Int32.not_le.mpr c21), if_pos c52], rfl⟩
  · skip
    refine q_aload_n (pc2 := 25) C 2 dX4_wantedOf_24 rfl rfl rfl ?_
    refine q_get (q0 := 0) (k := 14) (v := .ref (b 14)) (pc2 := 28) C hT4 f47 (wM_g0 ct b y) rfl (by decide) rfl rfl dX4_wantedOf_25 rfl ?_
    refine q_iload_n (pc2 := 29) C 3 dX4_wantedOf_28 rfl rfl rfl ?_
    refine q_iald (q0 := 13) (f := (y 14)) (pc2 := 30) C i (wM_g13 ct b y) rfl (hlm) (hi) (by decide) dX4_wantedOf_29 rfl ?_
    exact q_zret C hQ rfl (rfl) (Nat.zero_le _) (Nat.zero_le _) dX4_wantedOf_30 ⟨by unfold wlM; rw [if_pos (Int32.not_lt.mp c21)], rfl⟩

set_option maxHeartbeats 4000000 in
set_option maxRecDepth 100000 in
theorem c_X4_levelOf (l : Launch) (D : va_G) (ct : Nat → ClassId) (b : Nat → Nat) (y : Nat → Nat → Int32) (lm : Int32) (i : Nat) (hlm : lm = nI i) (hi : i < 10) (hok : wOk y i) : qM l yX4_levelOf wsX4_levelOf ({ frames := 2, cells := 0, slots := 0, locals := 46 }) D ct [.ref (b 30), .int lm] (wM ct b y) (qD (some (.int (lvM y i))) (wM ct b y)) 0 0 := by
  refine q_start (ret := some .int) (lv := [(0, .ref (b 30)), (1, .int lm)]) (by decide +kernel) rfl (Nat.le_of_ble_eq_true rfl) rfl ?_
  intro p e s m args below meth c A Q C hQ hnm
  have hT4 : ∀ w ∈ u_ws RX4 TX4 28, w ∈ wsX4_levelOf := by decide +kernel
  have f25 : (Cond.fieldLink RX4 25 "PlotPatchModel" "bar" "[I").before args s = true := C.w _ (by decide +kernel)
  have f37 : (Cond.fieldLink RX4 37 "PlotPatchModel" "isDead" "[Z").before args s = true := C.w _ (by decide +kernel)
  refine q_aload_n (pc2 := 1) C 0 dX4_levelOf_0 rfl rfl rfl ?_
  refine q_get (q0 := 0) (k := 7) (v := .ref (b 7)) (pc2 := 4) C hT4 f25 (wM_g0 ct b y) rfl (by decide) rfl rfl dX4_levelOf_1 rfl ?_
  refine q_iload_n (pc2 := 5) C 1 dX4_levelOf_4 rfl rfl rfl ?_
  refine q_iald (q0 := 6) (f := (y 7)) (pc2 := 6) C i (wM_g6 ct b y) rfl (hlm) (hi) (by decide) dX4_levelOf_5 rfl ?_
  refine q_iconst (v := (-1)) (pc2 := 7) C dX4_levelOf_6 (by decide) rfl ?_
  refine q_icmp_eq (tgt := 27) (pc2 := 10) C dX4_levelOf_7 (by decide) rfl (fun c7 => ?_) (fun c7 => ?_)
  · skip
    refine q_iconst (v := 0) (pc2 := 28) C dX4_levelOf_27 (by decide) rfl ?_
    exact q_zret C hQ rfl (rfl) (Nat.zero_le _) (Nat.zero_le _) dX4_levelOf_28 ⟨by unfold lvM; rw [if_neg (fun z => z c7)], rfl⟩
  · skip
    refine q_aload_n (pc2 := 11) C 0 dX4_levelOf_10 rfl rfl rfl ?_
    refine q_get (q0 := 0) (k := 11) (v := .ref (b 11)) (pc2 := 14) C hT4 f37 (wM_g0 ct b y) rfl (by decide) rfl rfl dX4_levelOf_11 rfl ?_
    refine q_iload_n (pc2 := 15) C 1 dX4_levelOf_14 rfl rfl rfl ?_
    refine q_zald (q0 := 10) (f := (y 11)) (pc2 := 16) C i (wM_g10 ct b y) rfl (hlm) (hi) (by decide) dX4_levelOf_15 rfl ?_
    refine q_if_ne (tgt := 27) (pc2 := 19) C dX4_levelOf_16 (by decide) rfl (fun c16 => ?_) (fun c16 => ?_)
    · skip
      refine q_iconst (v := 0) (pc2 := 28) C dX4_levelOf_27 (by decide) rfl ?_
      exact q_zret C hQ rfl (rfl) (Nat.zero_le _) (Nat.zero_le _) dX4_levelOf_28 ⟨by unfold lvM; rw [if_pos c7, if_neg c16], rfl⟩
    · skip
      refine q_aload_n (pc2 := 20) C 0 dX4_levelOf_19 rfl rfl rfl ?_
      refine q_iload_n (pc2 := 21) C 1 dX4_levelOf_20 rfl rfl rfl ?_
      refine q_cV (pc2 := 24) (As := [.int lm]) (st := []) (st2 := [.int (wlM y i)]) (q0 := 0) (w2 := (wM ct b y)) (c2 := 0) (s2 := 0) C (c_X4_wantedOf l D ct b y lm i (hlm) (hi) (hok)) (cwV 1 C.w gX4_levelOf_X4_wantedOf rfl rfl rfl (by decide +kernel) ⟨Nat.le_of_ble_eq_true rfl, Nat.le_of_ble_eq_true rfl⟩) rfl rfl [0, 1, 2, 3, 4, 5, 6, 7, 8, 9, 10, 11, 12, 13, 14, 15, 16, 17, 18, 19, 20, 21] [] [0, 1, 2, 3, 4, 5, 6, 7, 8, 9, 10, 11, 12, 13, 14, 15, 16, 17, 18, 19, 20, 21] rfl rfl (by decide) (by decide) (by decide) rfl (by decide) dX4_levelOf_21 rfl rfl (Nat.le_of_ble_eq_true rfl) ⟨Nat.zero_le _, Nat.zero_le _⟩ rfl rfl rfl rfl ?_
      refine q_goto (pc2 := 28) C dX4_levelOf_24 (by decide) ?_
      exact q_zret C hQ rfl (rfl) (Nat.zero_le _) (Nat.zero_le _) dX4_levelOf_28 ⟨by unfold lvM; rw [if_pos c7, if_pos c16], rfl⟩
