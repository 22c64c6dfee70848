/-! the reference: to the other house -/
def farT (z : Nat → Nat → Int32) (k p : Nat) : Int32 := if nI p < z 8 k then z 8 k - nI p else nI p - z 8 k
def bsf (z : Nat → Nat → Int32) (n h k : Nat) (w : Int32) : Nat → Int32 × Int32
  | 0 => (-1, 1000)
  | p + 1 => if farT z k p < (bsf z n h k w p).2 ∧ canM z n h (nI k) w (nI p) then (nI p, farT z k p) else bsf z n h k w p
def bestM (z : Nat → Nat → Int32) (n h k : Nat) (w : Int32) : Int32 := if inR w 0 (z 1 h - 1) then (bsf z n h k w ((z 2 (4 * h + w.toNatClampNeg)).toNatClampNeg + 1)).1 else -1
def trm0 (y : Nat → Nat → Int32) (n h : Nat) : Nat → Nat → Int32 := set2 (set2 (set2 (set2 y 27 (fun _ => 0)) 0 (fun _ => nI h)) 26 (fun k => if k < n then y 7 k else y 26 k)) 7 (fun k => if k < n then -1 else y 7 k)
def trM (y : Nat → Nat → Int32) (n h : Nat) : Nat → (Nat → Int32) × (Nat → Int32) × Int32
  | 0 => (y 7, y 8, 0)
  | k + 1 =>
    if y 26 k = -1 then trM y n h k else
      (if bestM (set2 (set2 y 7 (trM y n h k).1) 8 (trM y n h k).2.1) n h k (y 26 k) = -1 then (trM y n h k).1 else upd (trM y n h k).1 k (y 26 k),
       if bestM (set2 (set2 y 7 (trM y n h k).1) 8 (trM y n h k).2.1) n h k (y 26 k) = -1 then (trM y n h k).2.1 else upd (trM y n h k).2.1 k (bestM (set2 (set2 y 7 (trM y n h k).1) 8 (trM y n h k).2.1) n h k (y 26 k)),
       (trM y n h k).2.2 + if bestM (set2 (set2 y 7 (trM y n h k).1) 8 (trM y n h k).2.1) n h k (y 26 k) = -1 then 1 else 0)

set_option maxHeartbeats 4000000 in
set_option maxRecDepth 100000 in
theorem c_X4_tour (l : Launch) (D : va_G) (ct : Nat → ClassId) (b : Nat → Nat) (y : Nat → Nat → Int32) (n : Nat) (hn : y 4 0 = nI n) (hn10 : n ≤ 10) (h : Nat) (hh : y 0 0 = nI h) (hlt : h < 2) (kb : Nat) (hkb : y 1 (1 - h) = nI kb) (hkb4 : kb ≤ 4) (hlen : ∀ j, j < 8 → ∃ ll, ll ≤ 100 ∧ y 2 j = nI ll) : qM l yX4_tour wsX4_tour ({ frames := 3, cells := 0, slots := 0, locals := 69 }) D ct [.ref (b 30)] (wM ct b y) (qD (some (.int (trM (trm0 y n (1 - h)) n (1 - h) n).2.2)) (wM ct b (set2 (set2 (trm0 y n (1 - h)) 7 (trM (trm0 y n (1 - h)) n (1 - h) n).1) 8 (trM (trm0 y n (1 - h)) n (1 - h) n).2.1))) 0 0 := by
  refine q_start (ret := some .int) (lv := [(0, .ref (b 30))]) (by decide +kernel) rfl (Nat.le_of_ble_eq_true rfl) rfl ?_
  intro p0 e s m args below meth c A Q C hQ hnm
  have hT4 : ∀ w ∈ u_ws RX4 TX4 28, w ∈ wsX4_tour := by decide +kernel
  have f74 : (Cond.fieldLink RX4 74 "PlotPatchModel" "thrown" "I").before args s = true := C.w _ (by decide +kernel)
  have f85 : (Cond.fieldLink RX4 85 "PlotPatchModel" "house" "I").before args s = true := C.w _ (by decide +kernel)
  have f78 : (Cond.fieldLink RX4 78 "PlotPatchModel" "lamps" "I").before args s = true := C.w _ (by decide +kernel)
  have f71 : (Cond.fieldLink RX4 71 "PlotPatchModel" "wasOn" "[I").before args s = true := C.w _ (by decide +kernel)
  have f25 : (Cond.fieldLink RX4 25 "PlotPatchModel" "bar" "[I").before args s = true := C.w _ (by decide +kernel)
  have f28 : (Cond.fieldLink RX4 28 "PlotPatchModel" "place" "[I").before args s = true := C.w _ (by decide +kernel)
  have f13 : (Cond.fieldLink RX4 13 "PlotPatchModel" "length" "[I").before args s = true := C.w _ (by decide +kernel)
  refine q_aload_n (pc2 := 1) C 0 dX4_tour_0 rfl rfl rfl ?_
  refine q_iconst (v := 0) (pc2 := 2) C dX4_tour_1 (by decide) rfl ?_
  refine q_put (q0 := 0) (k := 27) (ty := .int) (ws' := (wM ct b (set2 y 27 (fun _ => 0)))) (pc2 := 5) C hT4 tyX4_ok nmX4 f74 (wM_g0 ct b y) rfl (by decide) rfl rfl (by decide +kernel) rfl rfl (Nat.le_of_ble_eq_true rfl) (wM_s0_27 ct b y 0) dX4_tour_2 rfl ?_
  refine q_aload_n (pc2 := 6) C 0 dX4_tour_5 rfl rfl rfl ?_
  refine q_iconst (v := 1) (pc2 := 7) C dX4_tour_6 (by decide) rfl ?_
  refine q_aload_n (pc2 := 8) C 0 dX4_tour_7 rfl rfl rfl ?_
  refine q_get (q0 := 0) (k := 0) (v := .int (y 0 0)) (pc2 := 11) C hT4 f85 (wM_g0 ct b (set2 y 27 (fun _ => 0))) rfl (by decide) rfl rfl dX4_tour_8 rfl ?_
  refine q_isub (v := nI (1 - h)) (pc2 := 12) C dX4_tour_11 (by rw [hh]; exact pk_sub (a := 1) (b := h) (by omega)) rfl ?_
  refine q_put (q0 := 0) (k := 0) (ty := .int) (ws' := (wM ct b (set2 (set2 y 27 (fun _ => 0)) 0 (fun _ => (nI (1 - h)))))) (pc2 := 15) C hT4 tyX4_ok nmX4 f85 (wM_g0 ct b (set2 y 27 (fun _ => 0))) rfl (by decide) rfl rfl (by decide +kernel) rfl rfl (Nat.le_of_ble_eq_true rfl) (wM_s0_0 ct b (set2 y 27 (fun _ => 0)) (nI (1 - h))) dX4_tour_12 rfl ?_
  refine q_iconst (v := 0) (pc2 := 16) C dX4_tour_15 (by decide) rfl ?_
  refine q_istore_n (lv' := [(1, .int 0), (0, .ref (b 30))]) (pc2 := 17) C dX4_tour_16 rfl (by decide) rfl rfl ?_
  refine q_lv (lv' := [(1, .int 0), (0, .ref (b 30))]) [0, 1] rfl ?_
  refine q_eqw (ws' := (wM ct b (set2 (set2 (set2 (set2 y 27 (fun _ => 0)) 0 (fun _ => nI (1 - h))) 26 (fun k => if k < 0 then y 7 k else y 26 k)) 7 (fun k => if k < 0 then -1 else y 7 k)))) (by simp only [Nat.not_lt_zero, if_false]; rfl) ?_
  refine lp_up (P := fun i => Cf p0 l e ({ frames := 3, cells := 0, slots := 0, locals := 69 }) s m args below meth c D A 7 0 0 Q 17 [(1, .int (nI i)), (0, .ref (b 30))] [] (wM ct b (set2 (set2 (set2 (set2 y 27 (fun _ => 0)) 0 (fun _ => nI (1 - h))) 26 (fun k => if k < i then y 7 k else y 26 k)) 7 (fun k => if k < i then -1 else y 7 k)))) (n) (fun i hi ihi => ?_) ?_
  · skip
    refine q_iload_n (pc2 := 18) C 0 dX4_tour_17 rfl rfl rfl ?_
    refine q_aload_n (pc2 := 19) C 1 dX4_tour_18 rfl rfl rfl ?_
    refine q_get (q0 := 0) (k := 4) (v := .int (y 4 0)) (pc2 := 22) C hT4 f78 (wM_g0 ct b (set2 (set2 (set2 (set2 y 27 (fun _ => 0)) 0 (fun _ => nI (1 - h))) 26 (fun k => if k < i then y 7 k else y 26 k)) 7 (fun k => if k < i then -1 else y 7 k))) rfl (by decide) rfl rfl dX4_tour_19 rfl ?_
    refine q_icmp_ge (tgt := 50) (pc2 := 25) C dX4_tour_22 (by decide) rfl (fun c22 => (q_absurd (a := n) (b := i) (show nI n ≤ nI i by rw [← hn]; exact c22) hi (by omega))) (fun _ => ?_)
    refine q_aload_n (pc2 := 26) C 1 dX4_tour_25 rfl rfl rfl ?_
    refine q_get (q0 := 0) (k := 26) (v := .ref (b 26)) (pc2 := 29) C hT4 f71 (wM_g0 ct b (set2 (set2 (set2 (set2 y 27 (fun _ => 0)) 0 (fun _ => nI (1 - h))) 26 (fun k => if k < i then y 7 k else y 26 k)) 7 (fun k => if k < i then -1 else y 7 k))) rfl (by decide) rfl rfl dX4_tour_26 rfl ?_
    refine q_iload_n (pc2 := 30) C 0 dX4_tour_29 rfl rfl rfl ?_
    refine q_aload_n (pc2 := 31) C 1 dX4_tour_30 rfl rfl rfl ?_
    refine q_get (q0 := 0) (k := 7) (v := .ref (b 7)) (pc2 := 34) C hT4 f25 (wM_g0 ct b (set2 (set2 (set2 (set2 y 27 (fun _ => 0)) 0 (fun _ => nI (1 - h))) 26 (fun k => if k < i then y 7 k else y 26 k)) 7 (fun k => if k < i then -1 else y 7 k))) rfl (by decide) rfl rfl dX4_tour_31 rfl ?_
    refine q_iload_n (pc2 := 35) C 0 dX4_tour_34 rfl rfl rfl ?_
    refine q_iald (q0 := 6) (f := (fun k => if k < i then -1 else y 7 k)) (pc2 := 36) C i (wM_g6 ct b (set2 (set2 (set2 (set2 y 27 (fun _ => 0)) 0 (fun _ => nI (1 - h))) 26 (fun k => if k < i then y 7 k else y 26 k)) 7 (fun k => if k < i then -1 else y 7 k))) rfl (rfl) (by omega) (by decide) dX4_tour_35 rfl ?_
    refine q_eqi (y := (y 7 i)) (by simp) ?_
    refine q_iast (q0 := 21) (f := (fun k => if k < i then y 7 k else y 26 k)) (ws' := (wM ct b (set2 (set2 (set2 (set2 y 27 (fun _ => 0)) 0 (fun _ => nI (1 - h))) 26 (upd (fun k => if k < i then y 7 k else y 26 k) i (y 7 i))) 7 (fun k => if k < i then -1 else y 7 k)))) (pc2 := 37) C i (wM_g21 ct b (set2 (set2 (set2 (set2 y 27 (fun _ => 0)) 0 (fun _ => nI (1 - h))) 26 (fun k => if k < i then y 7 k else y 26 k)) 7 (fun k => if k < i then -1 else y 7 k))) rfl (rfl) (by omega) (by decide) (wM_a21 ct b (set2 (set2 (set2 (set2 y 27 (fun _ => 0)) 0 (fun _ => nI (1 - h))) 26 (fun k => if k < i then y 7 k else y 26 k)) 7 (fun k => if k < i then -1 else y 7 k)) (upd (fun k => if k < i then y 7 k else y 26 k) i (y 7 i))) dX4_tour_36 rfl ?_
    refine q_aload_n (pc2 := 38) C 1 dX4_tour_37 rfl rfl rfl ?_
    refine q_get (q0 := 0) (k := 7) (v := .ref (b 7)) (pc2 := 41) C hT4 f25 (wM_g0 ct b (set2 (set2 (set2 (set2 y 27 (fun _ => 0)) 0 (fun _ => nI (1 - h))) 26 (upd (fun k => if k < i then y 7 k else y 26 k) i (y 7 i))) 7 (fun k => if k < i then -1 else y 7 k))) rfl (by decide) rfl rfl dX4_tour_38 rfl ?_
    refine q_iload_n (pc2 := 42) C 0 dX4_tour_41 rfl rfl rfl ?_
    refine q_iconst (v := (-1)) (pc2 := 43) C dX4_tour_42 (by decide) rfl ?_
    refine q_iast (q0 := 6) (f := (fun k => if k < i then -1 else y 7 k)) (ws' := (wM ct b (set2 (set2 (set2 (set2 y 27 (fun _ => 0)) 0 (fun _ => nI (1 - h))) 26 (upd (fun k => if k < i then y 7 k else y 26 k) i (y 7 i))) 7 (upd (fun k => if k < i then -1 else y 7 k) i (-1))))) (pc2 := 44) C i (wM_g6 ct b (set2 (set2 (set2 (set2 y 27 (fun _ => 0)) 0 (fun _ => nI (1 - h))) 26 (upd (fun k => if k < i then y 7 k else y 26 k) i (y 7 i))) 7 (fun k => if k < i then -1 else y 7 k))) rfl (rfl) (by omega) (by decide) (wM_a6 ct b (set2 (set2 (set2 (set2 y 27 (fun _ => 0)) 0 (fun _ => nI (1 - h))) 26 (upd (fun k => if k < i then y 7 k else y 26 k) i (y 7 i))) 7 (fun k => if k < i then -1 else y 7 k)) (upd (fun k => if k < i then -1 else y 7 k) i (-1))) dX4_tour_43 rfl ?_
    refine q_iinc (v := nI (i + 1)) (lv' := [(1, .int (nI (i + 1))), (0, .ref (b 30))]) (pc2 := 47) C 0 dX4_tour_44 rfl (nI_1 i) (by decide) rfl rfl ?_
    refine q_goto (pc2 := 17) C dX4_tour_47 (by decide) ?_
    refine q_lv (lv' := [(1, .int (nI (i + 1))), (0, .ref (b 30))]) [0, 1] rfl ?_
    refine q_eqw (ws' := (wM ct b (set2 (set2 (set2 (set2 y 27 (fun _ => 0)) 0 (fun _ => nI (1 - h))) 26 (fun k => if k < (i + 1) then y 7 k else y 26 k)) 7 (fun k => if k < (i + 1) then -1 else y 7 k)))) (by rw [fill_lt (y 7) (y 26) i, fillc_lt (-1) (y 7) i]) ?_
    exact ihi
  · skip
    refine q_iload_n (pc2 := 18) C 0 dX4_tour_17 rfl rfl rfl ?_
    refine q_aload_n (pc2 := 19) C 1 dX4_tour_18 rfl rfl rfl ?_
    refine q_get (q0 := 0) (k := 4) (v := .int (y 4 0)) (pc2 := 22) C hT4 f78 (wM_g0 ct b (set2 (set2 (set2 (set2 y 27 (fun _ => 0)) 0 (fun _ => nI (1 - h))) 26 (fun k => if k < n then y 7 k else y 26 k)) 7 (fun k => if k < n then -1 else y 7 k))) rfl (by decide) rfl rfl dX4_tour_19 rfl ?_
    refine q_icmp_ge (tgt := 50) (pc2 := 25) C dX4_tour_22 (by decide) rfl (fun _ => ?_) (fun c22 => (absurd (show (y 4 0) ≤ nI n by rw [hn]; exact nI_le (Nat.le_refl n) (by omega)) c22))
    refine q_eqw (ws' := (wM ct b (trm0 y n (1 - h)))) (by rfl) ?_
    refine q_iconst (v := 0) (pc2 := 51) C dX4_tour_50 (by decide) rfl ?_
    refine q_istore_n (lv' := [(1, .int 0), (0, .ref (b 30))]) (pc2 := 52) C dX4_tour_51 rfl (by decide) rfl rfl ?_
    refine q_iconst (v := 0) (pc2 := 53) C dX4_tour_52 (by decide) rfl ?_
    refine q_istore_n (lv' := [(2, .int 0), (1, .int 0), (0, .ref (b 30))]) (pc2 := 54) C dX4_tour_53 rfl (by decide) rfl rfl ?_
    refine q_eqw (ws' := (wM ct b (set2 (set2 (trm0 y n (1 - h)) 7 (trM (trm0 y n (1 - h)) n (1 - h) 0).1) 8 (trM (trm0 y n (1 - h)) n (1 - h) 0).2.1))) (by rfl) ?_
    refine q_lv (lv' := [(2, .int 0), (1, .int 0), (0, .ref (b 30))]) [0, 1, 2] rfl ?_
    refine lp_up (P := fun k => Cf p0 l e ({ frames := 3, cells := 0, slots := 0, locals := 69 }) s m args below meth c D A 7 0 0 Q 54 [(2, .int (nI k)), (1, .int (trM (trm0 y n (1 - h)) n (1 - h) k).2.2), (0, .ref (b 30))] [] (wM ct b (set2 (set2 (trm0 y n (1 - h)) 7 (trM (trm0 y n (1 - h)) n (1 - h) k).1) 8 (trM (trm0 y n (1 - h)) n (1 - h) k).2.1))) (n) (fun k hk ihk => ?_) ?_
    · skip
      refine q_iload_n (pc2 := 55) C 0 dX4_tour_54 rfl rfl rfl ?_
      refine q_aload_n (pc2 := 56) C 2 dX4_tour_55 rfl rfl rfl ?_
      refine q_get (q0 := 0) (k := 4) (v := .int ((trm0 y n (1 - h)) 4 0)) (pc2 := 59) C hT4 f78 (wM_g0 ct b (set2 (set2 (trm0 y n (1 - h)) 7 (trM (trm0 y n (1 - h)) n (1 - h) k).1) 8 (trM (trm0 y n (1 - h)) n (1 - h) k).2.1)) rfl (by decide) rfl rfl dX4_tour_56 rfl ?_
      refine q_icmp_ge (tgt := 224) (pc2 := 62) C dX4_tour_59 (by decide) rfl (fun c59 => (q_absurd (a := n) (b := k) (show nI n ≤ nI k by rw [← hn]; exact c59) hk (by omega))) (fun _ => ?_)
      refine q_aload_n (pc2 := 63) C 2 dX4_tour_62 rfl rfl rfl ?_
      refine q_get (q0 := 0) (k := 26) (v := .ref (b 26)) (pc2 := 66) C hT4 f71 (wM_g0 ct b (set2 (set2 (trm0 y n (1 - h)) 7 (trM (trm0 y n (1 - h)) n (1 - h) k).1) 8 (trM (trm0 y n (1 - h)) n (1 - h) k).2.1)) rfl (by decide) rfl rfl dX4_tour_63 rfl ?_
      refine q_iload_n (pc2 := 67) C 0 dX4_tour_66 rfl rfl rfl ?_
      refine q_iald (q0 := 21) (f := ((trm0 y n (1 - h)) 26)) (pc2 := 68) C k (wM_g21 ct b (set2 (set2 (trm0 y n (1 - h)) 7 (trM (trm0 y n (1 - h)) n (1 - h) k).1) 8 (trM (trm0 y n (1 - h)) n (1 - h) k).2.1)) rfl (rfl) (by omega) (by decide) dX4_tour_67 rfl ?_
      refine q_iconst (v := (-1)) (pc2 := 69) C dX4_tour_68 (by decide) rfl ?_
      refine q_icmp_eq (tgt := 218) (pc2 := 72) C dX4_tour_69 (by decide) rfl (fun c69 => ?_) (fun c69 => ?_)
      · skip
        refine q_iinc (v := nI (k + 1)) (lv' := [(2, .int (nI (k + 1))), (1, .int (trM (trm0 y n (1 - h)) n (1 - h) k).2.2), (0, .ref (b 30))]) (pc2 := 221) C 0 dX4_tour_218 rfl (nI_1 k) (by decide) rfl rfl ?_
        refine q_goto (pc2 := 54) C dX4_tour_221 (by decide) ?_
        refine q_lv (lv' := [(2, .int (nI (k + 1))), (1, .int (trM (trm0 y n (1 - h)) n (1 - h) k).2.2), (0, .ref (b 30))]) [0, 1, 2] rfl ?_
        refine q_eql (lv' := [(2, .int (nI (k + 1))), (1, .int (trM (trm0 y n (1 - h)) n (1 - h) (k + 1)).2.2), (0, .ref (b 30))]) (by simp only [trM]; rw [if_pos c69]) ?_
        refine q_eqw (ws' := (wM ct b (set2 (set2 (trm0 y n (1 - h)) 7 (trM (trm0 y n (1 - h)) n (1 - h) (k + 1)).1) 8 (trM (trm0 y n (1 - h)) n (1 - h) (k + 1)).2.1))) (by simp only [trM]; rw [if_pos c69]) ?_
        exact ihk
      · skip
        refine q_iconst (v := (-1)) (pc2 := 73) C dX4_tour_72 (by decide) rfl ?_
        refine q_istore_n (lv' := [(3, .int (-1)), (2, .int (nI k)), (1, .int (trM (trm0 y n (1 - h)) n (1 - h) k).2.2), (0, .ref (b 30))]) (pc2 := 74) C dX4_tour_73 rfl (by decide) rfl rfl ?_
        refine q_sipush (v := 1000) (pc2 := 77) C dX4_tour_74 (by decide) rfl ?_
        refine q_istore (lv' := [(4, .int 1000), (3, .int (-1)), (2, .int (nI k)), (1, .int (trM (trm0 y n (1 - h)) n (1 - h) k).2.2), (0, .ref (b 30))]) (pc2 := 79) C dX4_tour_77 (by decide) rfl rfl ?_
        refine q_iconst (v := 0) (pc2 := 80) C dX4_tour_79 (by decide) rfl ?_
        refine q_istore (lv' := [(5, .int 0), (4, .int 1000), (3, .int (-1)), (2, .int (nI k)), (1, .int (trM (trm0 y n (1 - h)) n (1 - h) k).2.2), (0, .ref (b 30))]) (pc2 := 82) C dX4_tour_80 (by decide) rfl rfl ?_
        have hj188 : Cf p0 l e ({ frames := 3, cells := 0, slots := 0, locals := 69 }) s m args below meth c D A 7 0 0 Q 188 [(3, .int (bestM (set2 (set2 (trm0 y n (1 - h)) 7 (trM (trm0 y n (1 - h)) n (1 - h) k).1) 8 (trM (trm0 y n (1 - h)) n (1 - h) k).2.1) n (1 - h) k ((trm0 y n (1 - h)) 26 k))), (2, .int (nI k)), (1, .int (trM (trm0 y n (1 - h)) n (1 - h) k).2.2), (0, .ref (b 30))] [] (wM ct b (set2 (set2 (trm0 y n (1 - h)) 7 (trM (trm0 y n (1 - h)) n (1 - h) k).1) 8 (trM (trm0 y n (1 - h)) n (1 - h) k).2.1)) := by
          refine q_iload_n (pc2 := 189) C 0 dX4_tour_188 rfl rfl rfl ?_
          refine q_iconst (v := (-1)) (pc2 := 190) C dX4_tour_189 (by decide) rfl ?_
          refine q_icmp_ne (tgt := 199) (pc2 := 193) C dX4_tour_190 (by decide) rfl (fun c190 => ?_) (fun c190 => ?_)
          · skip
            refine q_aload_n (pc2 := 200) C 3 dX4_tour_199 rfl rfl rfl ?_
            refine q_get (q0 := 0) (k := 7) (v := .ref (b 7)) (pc2 := 203) C hT4 f25 (wM_g0 ct b (set2 (set2 (trm0 y n (1 - h)) 7 (trM (trm0 y n (1 - h)) n (1 - h) k).1) 8 (trM (trm0 y n (1 - h)) n (1 - h) k).2.1)) rfl (by decide) rfl rfl dX4_tour_200 rfl ?_
            refine q_iload_n (pc2 := 204) C 1 dX4_tour_203 rfl rfl rfl ?_
            refine q_aload_n (pc2 := 205) C 3 dX4_tour_204 rfl rfl rfl ?_
            refine q_get (q0 := 0) (k := 26) (v := .ref (b 26)) (pc2 := 208) C hT4 f71 (wM_g0 ct b (set2 (set2 (trm0 y n (1 - h)) 7 (trM (trm0 y n (1 - h)) n (1 - h) k).1) 8 (trM (trm0 y n (1 - h)) n (1 - h) k).2.1)) rfl (by decide) rfl rfl dX4_tour_205 rfl ?_
            refine q_iload_n (pc2 := 209) C 1 dX4_tour_208 rfl rfl rfl ?_
            refine q_iald (q0 := 21) (f := ((trm0 y n (1 - h)) 26)) (pc2 := 210) C k (wM_g21 ct b (set2 (set2 (trm0 y n (1 - h)) 7 (trM (trm0 y n (1 - h)) n (1 - h) k).1) 8 (trM (trm0 y n (1 - h)) n (1 - h) k).2.1)) rfl (rfl) (by omega) (by decide) dX4_tour_209 rfl ?_
            refine q_iast (q0 := 6) (f := (trM (trm0 y n (1 - h)) n (1 - h) k).1) (ws' := (wM ct b (set2 (set2 (trm0 y n (1 - h)) 7 (upd (trM (trm0 y n (1 - h)) n (1 - h) k).1 k (((trm0 y n (1 - h)) 26) k))) 8 (trM (trm0 y n (1 - h)) n (1 - h) k).2.1))) (pc2 := 211) C k (wM_g6 ct b (set2 (set2 (trm0 y n (1 - h)) 7 (trM (trm0 y n (1 - h)) n (1 - h) k).1) 8 (trM (trm0 y n (1 - h)) n (1 - h) k).2.1)) rfl (rfl) (by omega) (by decide) (wM_a6 ct b (set2 (set2 (trm0 y n (1 - h)) 7 (trM (trm0 y n (1 - h)) n (1 - h) k).1) 8 (trM (trm0 y n (1 - h)) n (1 - h) k).2.1) (upd (trM (trm0 y n (1 - h)) n (1 - h) k).1 k (((trm0 y n (1 - h)) 26) k))) dX4_tour_210 rfl ?_
            refine q_aload_n (pc2 := 212) C 3 dX4_tour_211 rfl rfl rfl ?_
            refine q_get (q0 := 0) (k := 8) (v := .ref (b 8)) (pc2 := 215) C hT4 f28 (wM_g0 ct b (set2 (set2 (trm0 y n (1 - h)) 7 (upd (trM (trm0 y n (1 - h)) n (1 - h) k).1 k (((trm0 y n (1 - h)) 26) k))) 8 (trM (trm0 y n (1 - h)) n (1 - h) k).2.1)) rfl (by decide) rfl rfl dX4_tour_212 rfl ?_
            refine q_iload_n (pc2 := 216) C 1 dX4_tour_215 rfl rfl rfl ?_
            refine q_iload_n (pc2 := 217) C 0 dX4_tour_216 rfl rfl rfl ?_
            refine q_iast (q0 := 7) (f := (trM (trm0 y n (1 - h)) n (1 - h) k).2.1) (ws' := (wM ct b (set2 (set2 (trm0 y n (1 - h)) 7 (upd (trM (trm0 y n (1 - h)) n (1 - h) k).1 k (((trm0 y n (1 - h)) 26) k))) 8 (upd (trM (trm0 y n (1 - h)) n (1 - h) k).2.1 k (bestM (set2 (set2 (trm0 y n (1 - h)) 7 (trM (trm0 y n (1 - h)) n (1 - h) k).1) 8 (trM (trm0 y n (1 - h)) n (1 - h) k).2.1) n (1 - h) k ((trm0 y n (1 - h)) 26 k)))))) (pc2 := 218) C k (wM_g7 ct b (set2 (set2 (trm0 y n (1 - h)) 7 (upd (trM (trm0 y n (1 - h)) n (1 - h) k).1 k (((trm0 y n (1 - h)) 26) k))) 8 (trM (trm0 y n (1 - h)) n (1 - h) k).2.1)) rfl (rfl) (by omega) (by decide) (wM_a7 ct b (set2 (set2 (trm0 y n (1 - h)) 7 (upd (trM (trm0 y n (1 - h)) n (1 - h) k).1 k (((trm0 y n (1 - h)) 26) k))) 8 (trM (trm0 y n (1 - h)) n (1 - h) k).2.1) (upd (trM (trm0 y n (1 - h)) n (1 - h) k).2.1 k (bestM (set2 (set2 (trm0 y n (1 - h)) 7 (trM (trm0 y n (1 - h)) n (1 - h) k).1) 8 (trM (trm0 y n (1 - h)) n (1 - h) k).2.1) n (1 - h) k ((trm0 y n (1 - h)) 26 k)))) dX4_tour_217 rfl ?_
            refine q_iinc (v := nI (k + 1)) (lv' := [(2, .int (nI (k + 1))), (3, .int (bestM (set2 (set2 (trm0 y n (1 - h)) 7 (trM (trm0 y n (1 - h)) n (1 - h) k).1) 8 (trM (trm0 y n (1 - h)) n (1 - h) k).2.1) n (1 - h) k ((trm0 y n (1 - h)) 26 k))), (1, .int (trM (trm0 y n (1 - h)) n (1 - h) k).2.2), (0, .ref (b 30))]) (pc2 := 221) C 1 dX4_tour_218 rfl (nI_1 k) (by decide) rfl rfl ?_
            refine q_goto (pc2 := 54) C dX4_tour_221 (by decide) ?_
            refine q_lv (lv' := [(2, .int (nI (k + 1))), (1, .int (trM (trm0 y n (1 - h)) n (1 - h) k).2.2), (0, .ref (b 30))]) [0, 2, 3] rfl ?_
            refine q_eql (lv' := [(2, .int (nI (k + 1))), (1, .int (trM (trm0 y n (1 - h)) n (1 - h) (k + 1)).2.2), (0, .ref (b 30))]) (by simp only [trM]; rw [if_neg c69, if_neg c190, if_neg c190, if_neg c190, Int32.add_zero]) ?_
            refine q_eqw (ws' := (wM ct b (set2 (set2 (trm0 y n (1 - h)) 7 (trM (trm0 y n (1 - h)) n (1 - h) (k + 1)).1) 8 (trM (trm0 y n (1 - h)) n (1 - h) (k + 1)).2.1))) (by simp only [trM]; rw [if_neg c69, if_neg c190, if_neg c190, if_neg c190]) ?_
            exact ihk
          · skip
            refine q_iinc (v := ((trM (trm0 y n (1 - h)) n (1 - h) k).2.2 + 1)) (lv' := [(1, .int ((trM (trm0 y n (1 - h)) n (1 - h) k).2.2 + 1)), (3, .int (bestM (set2 (set2 (trm0 y n (1 - h)) 7 (trM (trm0 y n (1 - h)) n (1 - h) k).1) 8 (trM (trm0 y n (1 - h)) n (1 - h) k).2.1) n (1 - h) k ((trm0 y n (1 - h)) 26 k))), (2, .int (nI k)), (0, .ref (b 30))]) (pc2 := 196) C 2 dX4_tour_193 rfl (rfl) (by decide) rfl rfl ?_
            refine q_goto (pc2 := 218) C dX4_tour_196 (by decide) ?_
            refine q_iinc (v := nI (k + 1)) (lv' := [(2, .int (nI (k + 1))), (1, .int ((trM (trm0 y n (1 - h)) n (1 - h) k).2.2 + 1)), (3, .int (bestM (set2 (set2 (trm0 y n (1 - h)) 7 (trM (trm0 y n (1 - h)) n (1 - h) k).1) 8 (trM (trm0 y n (1 - h)) n (1 - h) k).2.1) n (1 - h) k ((trm0 y n (1 - h)) 26 k))), (0, .ref (b 30))]) (pc2 := 221) C 2 dX4_tour_218 rfl (nI_1 k) (by decide) rfl rfl ?_
            refine q_goto (pc2 := 54) C dX4_tour_221 (by decide) ?_
            refine q_lv (lv' := [(2, .int (nI (k + 1))), (1, .int ((trM (trm0 y n (1 - h)) n (1 - h) k).2.2 + 1)), (0, .ref (b 30))]) [0, 1, 3] rfl ?_
            refine q_eql (lv' := [(2, .int (nI (k + 1))), (1, .int (trM (trm0 y n (1 - h)) n (1 - h) (k + 1)).2.2), (0, .ref (b 30))]) (by simp only [trM]; rw [if_neg c69, if_pos c190, if_pos c190, if_pos c190]) ?_
            refine q_eqw (ws' := (wM ct b (set2 (set2 (trm0 y n (1 - h)) 7 (trM (trm0 y n (1 - h)) n (1 - h) (k + 1)).1) 8 (trM (trm0 y n (1 - h)) n (1 - h) (k + 1)).2.1))) (by simp only [trM]; rw [if_neg c69, if_pos c190, if_pos c190, if_pos c190]) ?_
            exact ihk
        by_cases hbr : inR ((trm0 y n (1 - h)) 26 k) 0 ((set2 (set2 (trm0 y n (1 - h)) 7 (trM (trm0 y n (1 - h)) n (1 - h) k).1) 8 (trM (trm0 y n (1 - h)) n (1 - h) k).2.1) 1 (1 - h) - 1)
        · skip
          have hW := idxN (k := kb) (by have z9 : inR ((trm0 y n (1 - h)) 26 k) 0 (y 1 (1 - h) - 1) := hbr; rw [hkb] at z9; exact z9) (by omega)
          have hB4 : ((trm0 y n (1 - h)) 26 k).toNatClampNeg < 4 := by have := hW.1; omega
          obtain ⟨ll, hll, ell⟩ := hlen (4 * (1 - h) + ((trm0 y n (1 - h)) 26 k).toNatClampNeg) (by omega)
          have hcl : ((set2 (set2 (trm0 y n (1 - h)) 7 (trM (trm0 y n (1 - h)) n (1 - h) k).1) 8 (trM (trm0 y n (1 - h)) n (1 - h) k).2.1) 2 (4 * (1 - h) + ((trm0 y n (1 - h)) 26 k).toNatClampNeg)).toNatClampNeg = ll := by rw [show (set2 (set2 (trm0 y n (1 - h)) 7 (trM (trm0 y n (1 - h)) n (1 - h) k).1) 8 (trM (trm0 y n (1 - h)) n (1 - h) k).2.1) 2 (4 * (1 - h) + ((trm0 y n (1 - h)) 26 k).toNatClampNeg) = nI ll from ell]; exact nI_clamp (by omega)
          have hkc : (nI k).toNatClampNeg = k := nI_clamp (by omega)
          refine q_lv (lv' := [(5, .int 0), (4, .int 1000), (3, .int (-1)), (2, .int (nI k)), (1, .int (trM (trm0 y n (1 - h)) n (1 - h) k).2.2), (0, .ref (b 30))]) [0, 1, 2, 3, 4, 5] rfl ?_
          refine lp_up (P := fun p => Cf p0 l e _ s m args below meth c D A 7 0 0 Q 82 [(5, .int (nI p)), (4, .int (bsf (set2 (set2 (trm0 y n (1 - h)) 7 (trM (trm0 y n (1 - h)) n (1 - h) k).1) 8 (trM (trm0 y n (1 - h)) n (1 - h) k).2.1) n (1 - h) k ((trm0 y n (1 - h)) 26 k) p).2), (3, .int (bsf (set2 (set2 (trm0 y n (1 - h)) 7 (trM (trm0 y n (1 - h)) n (1 - h) k).1) 8 (trM (trm0 y n (1 - h)) n (1 - h) k).2.1) n (1 - h) k ((trm0 y n (1 - h)) 26 k) p).1), (2, .int (nI k)), (1, .int (trM (trm0 y n (1 - h)) n (1 - h) k).2.2), (0, .ref (b 30))] [] (wM ct b (set2 (set2 (trm0 y n (1 - h)) 7 (trM (trm0 y n (1 - h)) n (1 - h) k).1) 8 (trM (trm0 y n (1 - h)) n (1 - h) k).2.1))) (ll + 1) (fun p hp ihp => ?_) ?_
          · skip
            refine q_aload_n (pc2 := 83) C 5 dX4_tour_82 rfl rfl rfl ?_
            refine q_aload_n (pc2 := 84) C 5 dX4_tour_83 rfl rfl rfl ?_
            refine q_get (q0 := 0) (k := 26) (v := .ref (b 26)) (pc2 := 87) C hT4 f71 (wM_g0 ct b (set2 (set2 (trm0 y n (1 - h)) 7 (trM (trm0 y n (1 - h)) n (1 - h) k).1) 8 (trM (trm0 y n (1 - h)) n (1 - h) k).2.1)) rfl (by decide) rfl rfl dX4_tour_84 rfl ?_
            refine q_iload_n (pc2 := 88) C 3 dX4_tour_87 rfl rfl rfl ?_
            refine q_iald (q0 := 21) (f := ((trm0 y n (1 - h)) 26)) (pc2 := 89) C k (wM_g21 ct b (set2 (set2 (trm0 y n (1 - h)) 7 (trM (trm0 y n (1 - h)) n (1 - h) k).1) 8 (trM (trm0 y n (1 - h)) n (1 - h) k).2.1)) rfl (rfl) (by omega) (by decide) dX4_tour_88 rfl ?_
            refine q_cV (pc2 := 92) (As := [.int (((trm0 y n (1 - h)) 26) k)]) (st := []) (st2 := [.int (b2 (inR (((trm0 y n (1 - h)) 26) k) 0 ((set2 (set2 (trm0 y n (1 - h)) 7 (trM (trm0 y n (1 - h)) n (1 - h) k).1) 8 (trM (trm0 y n (1 - h)) n (1 - h) k).2.1) 1 (1 - h) - 1)))]) (q0 := 0) (w2 := (wM ct b (set2 (set2 (trm0 y n (1 - h)) 7 (trM (trm0 y n (1 - h)) n (1 - h) k).1) 8 (trM (trm0 y n (1 - h)) n (1 - h) k).2.1))) (c2 := 0) (s2 := 0) C (c_X4_isBar l D ct b (set2 (set2 (trm0 y n (1 - h)) 7 (trM (trm0 y n (1 - h)) n (1 - h) k).1) 8 (trM (trm0 y n (1 - h)) n (1 - h) k).2.1) (1 - h) rfl (by omega) (((trm0 y n (1 - h)) 26) k)) (cwV 1 C.w gX4_tour_X4_isBar rfl rfl rfl (by decide +kernel) ⟨Nat.le_of_ble_eq_true rfl, Nat.le_of_ble_eq_true rfl⟩) rfl rfl [0, 1, 2, 3, 4, 5, 6, 7, 8, 9, 10, 11, 12, 13, 14, 15, 16, 17, 18, 19, 20, 21] [] [0, 1, 2, 3, 4, 5, 6, 7, 8, 9, 10, 11, 12, 13, 14, 15, 16, 17, 18, 19, 20, 21] rfl rfl (by decide) (by decide) (by decide) rfl (by decide) dX4_tour_89 rfl rfl (Nat.le_of_ble_eq_true rfl) ⟨by decide, by decide⟩ rfl rfl rfl rfl ?_
            refine q_if_eq (tgt := 188) (pc2 := 95) C dX4_tour_92 (by decide) rfl (fun c92 => (absurd hbr (b2_eq.mp c92))) (fun _ => ?_)
            refine q_iload (pc2 := 97) C 0 dX4_tour_95 rfl rfl ?_
            refine q_aload_n (pc2 := 98) C 5 dX4_tour_97 rfl rfl rfl ?_
            refine q_get (q0 := 0) (k := 2) (v := .ref (b 2)) (pc2 := 101) C hT4 f13 (wM_g0 ct b (set2 (set2 (trm0 y n (1 - h)) 7 (trM (trm0 y n (1 - h)) n (1 - h) k).1) 8 (trM (trm0 y n (1 - h)) n (1 - h) k).2.1)) rfl (by decide) rfl rfl dX4_tour_98 rfl ?_
            refine q_iconst (v := 4) (pc2 := 102) C dX4_tour_101 (by decide) rfl ?_
            refine q_aload_n (pc2 := 103) C 5 dX4_tour_102 rfl rfl rfl ?_
            refine q_get (q0 := 0) (k := 0) (v := .int ((trm0 y n (1 - h)) 0 0)) (pc2 := 106) C hT4 f85 (wM_g0 ct b (set2 (set2 (trm0 y n (1 - h)) 7 (trM (trm0 y n (1 - h)) n (1 - h) k).1) 8 (trM (trm0 y n (1 - h)) n (1 - h) k).2.1)) rfl (by decide) rfl rfl dX4_tour_103 rfl ?_
            refine q_imul (pc2 := 107) C dX4_tour_106 rfl rfl ?_
            refine q_aload_n (pc2 := 108) C 5 dX4_tour_107 rfl rfl rfl ?_
            refine q_get (q0 := 0) (k := 26) (v := .ref (b 26)) (pc2 := 111) C hT4 f71 (wM_g0 ct b (set2 (set2 (trm0 y n (1 - h)) 7 (trM (trm0 y n (1 - h)) n (1 - h) k).1) 8 (trM (trm0 y n (1 - h)) n (1 - h) k).2.1)) rfl (by decide) rfl rfl dX4_tour_108 rfl ?_
            refine q_iload_n (pc2 := 112) C 3 dX4_tour_111 rfl rfl rfl ?_
            refine q_iald (q0 := 21) (f := ((trm0 y n (1 - h)) 26)) (pc2 := 113) C k (wM_g21 ct b (set2 (set2 (trm0 y n (1 - h)) 7 (trM (trm0 y n (1 - h)) n (1 - h) k).1) 8 (trM (trm0 y n (1 - h)) n (1 - h) k).2.1)) rfl (rfl) (by omega) (by decide) dX4_tour_112 rfl ?_
            refine q_iadd (v := nI (4 * (1 - h) + ((trm0 y n (1 - h)) 26 k).toNatClampNeg)) (pc2 := 114) C dX4_tour_113 (cellK (n := 4) rfl hW.2) rfl ?_
            refine q_iald (q0 := 2) (f := ((trm0 y n (1 - h)) 2)) (pc2 := 115) C (4 * (1 - h) + ((trm0 y n (1 - h)) 26 k).toNatClampNeg) (wM_g2 ct b (set2 (set2 (trm0 y n (1 - h)) 7 (trM (trm0 y n (1 - h)) n (1 - h) k).1) 8 (trM (trm0 y n (1 - h)) n (1 - h) k).2.1)) rfl (rfl) (by omega) (by decide) dX4_tour_114 rfl ?_
            refine q_icmp_gt (tgt := 188) (pc2 := 118) C dX4_tour_115 (by decide) rfl (fun c115 => (q_absurdG (a := ll) (b := p) (show nI ll < nI p by rw [← ell]; exact c115) (by omega) (by omega))) (fun _ => ?_)
            have hj150 : Cf p0 l e ({ frames := 3, cells := 0, slots := 0, locals := 69 }) s m args below meth c D A 7 0 0 Q 150 [(5, .int (nI p)), (4, .int (bsf (set2 (set2 (trm0 y n (1 - h)) 7 (trM (trm0 y n (1 - h)) n (1 - h) k).1) 8 (trM (trm0 y n (1 - h)) n (1 - h) k).2.1) n (1 - h) k ((trm0 y n (1 - h)) 26 k) p).2), (3, .int (bsf (set2 (set2 (trm0 y n (1 - h)) 7 (trM (trm0 y n (1 - h)) n (1 - h) k).1) 8 (trM (trm0 y n (1 - h)) n (1 - h) k).2.1) n (1 - h) k ((trm0 y n (1 - h)) 26 k) p).1), (2, .int (nI k)), (1, .int (trM (trm0 y n (1 - h)) n (1 - h) k).2.2), (0, .ref (b 30))] [.int (farT (set2 (set2 (trm0 y n (1 - h)) 7 (trM (trm0 y n (1 - h)) n (1 - h) k).1) 8 (trM (trm0 y n (1 - h)) n (1 - h) k).2.1) k p)] (wM ct b (set2 (set2 (trm0 y n (1 - h)) 7 (trM (trm0 y n (1 - h)) n (1 - h) k).1) 8 (trM (trm0 y n (1 - h)) n (1 - h) k).2.1)) := by
              refine q_istore (lv' := [(6, .int (farT (set2 (set2 (trm0 y n (1 - h)) 7 (trM (trm0 y n (1 - h)) n (1 - h) k).1) 8 (trM (trm0 y n (1 - h)) n (1 - h) k).2.1) k p)), (5, .int (nI p)), (4, .int (bsf (set2 (set2 (trm0 y n (1 - h)) 7 (trM (trm0 y n (1 - h)) n (1 - h) k).1) 8 (trM (trm0 y n (1 - h)) n (1 - h) k).2.1) n (1 - h) k ((trm0 y n (1 - h)) 26 k) p).2), (3, .int (bsf (set2 (set2 (trm0 y n (1 - h)) 7 (trM (trm0 y n (1 - h)) n (1 - h) k).1) 8 (trM (trm0 y n (1 - h)) n (1 - h) k).2.1) n (1 - h) k ((trm0 y n (1 - h)) 26 k) p).1), (2, .int (nI k)), (1, .int (trM (trm0 y n (1 - h)) n (1 - h) k).2.2), (0, .ref (b 30))]) (pc2 := 152) C dX4_tour_150 (by decide) rfl rfl ?_
              refine q_iload (pc2 := 154) C 0 dX4_tour_152 rfl rfl ?_
              refine q_iload (pc2 := 156) C 2 dX4_tour_154 rfl rfl ?_
              refine q_icmp_ge (tgt := 182) (pc2 := 159) C dX4_tour_156 (by decide) rfl (fun c156 => ?_) (fun c156 => ?_)
              · skip
                refine q_iinc (v := nI (p + 1)) (lv' := [(5, .int (nI (p + 1))), (6, .int (farT (set2 (set2 (trm0 y n (1 - h)) 7 (trM (trm0 y n (1 - h)) n (1 - h) k).1) 8 (trM (trm0 y n (1 - h)) n (1 - h) k).2.1) k p)), (4, .int (bsf (set2 (set2 (trm0 y n (1 - h)) 7 (trM (trm0 y n (1 - h)) n (1 - h) k).1) 8 (trM (trm0 y n (1 - h)) n (1 - h) k).2.1) n (1 - h) k ((trm0 y n (1 - h)) 26 k) p).2), (3, .int (bsf (set2 (set2 (trm0 y n (1 - h)) 7 (trM (trm0 y n (1 - h)) n (1 - h) k).1) 8 (trM (trm0 y n (1 - h)) n (1 - h) k).2.1) n (1 - h) k ((trm0 y n (1 - h)) 26 k) p).1), (2, .int (nI k)), (1, .int (trM (trm0 y n (1 - h)) n (1 - h) k).2.2), (0, .ref (b 30))]) (pc2 := 185) C 1 dX4_tour_182 rfl (nI_1 p) (by decide) rfl rfl ?_
                refine q_goto (pc2 := 82) C dX4_tour_185 (by decide) ?_
                refine q_lv (lv' := [(5, .int (nI (p + 1))), (4, .int (bsf (set2 (set2 (trm0 y n (1 - h)) 7 (trM (trm0 y n (1 - h)) n (1 - h) k).1) 8 (trM (trm0 y n (1 - h)) n (1 - h) k).2.1) n (1 - h) k ((trm0 y n (1 - h)) 26 k) p).2), (3, .int (bsf (set2 (set2 (trm0 y n (1 - h)) 7 (trM (trm0 y n (1 - h)) n (1 - h) k).1) 8 (trM (trm0 y n (1 - h)) n (1 - h) k).2.1) n (1 - h) k ((trm0 y n (1 - h)) 26 k) p).1), (2, .int (nI k)), (1, .int (trM (trm0 y n (1 - h)) n (1 - h) k).2.2), (0, .ref (b 30))]) [0, 2, 3, 4, 5, 6] rfl ?_
                refine q_eql (lv' := [(5, .int (nI (p + 1))), (4, .int (bsf (set2 (set2 (trm0 y n (1 - h)) 7 (trM (trm0 y n (1 - h)) n (1 - h) k).1) 8 (trM (trm0 y n (1 - h)) n (1 - h) k).2.1) n (1 - h) k ((trm0 y n (1 - h)) 26 k) (p + 1)).2), (3, .int (bsf (set2 (set2 (trm0 y n (1 - h)) 7 (trM (trm0 y n (1 - h)) n (1 - h) k).1) 8 (trM (trm0 y n (1 - h)) n (1 - h) k).2.1) n (1 - h) k ((trm0 y n (1 - h)) 26 k) (p + 1)).1), (2, .int (nI k)), (1, .int (trM (trm0 y n (1 - h)) n (1 - h) k).2.2), (0, .ref (b 30))]) (by simp only [bsf]; rw [if_neg (fun w9 => absurd c156 (Int32.not_le.mpr w9.1))]) ?_
                exact ihp
              · skip
                refine q_aload_n (pc2 := 160) C 6 dX4_tour_159 rfl rfl rfl ?_
                refine q_iload_n (pc2 := 161) C 4 dX4_tour_160 rfl rfl rfl ?_
                refine q_aload_n (pc2 := 162) C 6 dX4_tour_161 rfl rfl rfl ?_
                refine q_get (q0 := 0) (k := 26) (v := .ref (b 26)) (pc2 := 165) C hT4 f71 (wM_g0 ct b (set2 (set2 (trm0 y n (1 - h)) 7 (trM (trm0 y n (1 - h)) n (1 - h) k).1) 8 (trM (trm0 y n (1 - h)) n (1 - h) k).2.1)) rfl (by decide) rfl rfl dX4_tour_162 rfl ?_
                refine q_iload_n (pc2 := 166) C 4 dX4_tour_165 rfl rfl rfl ?_
                refine q_iald (q0 := 21) (f := ((trm0 y n (1 - h)) 26)) (pc2 := 167) C k (wM_g21 ct b (set2 (set2 (trm0 y n (1 - h)) 7 (trM (trm0 y n (1 - h)) n (1 - h) k).1) 8 (trM (trm0 y n (1 - h)) n (1 - h) k).2.1)) rfl (rfl) (by omega) (by decide) dX4_tour_166 rfl ?_
                refine q_iload (pc2 := 169) C 1 dX4_tour_167 rfl rfl ?_
                refine q_cV (pc2 := 172) (As := [.int (nI k), .int (((trm0 y n (1 - h)) 26) k), .int (nI p)]) (st := []) (st2 := [.int (b2 (canM (set2 (set2 (trm0 y n (1 - h)) 7 (trM (trm0 y n (1 - h)) n (1 - h) k).1) 8 (trM (trm0 y n (1 - h)) n (1 - h) k).2.1) n (1 - h) (nI k) ((trm0 y n (1 - h)) 26 k) (nI p)))]) (q0 := 0) (w2 := (wM ct b (set2 (set2 (trm0 y n (1 - h)) 7 (trM (trm0 y n (1 - h)) n (1 - h) k).1) 8 (trM (trm0 y n (1 - h)) n (1 - h) k).2.1))) (c2 := 0) (s2 := 0) C (c_X4_canHang l D ct b (set2 (set2 (trm0 y n (1 - h)) 7 (trM (trm0 y n (1 - h)) n (1 - h) k).1) 8 (trM (trm0 y n (1 - h)) n (1 - h) k).2.1) n hn hn10 (1 - h) rfl (by omega) (nI k) ((trm0 y n (1 - h)) 26 k) (nI p) (by rw [hkc]; exact hk) (by rw [hkc]) hB4 hW.2) (cwV 3 C.w gX4_tour_X4_canHang rfl rfl rfl (by decide +kernel) ⟨Nat.le_of_ble_eq_true rfl, Nat.le_of_ble_eq_true rfl⟩) rfl rfl [0, 1, 2, 3, 4, 5, 6, 7, 8, 9, 10, 11, 12, 13, 14, 15, 16, 17, 18, 19, 20, 21] [] [0, 1, 2, 3, 4, 5, 6, 7, 8, 9, 10, 11, 12, 13, 14, 15, 16, 17, 18, 19, 20, 21] rfl rfl (by decide) (by decide) (by decide) rfl (by decide) dX4_tour_169 rfl rfl (Nat.le_of_ble_eq_true rfl) ⟨by decide, by decide⟩ rfl rfl rfl rfl ?_
                refine q_if_eq (tgt := 182) (pc2 := 175) C dX4_tour_172 (by decide) rfl (fun c172 => ?_) (fun c172 => ?_)
                · skip
                  refine q_iinc (v := nI (p + 1)) (lv' := [(5, .int (nI (p + 1))), (6, .int (farT (set2 (set2 (trm0 y n (1 - h)) 7 (trM (trm0 y n (1 - h)) n (1 - h) k).1) 8 (trM (trm0 y n (1 - h)) n (1 - h) k).2.1) k p)), (4, .int (bsf (set2 (set2 (trm0 y n (1 - h)) 7 (trM (trm0 y n (1 - h)) n (1 - h) k).1) 8 (trM (trm0 y n (1 - h)) n (1 - h) k).2.1) n (1 - h) k ((trm0 y n (1 - h)) 26 k) p).2), (3, .int (bsf (set2 (set2 (trm0 y n (1 - h)) 7 (trM (trm0 y n (1 - h)) n (1 - h) k).1) 8 (trM (trm0 y n (1 - h)) n (1 - h) k).2.1) n (1 - h) k ((trm0 y n (1 - h)) 26 k) p).1), (2, .int (nI k)), (1, .int (trM (trm0 y n (1 - h)) n (1 - h) k).2.2), (0, .ref (b 30))]) (pc2 := 185) C 1 dX4_tour_182 rfl (nI_1 p) (by decide) rfl rfl ?_
                  refine q_goto (pc2 := 82) C dX4_tour_185 (by decide) ?_
                  refine q_lv (lv' := [(5, .int (nI (p + 1))), (4, .int (bsf (set2 (set2 (trm0 y n (1 - h)) 7 (trM (trm0 y n (1 - h)) n (1 - h) k).1) 8 (trM (trm0 y n (1 - h)) n (1 - h) k).2.1) n (1 - h) k ((trm0 y n (1 - h)) 26 k) p).2), (3, .int (bsf (set2 (set2 (trm0 y n (1 - h)) 7 (trM (trm0 y n (1 - h)) n (1 - h) k).1) 8 (trM (trm0 y n (1 - h)) n (1 - h) k).2.1) n (1 - h) k ((trm0 y n (1 - h)) 26 k) p).1), (2, .int (nI k)), (1, .int (trM (trm0 y n (1 - h)) n (1 - h) k).2.2), (0, .ref (b 30))]) [0, 2, 3, 4, 5, 6] rfl ?_
                  refine q_eql (lv' := [(5, .int (nI (p + 1))), (4, .int (bsf (set2 (set2 (trm0 y n (1 - h)) 7 (trM (trm0 y n (1 - h)) n (1 - h) k).1) 8 (trM (trm0 y n (1 - h)) n (1 - h) k).2.1) n (1 - h) k ((trm0 y n (1 - h)) 26 k) (p + 1)).2), (3, .int (bsf (set2 (set2 (trm0 y n (1 - h)) 7 (trM (trm0 y n (1 - h)) n (1 - h) k).1) 8 (trM (trm0 y n (1 - h)) n (1 - h) k).2.1) n (1 - h) k ((trm0 y n (1 - h)) 26 k) (p + 1)).1), (2, .int (nI k)), (1, .int (trM (trm0 y n (1 - h)) n (1 - h) k).2.2), (0, .ref (b 30))]) (by simp only [bsf]; rw [if_neg (fun w9 => b2_eq.mp c172 w9.2)]) ?_
                  exact ihp
                · skip
                  refine q_iload (pc2 := 177) C 1 dX4_tour_175 rfl rfl ?_
                  refine q_istore_n (lv' := [(3, .int (nI p)), (6, .int (farT (set2 (set2 (trm0 y n (1 - h)) 7 (trM (trm0 y n (1 - h)) n (1 - h) k).1) 8 (trM (trm0 y n (1 - h)) n (1 - h) k).2.1) k p)), (5, .int (nI p)), (4, .int (bsf (set2 (set2 (trm0 y n (1 - h)) 7 (trM (trm0 y n (1 - h)) n (1 - h) k).1) 8 (trM (trm0 y n (1 - h)) n (1 - h) k).2.1) n (1 - h) k ((trm0 y n (1 - h)) 26 k) p).2), (2, .int (nI k)), (1, .int (trM (trm0 y n (1 - h)) n (1 - h) k).2.2), (0, .ref (b 30))]) (pc2 := 178) C dX4_tour_177 rfl (by decide) rfl rfl ?_
                  refine q_iload (pc2 := 180) C 1 dX4_tour_178 rfl rfl ?_
                  refine q_istore (lv' := [(4, .int (farT (set2 (set2 (trm0 y n (1 - h)) 7 (trM (trm0 y n (1 - h)) n (1 - h) k).1) 8 (trM (trm0 y n (1 - h)) n (1 - h) k).2.1) k p)), (3, .int (nI p)), (6, .int (farT (set2 (set2 (trm0 y n (1 - h)) 7 (trM (trm0 y n (1 - h)) n (1 - h) k).1) 8 (trM (trm0 y n (1 - h)) n (1 - h) k).2.1) k p)), (5, .int (nI p)), (2, .int (nI k)), (1, .int (trM (trm0 y n (1 - h)) n (1 - h) k).2.2), (0, .ref (b 30))]) (pc2 := 182) C dX4_tour_180 (by decide) rfl rfl ?_
                  refine q_iinc (v := nI (p + 1)) (lv' := [(5, .int (nI (p + 1))), (4, .int (farT (set2 (set2 (trm0 y n (1 - h)) 7 (trM (trm0 y n (1 - h)) n (1 - h) k).1) 8 (trM (trm0 y n (1 - h)) n (1 - h) k).2.1) k p)), (3, .int (nI p)), (6, .int (farT (set2 (set2 (trm0 y n (1 - h)) 7 (trM (trm0 y n (1 - h)) n (1 - h) k).1) 8 (trM (trm0 y n (1 - h)) n (1 - h) k).2.1) k p)), (2, .int (nI k)), (1, .int (trM (trm0 y n (1 - h)) n (1 - h) k).2.2), (0, .ref (b 30))]) (pc2 := 185) C 3 dX4_tour_182 rfl (nI_1 p) (by decide) rfl rfl ?_
                  refine q_goto (pc2 := 82) C dX4_tour_185 (by decide) ?_
                  refine q_lv (lv' := [(5, .int (nI (p + 1))), (4, .int (farT (set2 (set2 (trm0 y n (1 - h)) 7 (trM (trm0 y n (1 - h)) n (1 - h) k).1) 8 (trM (trm0 y n (1 - h)) n (1 - h) k).2.1) k p)), (3, .int (nI p)), (2, .int (nI k)), (1, .int (trM (trm0 y n (1 - h)) n (1 - h) k).2.2), (0, .ref (b 30))]) [0, 1, 2, 4, 5, 6] rfl ?_
                  refine q_eql (lv' := [(5, .int (nI (p + 1))), (4, .int (bsf (set2 (set2 (trm0 y n (1 - h)) 7 (trM (trm0 y n (1 - h)) n (1 - h) k).1) 8 (trM (trm0 y n (1 - h)) n (1 - h) k).2.1) n (1 - h) k ((trm0 y n (1 - h)) 26 k) (p + 1)).2), (3, .int (bsf (set2 (set2 (trm0 y n (1 - h)) 7 (trM (trm0 y n (1 - h)) n (1 - h) k).1) 8 (trM (trm0 y n (1 - h)) n (1 - h) k).2.1) n (1 - h) k ((trm0 y n (1 - h)) 26 k) (p + 1)).1), (2, .int (nI k)), (1, .int (trM (trm0 y n (1 - h)) n (1 - h) k).2.2), (0, .ref (b 30))]) (by simp only [bsf]; rw [if_pos ⟨Int32.not_le.mp c156, b2_ne.mp c172⟩]) ?_
                  exact ihp
            refine q_iload (pc2 := 120) C 0 dX4_tour_118 rfl rfl ?_
            refine q_aload_n (pc2 := 121) C 5 dX4_tour_120 rfl rfl rfl ?_
            refine q_get (q0 := 0) (k := 8) (v := .ref (b 8)) (pc2 := 124) C hT4 f28 (wM_g0 ct b (set2 (set2 (trm0 y n (1 - h)) 7 (trM (trm0 y n (1 - h)) n (1 - h) k).1) 8 (trM (trm0 y n (1 - h)) n (1 - h) k).2.1)) rfl (by decide) rfl rfl dX4_tour_121 rfl ?_
            refine q_iload_n (pc2 := 125) C 3 dX4_tour_124 rfl rfl rfl ?_
            refine q_iald (q0 := 7) (f := (trM (trm0 y n (1 - h)) n (1 - h) k).2.1) (pc2 := 126) C k (wM_g7 ct b (set2 (set2 (trm0 y n (1 - h)) 7 (trM (trm0 y n (1 - h)) n (1 - h) k).1) 8 (trM (trm0 y n (1 - h)) n (1 - h) k).2.1)) rfl (rfl) (by omega) (by decide) dX4_tour_125 rfl ?_
            refine q_icmp_ge (tgt := 141) (pc2 := 129) C dX4_tour_126 (by decide) rfl (fun c126 => ?_) (fun c126 => ?_)
            · skip
              refine q_iload (pc2 := 143) C 0 dX4_tour_141 rfl rfl ?_
              refine q_aload_n (pc2 := 144) C 5 dX4_tour_143 rfl rfl rfl ?_
              refine q_get (q0 := 0) (k := 8) (v := .ref (b 8)) (pc2 := 147) C hT4 f28 (wM_g0 ct b (set2 (set2 (trm0 y n (1 - h)) 7 (trM (trm0 y n (1 - h)) n (1 - h) k).1) 8 (trM (trm0 y n (1 - h)) n (1 - h) k).2.1)) rfl (by decide) rfl rfl dX4_tour_144 rfl ?_
              refine q_iload_n (pc2 := 148) C 3 dX4_tour_147 rfl rfl rfl ?_
              refine q_iald (q0 := 7) (f := (trM (trm0 y n (1 - h)) n (1 - h) k).2.1) (pc2 := 149) C k (wM_g7 ct b (set2 (set2 (trm0 y n (1 - h)) 7 (trM (trm0 y n (1 - h)) n (1 - h) k).1) 8 (trM (trm0 y n (1 - h)) n (1 - h) k).2.1)) rfl (rfl) (by omega) (by decide) dX4_tour_148 rfl ?_
              refine q_isub (pc2 := 150) C dX4_tour_149 rfl rfl ?_
              refine q_eqi (y := (farT (set2 (set2 (trm0 y n (1 - h)) 7 (trM (trm0 y n (1 - h)) n (1 - h) k).1) 8 (trM (trm0 y n (1 - h)) n (1 - h) k).2.1) k p)) ((if_neg (Int32.not_lt.mpr c126)).symm) ?_
              exact hj150
            · skip
              refine q_aload_n (pc2 := 130) C 5 dX4_tour_129 rfl rfl rfl ?_
              refine q_get (q0 := 0) (k := 8) (v := .ref (b 8)) (pc2 := 133) C hT4 f28 (wM_g0 ct b (set2 (set2 (trm0 y n (1 - h)) 7 (trM (trm0 y n (1 - h)) n (1 - h) k).1) 8 (trM (trm0 y n (1 - h)) n (1 - h) k).2.1)) rfl (by decide) rfl rfl dX4_tour_130 rfl ?_
              refine q_iload_n (pc2 := 134) C 3 dX4_tour_133 rfl rfl rfl ?_
              refine q_iald (q0 := 7) (f := (trM (trm0 y n (1 - h)) n (1 - h) k).2.1) (pc2 := 135) C k (wM_g7 ct b (set2 (set2 (trm0 y n (1 - h)) 7 (trM (trm0 y n (1 - h)) n (1 - h) k).1) 8 (trM (trm0 y n (1 - h)) n (1 - h) k).2.1)) rfl (rfl) (by omega) (by decide) dX4_tour_134 rfl ?_
              refine q_iload (pc2 := 137) C 0 dX4_tour_135 rfl rfl ?_
              refine q_isub (pc2 := 138) C dX4_tour_137 rfl rfl ?_
              refine q_goto (pc2 := 150) C dX4_tour_138 (by decide) ?_
              refine q_eqi (y := (farT (set2 (set2 (trm0 y n (1 - h)) 7 (trM (trm0 y n (1 - h)) n (1 - h) k).1) 8 (trM (trm0 y n (1 - h)) n (1 - h) k).2.1) k p)) ((if_pos (Int32.not_le.mp c126)).symm) ?_
              exact hj150
          · skip
            refine q_aload_n (pc2 := 83) C 5 dX4_tour_82 rfl rfl rfl ?_
            refine q_aload_n (pc2 := 84) C 5 dX4_tour_83 rfl rfl rfl ?_
            refine q_get (q0 := 0) (k := 26) (v := .ref (b 26)) (pc2 := 87) C hT4 f71 (wM_g0 ct b (set2 (set2 (trm0 y n (1 - h)) 7 (trM (trm0 y n (1 - h)) n (1 - h) k).1) 8 (trM (trm0 y n (1 - h)) n (1 - h) k).2.1)) rfl (by decide) rfl rfl dX4_tour_84 rfl ?_
            refine q_iload_n (pc2 := 88) C 3 dX4_tour_87 rfl rfl rfl ?_
            refine q_iald (q0 := 21) (f := ((trm0 y n (1 - h)) 26)) (pc2 := 89) C k (wM_g21 ct b (set2 (set2 (trm0 y n (1 - h)) 7 (trM (trm0 y n (1 - h)) n (1 - h) k).1) 8 (trM (trm0 y n (1 - h)) n (1 - h) k).2.1)) rfl (rfl) (by omega) (by decide) dX4_tour_88 rfl ?_
            refine q_cV (pc2 := 92) (As := [.int (((trm0 y n (1 - h)) 26) k)]) (st := []) (st2 := [.int (b2 (inR (((trm0 y n (1 - h)) 26) k) 0 ((set2 (set2 (trm0 y n (1 - h)) 7 (trM (trm0 y n (1 - h)) n (1 - h) k).1) 8 (trM (trm0 y n (1 - h)) n (1 - h) k).2.1) 1 (1 - h) - 1)))]) (q0 := 0) (w2 := (wM ct b (set2 (set2 (trm0 y n (1 - h)) 7 (trM (trm0 y n (1 - h)) n (1 - h) k).1) 8 (trM (trm0 y n (1 - h)) n (1 - h) k).2.1))) (c2 := 0) (s2 := 0) C (c_X4_isBar l D ct b (set2 (set2 (trm0 y n (1 - h)) 7 (trM (trm0 y n (1 - h)) n (1 - h) k).1) 8 (trM (trm0 y n (1 - h)) n (1 - h) k).2.1) (1 - h) rfl (by omega) (((trm0 y n (1 - h)) 26) k)) (cwV 1 C.w gX4_tour_X4_isBar rfl rfl rfl (by decide +kernel) ⟨Nat.le_of_ble_eq_true rfl, Nat.le_of_ble_eq_true rfl⟩) rfl rfl [0, 1, 2, 3, 4, 5, 6, 7, 8, 9, 10, 11, 12, 13, 14, 15, 16, 17, 18, 19, 20, 21] [] [0, 1, 2, 3, 4, 5, 6, 7, 8, 9, 10, 11, 12, 13, 14, 15, 16, 17, 18, 19, 20, 21] rfl rfl (by decide) (by decide) (by decide) rfl (by decide) dX4_tour_89 rfl rfl (Nat.le_of_ble_eq_true rfl) ⟨by decide, by decide⟩ rfl rfl rfl rfl ?_
            refine q_if_eq (tgt := 188) (pc2 := 95) C dX4_tour_92 (by decide) rfl (fun c92 => (absurd hbr (b2_eq.mp c92))) (fun _ => ?_)
            refine q_iload (pc2 := 97) C 0 dX4_tour_95 rfl rfl ?_
            refine q_aload_n (pc2 := 98) C 5 dX4_tour_97 rfl rfl rfl ?_
            refine q_get (q0 := 0) (k := 2) (v := .ref (b 2)) (pc2 := 101) C hT4 f13 (wM_g0 ct b (set2 (set2 (trm0 y n (1 - h)) 7 (trM (trm0 y n (1 - h)) n (1 - h) k).1) 8 (trM (trm0 y n (1 - h)) n (1 - h) k).2.1)) rfl (by decide) rfl rfl dX4_tour_98 rfl ?_
            refine q_iconst (v := 4) (pc2 := 102) C dX4_tour_101 (by decide) rfl ?_
            refine q_aload_n (pc2 := 103) C 5 dX4_tour_102 rfl rfl rfl ?_
            refine q_get (q0 := 0) (k := 0) (v := .int ((trm0 y n (1 - h)) 0 0)) (pc2 := 106) C hT4 f85 (wM_g0 ct b (set2 (set2 (trm0 y n (1 - h)) 7 (trM (trm0 y n (1 - h)) n (1 - h) k).1) 8 (trM (trm0 y n (1 - h)) n (1 - h) k).2.1)) rfl (by decide) rfl rfl dX4_tour_103 rfl ?_
            refine q_imul (pc2 := 107) C dX4_tour_106 rfl rfl ?_
            refine q_aload_n (pc2 := 108) C 5 dX4_tour_107 rfl rfl rfl ?_
            refine q_get (q0 := 0) (k := 26) (v := .ref (b 26)) (pc2 := 111) C hT4 f71 (wM_g0 ct b (set2 (set2 (trm0 y n (1 - h)) 7 (trM (trm0 y n (1 - h)) n (1 - h) k).1) 8 (trM (trm0 y n (1 - h)) n (1 - h) k).2.1)) rfl (by decide) rfl rfl dX4_tour_108 rfl ?_
            refine q_iload_n (pc2 := 112) C 3 dX4_tour_111 rfl rfl rfl ?_
            refine q_iald (q0 := 21) (f := ((trm0 y n (1 - h)) 26)) (pc2 := 113) C k (wM_g21 ct b (set2 (set2 (trm0 y n (1 - h)) 7 (trM (trm0 y n (1 - h)) n (1 - h) k).1) 8 (trM (trm0 y n (1 - h)) n (1 - h) k).2.1)) rfl (rfl) (by omega) (by decide) dX4_tour_112 rfl ?_
            refine q_iadd (v := nI (4 * (1 - h) + ((trm0 y n (1 - h)) 26 k).toNatClampNeg)) (pc2 := 114) C dX4_tour_113 (cellK (n := 4) rfl hW.2) rfl ?_
            refine q_iald (q0 := 2) (f := ((trm0 y n (1 - h)) 2)) (pc2 := 115) C (4 * (1 - h) + ((trm0 y n (1 - h)) 26 k).toNatClampNeg) (wM_g2 ct b (set2 (set2 (trm0 y n (1 - h)) 7 (trM (trm0 y n (1 - h)) n (1 - h) k).1) 8 (trM (trm0 y n (1 - h)) n (1 - h) k).2.1)) rfl (rfl) (by omega) (by decide) dX4_tour_114 rfl ?_
            refine q_icmp_gt (tgt := 188) (pc2 := 118) C dX4_tour_115 (by decide) rfl (fun _ => ?_) (fun c115 => (absurd (show (((trm0 y n (1 - h)) 2) (4 * (1 - h) + ((trm0 y n (1 - h)) 26 k).toNatClampNeg)) < nI (ll + 1) by rw [show (((trm0 y n (1 - h)) 2) (4 * (1 - h) + ((trm0 y n (1 - h)) 26 k).toNatClampNeg)) = nI ll from ell]; exact nI_lt (Nat.lt_succ_self ll) (by omega)) c115))
            refine q_lv (lv' := [(3, .int (bsf (set2 (set2 (trm0 y n (1 - h)) 7 (trM (trm0 y n (1 - h)) n (1 - h) k).1) 8 (trM (trm0 y n (1 - h)) n (1 - h) k).2.1) n (1 - h) k ((trm0 y n (1 - h)) 26 k) (ll + 1)).1), (2, .int (nI k)), (1, .int (trM (trm0 y n (1 - h)) n (1 - h) k).2.2), (0, .ref (b 30))]) [2, 3, 4, 5] rfl ?_
            refine q_eql (lv' := [(3, .int (bestM (set2 (set2 (trm0 y n (1 - h)) 7 (trM (trm0 y n (1 - h)) n (1 - h) k).1) 8 (trM (trm0 y n (1 - h)) n (1 - h) k).2.1) n (1 - h) k ((trm0 y n (1 - h)) 26 k))), (2, .int (nI k)), (1, .int (trM (trm0 y n (1 - h)) n (1 - h) k).2.2), (0, .ref (b 30))]) (by unfold bestM; rw [if_pos hbr, hcl]) ?_
            exact hj188
        · skip
          refine q_aload_n (pc2 := 83) C 5 dX4_tour_82 rfl rfl rfl ?_
          refine q_aload_n (pc2 := 84) C 5 dX4_tour_83 rfl rfl rfl ?_
          refine q_get (q0 := 0) (k := 26) (v := .ref (b 26)) (pc2 := 87) C hT4 f71 (wM_g0 ct b (set2 (set2 (trm0 y n (1 - h)) 7 (trM (trm0 y n (1 - h)) n (1 - h) k).1) 8 (trM (trm0 y n (1 - h)) n (1 - h) k).2.1)) rfl (by decide) rfl rfl dX4_tour_84 rfl ?_
          refine q_iload_n (pc2 := 88) C 3 dX4_tour_87 rfl rfl rfl ?_
          refine q_iald (q0 := 21) (f := ((trm0 y n (1 - h)) 26)) (pc2 := 89) C k (wM_g21 ct b (set2 (set2 (trm0 y n (1 - h)) 7 (trM (trm0 y n (1 - h)) n (1 - h) k).1) 8 (trM (trm0 y n (1 - h)) n (1 - h) k).2.1)) rfl (rfl) (by omega) (by decide) dX4_tour_88 rfl ?_
          refine q_cV (pc2 := 92) (As := [.int (((trm0 y n (1 - h)) 26) k)]) (st := []) (st2 := [.int (b2 (inR (((trm0 y n (1 - h)) 26) k) 0 ((set2 (set2 (trm0 y n (1 - h)) 7 (trM (trm0 y n (1 - h)) n (1 - h) k).1) 8 (trM (trm0 y n (1 - h)) n (1 - h) k).2.1) 1 (1 - h) - 1)))]) (q0 := 0) (w2 := (wM ct b (set2 (set2 (trm0 y n (1 - h)) 7 (trM (trm0 y n (1 - h)) n (1 - h) k).1) 8 (trM (trm0 y n (1 - h)) n (1 - h) k).2.1))) (c2 := 0) (s2 := 0) C (c_X4_isBar l D ct b (set2 (set2 (trm0 y n (1 - h)) 7 (trM (trm0 y n (1 - h)) n (1 - h) k).1) 8 (trM (trm0 y n (1 - h)) n (1 - h) k).2.1) (1 - h) rfl (by omega) (((trm0 y n (1 - h)) 26) k)) (cwV 1 C.w gX4_tour_X4_isBar rfl rfl rfl (by decide +kernel) ⟨Nat.le_of_ble_eq_true rfl, Nat.le_of_ble_eq_true rfl⟩) rfl rfl [0, 1, 2, 3, 4, 5, 6, 7, 8, 9, 10, 11, 12, 13, 14, 15, 16, 17, 18, 19, 20, 21] [] [0, 1, 2, 3, 4, 5, 6, 7, 8, 9, 10, 11, 12, 13, 14, 15, 16, 17, 18, 19, 20, 21] rfl rfl (by decide) (by decide) (by decide) rfl (by decide) dX4_tour_89 rfl rfl (Nat.le_of_ble_eq_true rfl) ⟨by decide, by decide⟩ rfl rfl rfl rfl ?_
          refine q_if_eq (tgt := 188) (pc2 := 95) C dX4_tour_92 (by decide) rfl (fun _ => ?_) (fun c92 => (absurd (b2_ne.mp c92) hbr))
          refine q_lv (lv' := [(3, .int (-1)), (2, .int (nI k)), (1, .int (trM (trm0 y n (1 - h)) n (1 - h) k).2.2), (0, .ref (b 30))]) [2, 3, 4, 5] rfl ?_
          refine q_eql (lv' := [(3, .int (bestM (set2 (set2 (trm0 y n (1 - h)) 7 (trM (trm0 y n (1 - h)) n (1 - h) k).1) 8 (trM (trm0 y n (1 - h)) n (1 - h) k).2.1) n (1 - h) k ((trm0 y n (1 - h)) 26 k))), (2, .int (nI k)), (1, .int (trM (trm0 y n (1 - h)) n (1 - h) k).2.2), (0, .ref (b 30))]) (by unfold bestM; rw [if_neg hbr]) ?_
          exact hj188
    · skip
      refine q_iload_n (pc2 := 55) C 0 dX4_tour_54 rfl rfl rfl ?_
      refine q_aload_n (pc2 := 56) C 2 dX4_tour_55 rfl rfl rfl ?_
      refine q_get (q0 := 0) (k := 4) (v := .int ((trm0 y n (1 - h)) 4 0)) (pc2 := 59) C hT4 f78 (wM_g0 ct b (set2 (set2 (trm0 y n (1 - h)) 7 (trM (trm0 y n (1 - h)) n (1 - h) n).1) 8 (trM (trm0 y n (1 - h)) n (1 - h) n).2.1)) rfl (by decide) rfl rfl dX4_tour_56 rfl ?_
      refine q_icmp_ge (tgt := 224) (pc2 := 62) C dX4_tour_59 (by decide) rfl (fun _ => ?_) (fun c59 => (absurd (show y 4 0 ≤ nI n by rw [hn]; exact nI_le (Nat.le_refl n) (by omega)) c59))
      refine q_iload_n (pc2 := 225) C 1 dX4_tour_224 rfl rfl rfl ?_
      exact q_zret C hQ rfl (rfl) (by decide) (by decide) dX4_tour_225 ⟨rfl, rfl⟩
