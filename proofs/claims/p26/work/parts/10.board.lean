/-! the board's answers -/
def fndv (p : Nat → Prop) [DecidablePred p] (v : Nat → Int32) : Nat → Nat → Int32
  | 0, _ => -1
  | k + 1, i => if p i then v i else fndv p v k (i + 1)
theorem fndv_no {p : Nat → Prop} [DecidablePred p] {v : Nat → Int32} {n k : Nat} {R : Int32} (h : fndv p v (n - k) k = R) (hk : k < n) (hp : ¬ p k) : fndv p v (n - (k + 1)) (k + 1) = R := by
  rw [show n - k = (n - (k + 1)) + 1 by omega] at h
  simpa [fndv, hp] using h
theorem fndv_yes {p : Nat → Prop} [DecidablePred p] {v : Nat → Int32} {n k : Nat} {R : Int32} (h : fndv p v (n - k) k = R) (hk : k < n) (hp : p k) : R = v k := by
  rw [show n - k = (n - (k + 1)) + 1 by omega] at h
  simpa [fndv, hp] using h.symm
theorem fndv_end {p : Nat → Prop} [DecidablePred p] {v : Nat → Int32} {n : Nat} {R : Int32} (h : fndv p v (n - n) n = R) : R = -1 := by
  rw [Nat.sub_self] at h
  exact h.symm
def cntH (x : Nat → Nat → Int32) (ad : Int32) : Int32 := sumf (fun k => if x 12 k ≠ -1 ∧ x 12 k ≤ ad ∧ ad < x 12 k + x 13 k then 1 else 0) 10
def dbl (c : Nat → Int32) : Int32 := sumf (fun k => if 1 < c k then 1 else 0) 100
def frun (c : Nat → Int32) : Nat → Int32
  | 0 => 0
  | i + 1 => if c i = 0 then frun c i + 1 else 0
def gapf (c : Nat → Int32) (many : Int32) : Int32 := fndv (fun i => frun c (i + 1) = many) (fun i => nI i - many + 1) 100 0

set_option maxHeartbeats 4000000 in
set_option maxRecDepth 100000 in
theorem c_X0_countHolders (l : Launch) (D : va_G) (ct : Nat → ClassId) (a : Nat → Nat) (x : Nat → Nat → Int32) (ad : Int32) : qM l yX0_countHolders wsX0_countHolders ({ frames := 0, cells := 0, slots := 0, locals := 0 }) D ct [.ref (a 32), .int ad] (wB ct a x) (qD (some (.int (cntH x ad))) (wB ct a x)) 0 0 := by
  refine q_start (ret := some .int) (lv := [(0, .ref (a 32)), (1, .int ad)]) (by decide +kernel) rfl (Nat.le_of_ble_eq_true rfl) rfl ?_
  intro p e s m args below meth c A Q C hQ hnm
  have hT0 : ∀ w ∈ u_ws RX0 TX0 4, w ∈ wsX0_countHolders := by decide +kernel
  have f9 : (Cond.fieldLink RX0 9 "PlotPatch$Board" "firsts" "[I").before args s = true := C.w _ (by decide +kernel)
  have f21 : (Cond.fieldLink RX0 21 "PlotPatch$Board" "widths" "[I").before args s = true := C.w _ (by decide +kernel)
  refine q_iconst (v := 0) (pc2 := 1) C dX0_countHolders_0 (by decide) rfl ?_
  refine q_istore_n (lv' := [(2, .int 0), (0, .ref (a 32)), (1, .int ad)]) (pc2 := 2) C dX0_countHolders_1 rfl (by decide) rfl rfl ?_
  refine q_iconst (v := 0) (pc2 := 3) C dX0_countHolders_2 (by decide) rfl ?_
  refine q_istore_n (lv' := [(3, .int 0), (2, .int 0), (0, .ref (a 32)), (1, .int ad)]) (pc2 := 4) C dX0_countHolders_3 rfl (by decide) rfl rfl ?_
  refine q_lv (lv' := [(3, .int 0), (2, .int 0), (0, .ref (a 32)), (1, .int ad)]) [0, 1, 2, 3] rfl ?_
  refine lp_up (P := fun i => Cf p l e ({ frames := 0, cells := 0, slots := 0, locals := 0 }) s m args below meth c D A 5 0 0 Q 4 [(3, .int (nI i)), (2, .int (sumf (fun k => if x 12 k ≠ -1 ∧ x 12 k ≤ ad ∧ ad < x 12 k + x 13 k then 1 else 0) i)), (0, .ref (a 32)), (1, .int ad)] [] (wB ct a x)) (10) (fun i hi ihi => ?_) ?_
  · skip
    refine q_iload_n (pc2 := 5) C 0 dX0_countHolders_4 rfl rfl rfl ?_
    refine q_bipush (v := 10) (pc2 := 7) C dX0_countHolders_5 (by decide) rfl ?_
    refine q_icmp_ge (tgt := 52) (pc2 := 10) C dX0_countHolders_7 (by decide) rfl (fun c7 => (q_absurd (a := 10) (b := i) c7 hi (by decide))) (fun _ => ?_)
    refine q_aload_n (pc2 := 11) C 2 dX0_countHolders_10 rfl rfl rfl ?_
    refine q_get (q0 := 0) (k := 0) (v := .ref (a 12)) (pc2 := 14) C hT0 f9 (wB_g0 ct a x) rfl (by decide) rfl rfl dX0_countHolders_11 rfl ?_
    refine q_iload_n (pc2 := 15) C 0 dX0_countHolders_14 rfl rfl rfl ?_
    refine q_iald (q0 := 1) (f := (x 12)) (pc2 := 16) C i (wB_g1 ct a x) rfl (rfl) (by omega) (by decide) dX0_countHolders_15 rfl ?_
    refine q_istore (lv' := [(4, .int ((x 12) i)), (3, .int (nI i)), (2, .int (sumf (fun k => if x 12 k ≠ -1 ∧ x 12 k ≤ ad ∧ ad < x 12 k + x 13 k then 1 else 0) i)), (0, .ref (a 32)), (1, .int ad)]) (pc2 := 18) C dX0_countHolders_16 (by decide) rfl rfl ?_
    refine q_iload (pc2 := 20) C 0 dX0_countHolders_18 rfl rfl ?_
    refine q_iconst (v := (-1)) (pc2 := 21) C dX0_countHolders_20 (by decide) rfl ?_
    refine q_icmp_eq (tgt := 46) (pc2 := 24) C dX0_countHolders_21 (by decide) rfl (fun c21 => ?_) (fun c21 => ?_)
    · skip
      refine q_iinc (v := nI (i + 1)) (lv' := [(3, .int (nI (i + 1))), (4, .int ((x 12) i)), (2, .int (sumf (fun k => if x 12 k ≠ -1 ∧ x 12 k ≤ ad ∧ ad < x 12 k + x 13 k then 1 else 0) i)), (0, .ref (a 32)), (1, .int ad)]) (pc2 := 49) C 1 dX0_countHolders_46 rfl (nI_1 i) (by decide) rfl rfl ?_
      refine q_goto (pc2 := 4) C dX0_countHolders_49 (by decide) ?_
      refine q_lv (lv' := [(3, .int (nI (i + 1))), (2, .int (sumf (fun k => if x 12 k ≠ -1 ∧ x 12 k ≤ ad ∧ ad < x 12 k + x 13 k then 1 else 0) i)), (0, .ref (a 32)), (1, .int ad)]) [0, 2, 3, 4] rfl ?_
      refine q_eql (lv' := [(3, .int (nI (i + 1))), (2, .int (sumf (fun k => if x 12 k ≠ -1 ∧ x 12 k ≤ ad ∧ ad < x 12 k + x 13 k then 1 else 0) (i + 1))), (0, .ref (a 32)), (1, .int ad)]) (by simp only [sumf]; rw [if_neg (fun z => z.1 c21), Int32.add_zero]) ?_
      exact ihi
    · skip
      refine q_iload (pc2 := 26) C 0 dX0_countHolders_24 rfl rfl ?_
      refine q_iload_n (pc2 := 27) C 4 dX0_countHolders_26 rfl rfl rfl ?_
      refine q_icmp_gt (tgt := 46) (pc2 := 30) C dX0_countHolders_27 (by decide) rfl (fun c27 => ?_) (fun c27 => ?_)
      · skip
        refine q_iinc (v := nI (i + 1)) (lv' := [(3, .int (nI (i + 1))), (4, .int ((x 12) i)), (2, .int (sumf (fun k => if x 12 k ≠ -1 ∧ x 12 k ≤ ad ∧ ad < x 12 k + x 13 k then 1 else 0) i)), (0, .ref (a 32)), (1, .int ad)]) (pc2 := 49) C 1 dX0_countHolders_46 rfl (nI_1 i) (by decide) rfl rfl ?_
        refine q_goto (pc2 := 4) C dX0_countHolders_49 (by decide) ?_
        refine q_lv (lv' := [(3, .int (nI (i + 1))), (2, .int (sumf (fun k => if x 12 k ≠ -1 ∧ x 12 k ≤ ad ∧ ad < x 12 k + x 13 k then 1 else 0) i)), (0, .ref (a 32)), (1, .int ad)]) [0, 2, 3, 4] rfl ?_
        refine q_eql (lv' := [(3, .int (nI (i + 1))), (2, .int (sumf (fun k => if x 12 k ≠ -1 ∧ x 12 k ≤ ad ∧ ad < x 12 k + x 13 k then 1 else 0) (i + 1))), (0, .ref (a 32)), (1, .int ad)]) (by simp only [sumf]; rw [if_neg (fun z => absurd c27 (Int32.not_lt.mpr z.2.1)), Int32.add_zero]) ?_
        exact ihi
      · skip
        refine q_iload_n (pc2 := 31) C 4 dX0_countHolders_30 rfl rfl rfl ?_
        refine q_iload (pc2 := 33) C 0 dX0_countHolders_31 rfl rfl ?_
        refine q_aload_n (pc2 := 34) C 3 dX0_countHolders_33 rfl rfl rfl ?_
        refine q_get (q0 := 0) (k := 1) (v := .ref (a 13)) (pc2 := 37) C hT0 f21 (wB_g0 ct a x) rfl (by decide) rfl rfl dX0_countHolders_34 rfl ?_
        refine q_iload_n (pc2 := 38) C 1 dX0_countHolders_37 rfl rfl rfl ?_
        refine q_iald (q0 := 2) (f := (x 13)) (pc2 := 39) C i (wB_g2 ct a x) rfl (rfl) (by omega) (by decide) dX0_countHolders_38 rfl ?_
        refine q_iadd (pc2 := 40) C dX0_countHolders_39 rfl rfl ?_
        refine q_icmp_ge (tgt := 46) (pc2 := 43) C dX0_countHolders_40 (by decide) rfl (fun c40 => ?_) (fun c40 => ?_)
        · skip
          refine q_iinc (v := nI (i + 1)) (lv' := [(3, .int (nI (i + 1))), (4, .int ((x 12) i)), (2, .int (sumf (fun k => if x 12 k ≠ -1 ∧ x 12 k ≤ ad ∧ ad < x 12 k + x 13 k then 1 else 0) i)), (0, .ref (a 32)), (1, .int ad)]) (pc2 := 49) C 1 dX0_countHolders_46 rfl (nI_1 i) (by decide) rfl rfl ?_
          refine q_goto (pc2 := 4) C dX0_countHolders_49 (by decide) ?_
          refine q_lv (lv' := [(3, .int (nI (i + 1))), (2, .int (sumf (fun k => if x 12 k ≠ -1 ∧ x 12 k ≤ ad ∧ ad < x 12 k + x 13 k then 1 else 0) i)), (0, .ref (a 32)), (1, .int ad)]) [0, 2, 3, 4] rfl ?_
          refine q_eql (lv' := [(3, .int (nI (i + 1))), (2, .int (sumf (fun k => if x 12 k ≠ -1 ∧ x 12 k ≤ ad ∧ ad < x 12 k + x 13 k then 1 else 0) (i + 1))), (0, .ref (a 32)), (1, .int ad)]) (by simp only [sumf]; rw [if_neg (fun z => absurd c40 (Int32.not_le.mpr z.2.2)), Int32.add_zero]) ?_
          exact ihi
        · skip
          refine q_iinc (v := ((sumf (fun k => if x 12 k ≠ -1 ∧ x 12 k ≤ ad ∧ ad < x 12 k + x 13 k then 1 else 0) i) + 1)) (lv' := [(2, .int ((sumf (fun k => if x 12 k ≠ -1 ∧ x 12 k ≤ ad ∧ ad < x 12 k + x 13 k then 1 else 0) i) + 1)), (4, .int ((x 12) i)), (3, .int (nI i)), (0, .ref (a 32)), (1, .int ad)]) (pc2 := 46) C 2 dX0_countHolders_43 rfl (rfl) (by decide) rfl rfl ?_
          refine q_iinc (v := nI (i + 1)) (lv' := [(3, .int (nI (i + 1))), (2, .int ((sumf (fun k => if x 12 k ≠ -1 ∧ x 12 k ≤ ad ∧ ad < x 12 k + x 13 k then 1 else 0) i) + 1)), (4, .int ((x 12) i)), (0, .ref (a 32)), (1, .int ad)]) (pc2 := 49) C 2 dX0_countHolders_46 rfl (nI_1 i) (by decide) rfl rfl ?_
          refine q_goto (pc2 := 4) C dX0_countHolders_49 (by decide) ?_
          refine q_lv (lv' := [(3, .int (nI (i + 1))), (2, .int ((sumf (fun k => if x 12 k ≠ -1 ∧ x 12 k ≤ ad ∧ ad < x 12 k + x 13 k then 1 else 0) i) + 1)), (0, .ref (a 32)), (1, .int ad)]) [0, 1, 3, 4] rfl ?_
          refine q_eql (lv' := [(3, .int (nI (i + 1))), (2, .int (sumf (fun k => if x 12 k ≠ -1 ∧ x 12 k ≤ ad ∧ ad < x 12 k + x 13 k then 1 else 0) (i + 1))), (0, .ref (a 32)), (1, .int ad)]) (by simp only [sumf]; rw [if_pos ⟨c21, Int32.not_lt.mp c27, Int32.not_le.mp c40⟩]) ?_
          exact ihi
  · skip
    refine q_iload_n (pc2 := 5) C 0 dX0_countHolders_4 rfl rfl rfl ?_
    refine q_bipush (v := 10) (pc2 := 7) C dX0_countHolders_5 (by decide) rfl ?_
    refine q_icmp_ge (tgt := 52) (pc2 := 10) C dX0_countHolders_7 (by decide) rfl (fun _ => ?_) (fun c7 => (absurd (nI_le (Nat.le_refl (10)) (by decide)) c7))
    refine q_iload_n (pc2 := 53) C 1 dX0_countHolders_52 rfl rfl rfl ?_
    exact q_zret C hQ rfl (rfl) (Nat.zero_le _) (Nat.zero_le _) dX0_countHolders_53 ⟨rfl, rfl⟩

set_option maxHeartbeats 4000000 in
set_option maxRecDepth 100000 in
theorem c_X0_countDoubles (l : Launch) (D : va_G) (ct : Nat → ClassId) (a : Nat → Nat) (x : Nat → Nat → Int32) : qM l yX0_countDoubles wsX0_countDoubles ({ frames := 1, cells := 0, slots := 0, locals := 24 }) D ct [.ref (a 32)] (wB ct a x) (qD (some (.int (dbl (fun k => cntH x (nI k))))) (wB ct a x)) 0 0 := by
  refine q_start (ret := some .int) (lv := [(0, .ref (a 32))]) (by decide +kernel) rfl (Nat.le_of_ble_eq_true rfl) rfl ?_
  intro p e s m args below meth c A Q C hQ hnm
  refine q_iconst (v := 0) (pc2 := 1) C dX0_countDoubles_0 (by decide) rfl ?_
  refine q_istore_n (lv' := [(1, .int 0), (0, .ref (a 32))]) (pc2 := 2) C dX0_countDoubles_1 rfl (by decide) rfl rfl ?_
  refine q_iconst (v := 0) (pc2 := 3) C dX0_countDoubles_2 (by decide) rfl ?_
  refine q_istore_n (lv' := [(2, .int 0), (1, .int 0), (0, .ref (a 32))]) (pc2 := 4) C dX0_countDoubles_3 rfl (by decide) rfl rfl ?_
  refine q_lv (lv' := [(2, .int 0), (1, .int 0), (0, .ref (a 32))]) [0, 1, 2] rfl ?_
  refine lp_up (P := fun i => Cf p l e ({ frames := 1, cells := 0, slots := 0, locals := 24 }) s m args below meth c D A 3 0 0 Q 4 [(2, .int (nI i)), (1, .int (sumf (fun k => if 1 < (fun k => cntH x (nI k)) k then 1 else 0) i)), (0, .ref (a 32))] [] (wB ct a x)) (100) (fun i hi ihi => ?_) ?_
  · skip
    refine q_iload_n (pc2 := 5) C 0 dX0_countDoubles_4 rfl rfl rfl ?_
    refine q_bipush (v := 100) (pc2 := 7) C dX0_countDoubles_5 (by decide) rfl ?_
    refine q_icmp_ge (tgt := 28) (pc2 := 10) C dX0_countDoubles_7 (by decide) rfl (fun c7 => (q_absurd (a := 100) (b := i) c7 hi (by decide))) (fun _ => ?_)
    refine q_aload_n (pc2 := 11) C 2 dX0_countDoubles_10 rfl rfl rfl ?_
    refine q_iload_n (pc2 := 12) C 0 dX0_countDoubles_11 rfl rfl rfl ?_
    refine q_cV (pc2 := 15) (As := [.int (nI i)]) (st := []) (st2 := [.int (cntH x (nI i))]) (q0 := 0) (w2 := (wB ct a x)) (c2 := 0) (s2 := 0) C (c_X0_countHolders l D ct a x (nI i)) (cwV 1 C.w gX0_countDoubles_X0_countHolders rfl rfl rfl (by decide +kernel) ⟨Nat.le_of_ble_eq_true rfl, Nat.le_of_ble_eq_true rfl⟩) rfl rfl [0, 1, 2, 3, 4] [] [0, 1, 2, 3, 4] rfl rfl (by decide) (by decide) (by decide) rfl (by decide) dX0_countDoubles_12 rfl rfl (Nat.le_of_ble_eq_true rfl) ⟨Nat.zero_le _, Nat.zero_le _⟩ rfl rfl rfl rfl ?_
    refine q_iconst (v := 1) (pc2 := 16) C dX0_countDoubles_15 (by decide) rfl ?_
    refine q_icmp_le (tgt := 22) (pc2 := 19) C dX0_countDoubles_16 (by decide) rfl (fun c16 => ?_) (fun c16 => ?_)
    · skip
      refine q_iinc (v := nI (i + 1)) (lv' := [(2, .int (nI (i + 1))), (1, .int (sumf (fun k => if 1 < (fun k => cntH x (nI k)) k then 1 else 0) i)), (0, .ref (a 32))]) (pc2 := 25) C 0 dX0_countDoubles_22 rfl (nI_1 i) (by decide) rfl rfl ?_
      refine q_goto (pc2 := 4) C dX0_countDoubles_25 (by decide) ?_
      refine q_lv (lv' := [(2, .int (nI (i + 1))), (1, .int (sumf (fun k => if 1 < (fun k => cntH x (nI k)) k then 1 else 0) i)), (0, .ref (a 32))]) [0, 1, 2] rfl ?_
      refine q_eql (lv' := [(2, .int (nI (i + 1))), (1, .int (sumf (fun k => if 1 < (fun k => cntH x (nI k)) k then 1 else 0) (i + 1))), (0, .ref (a 32))]) (by simp only [sumf]; rw [if_neg (Int32.not_lt.mpr c16), Int32.add_zero]) ?_
      exact ihi
    · skip
      refine q_iinc (v := ((sumf (fun k => if 1 < (fun k => cntH x (nI k)) k then 1 else 0) i) + 1)) (lv' := [(1, .int ((sumf (fun k => if 1 < (fun k => cntH x (nI k)) k then 1 else 0) i) + 1)), (2, .int (nI i)), (0, .ref (a 32))]) (pc2 := 22) C 1 dX0_countDoubles_19 rfl (rfl) (by decide) rfl rfl ?_
      refine q_iinc (v := nI (i + 1)) (lv' := [(2, .int (nI (i + 1))), (1, .int ((sumf (fun k => if 1 < (fun k => cntH x (nI k)) k then 1 else 0) i) + 1)), (0, .ref (a 32))]) (pc2 := 25) C 1 dX0_countDoubles_22 rfl (nI_1 i) (by decide) rfl rfl ?_
      refine q_goto (pc2 := 4) C dX0_countDoubles_25 (by decide) ?_
      refine q_lv (lv' := [(2, .int (nI (i + 1))), (1, .int ((sumf (fun k => if 1 < (fun k => cntH x (nI k)) k then 1 else 0) i) + 1)), (0, .ref (a 32))]) [0, 1, 2] rfl ?_
      refine q_eql (lv' := [(2, .int (nI (i + 1))), (1, .int (sumf (fun k => if 1 < (fun k => cntH x (nI k)) k then 1 else 0) (i + 1))), (0, .ref (a 32))]) (by simp only [sumf]; rw [if_pos (Int32.not_le.mp c16)]) ?_
      exact ihi
  · skip
    refine q_iload_n (pc2 := 5) C 0 dX0_countDoubles_4 rfl rfl rfl ?_
    refine q_bipush (v := 100) (pc2 := 7) C dX0_countDoubles_5 (by decide) rfl ?_
    refine q_icmp_ge (tgt := 28) (pc2 := 10) C dX0_countDoubles_7 (by decide) rfl (fun _ => ?_) (fun c7 => (absurd (nI_le (Nat.le_refl (100)) (by decide)) c7))
    refine q_iload_n (pc2 := 29) C 1 dX0_countDoubles_28 rfl rfl rfl ?_
    exact q_zret C hQ rfl (rfl) (Nat.zero_le _) (Nat.zero_le _) dX0_countDoubles_29 ⟨rfl, rfl⟩

set_option maxHeartbeats 4000000 in
set_option maxRecDepth 100000 in
theorem c_X0_lowestGap (l : Launch) (D : va_G) (ct : Nat → ClassId) (a : Nat → Nat) (x : Nat → Nat → Int32) (many : Int32) : qM l yX0_lowestGap wsX0_lowestGap ({ frames := 1, cells := 0, slots := 0, locals := 24 }) D ct [.ref (a 32), .int many] (wB ct a x) (qD (some (.int (gapf (fun k => cntH x (nI k)) many))) (wB ct a x)) 0 0 := by
  refine q_start (ret := some .int) (lv := [(0, .ref (a 32)), (1, .int many)]) (by decide +kernel) rfl (Nat.le_of_ble_eq_true rfl) rfl ?_
  intro p e s m args below meth c A Q C hQ hnm
  refine q_iconst (v := 0) (pc2 := 1) C dX0_lowestGap_0 (by decide) rfl ?_
  refine q_istore_n (lv' := [(2, .int 0), (0, .ref (a 32)), (1, .int many)]) (pc2 := 2) C dX0_lowestGap_1 rfl (by decide) rfl rfl ?_
  refine q_iconst (v := 0) (pc2 := 3) C dX0_lowestGap_2 (by decide) rfl ?_
  refine q_istore_n (lv' := [(3, .int 0), (2, .int 0), (0, .ref (a 32)), (1, .int many)]) (pc2 := 4) C dX0_lowestGap_3 rfl (by decide) rfl rfl ?_
  refine q_lv (lv' := [(3, .int 0), (2, .int 0), (0, .ref (a 32)), (1, .int many)]) [0, 1, 2, 3] rfl ?_
  refine (lp_up (P := fun i => (fndv (fun i => frun (fun k => cntH x (nI k)) (i + 1) = many) (fun i => nI i - many + 1) (100 - i) i = gapf (fun k => cntH x (nI k)) many) → Cf p l e ({ frames := 1, cells := 0, slots := 0, locals := 24 }) s m args below meth c D A 4 0 0 Q 4 [(3, .int (nI i)), (2, .int (frun (fun k => cntH x (nI k)) i)), (0, .ref (a 32)), (1, .int many)] [] (wB ct a x)) (100) (fun i hi ihi => ?_) ?_ : (fndv (fun i => frun (fun k => cntH x (nI k)) (i + 1) = many) (fun i => nI i - many + 1) (100 - 0) 0 = gapf (fun k => cntH x (nI k)) many) → Cf p l e ({ frames := 1, cells := 0, slots := 0, locals := 24 }) s m args below meth c D A 4 0 0 Q 4 [(3, .int (nI 0)), (2, .int (frun (fun k => cntH x (nI k)) 0)), (0, .ref (a 32)), (1, .int many)] [] (wB ct a x)) (rfl)
  · intro hyi
    refine q_iload_n (pc2 := 5) C 0 dX0_lowestGap_4 rfl rfl rfl ?_
    refine q_bipush (v := 100) (pc2 := 7) C dX0_lowestGap_5 (by decide) rfl ?_
    refine q_icmp_ge (tgt := 43) (pc2 := 10) C dX0_lowestGap_7 (by decide) rfl (fun c7 => (q_absurd (a := 100) (b := i) c7 hi (by decide))) (fun _ => ?_)
    have hj25 : Cf p l e ({ frames := 1, cells := 0, slots := 0, locals := 24 }) s m args below meth c D A 4 0 0 Q 25 [(3, .int (nI i)), (2, .int (frun (fun k => cntH x (nI k)) i)), (0, .ref (a 32)), (1, .int many)] [.int (frun (fun k => cntH x (nI k)) (i + 1))] (wB ct a x) := by
      refine q_istore_n (lv' := [(2, .int (frun (fun k => cntH x (nI k)) (i + 1))), (3, .int (nI i)), (0, .ref (a 32)), (1, .int many)]) (pc2 := 26) C dX0_lowestGap_25 rfl (by decide) rfl rfl ?_
      refine q_iload_n (pc2 := 27) C 0 dX0_lowestGap_26 rfl rfl rfl ?_
      refine q_iload_n (pc2 := 28) C 3 dX0_lowestGap_27 rfl rfl rfl ?_
      refine q_icmp_ne (tgt := 37) (pc2 := 31) C dX0_lowestGap_28 (by decide) rfl (fun c28 => ?_) (fun c28 => ?_)
      · skip
        refine q_iinc (v := nI (i + 1)) (lv' := [(3, .int (nI (i + 1))), (2, .int (frun (fun k => cntH x (nI k)) (i + 1))), (0, .ref (a 32)), (1, .int many)]) (pc2 := 40) C 1 dX0_lowestGap_37 rfl (nI_1 i) (by decide) rfl rfl ?_
        refine q_goto (pc2 := 4) C dX0_lowestGap_40 (by decide) ?_
        refine q_lv (lv' := [(3, .int (nI (i + 1))), (2, .int (frun (fun k => cntH x (nI k)) (i + 1))), (0, .ref (a 32)), (1, .int many)]) [0, 1, 2, 3] rfl ?_
        exact ihi (fndv_no hyi hi c28)
      · skip
        refine q_iload_n (pc2 := 32) C 1 dX0_lowestGap_31 rfl rfl rfl ?_
        refine q_iload_n (pc2 := 33) C 3 dX0_lowestGap_32 rfl rfl rfl ?_
        refine q_isub (pc2 := 34) C dX0_lowestGap_33 rfl rfl ?_
        refine q_iconst (v := 1) (pc2 := 35) C dX0_lowestGap_34 (by decide) rfl ?_
        refine q_iadd (pc2 := 36) C dX0_lowestGap_35 rfl rfl ?_
        exact q_zret C hQ rfl (rfl) (Nat.zero_le _) (Nat.zero_le _) dX0_lowestGap_36 ⟨by rw [fndv_yes hyi hi c28], rfl⟩
    refine q_aload_n (pc2 := 11) C 2 dX0_lowestGap_10 rfl rfl rfl ?_
    refine q_iload_n (pc2 := 12) C 0 dX0_lowestGap_11 rfl rfl rfl ?_
    refine q_cV (pc2 := 15) (As := [.int (nI i)]) (st := []) (st2 := [.int (cntH x (nI i))]) (q0 := 0) (w2 := (wB ct a x)) (c2 := 0) (s2 := 0) C (c_X0_countHolders l D ct a x (nI i)) (cwV 1 C.w gX0_lowestGap_X0_countHolders rfl rfl rfl (by decide +kernel) ⟨Nat.le_of_ble_eq_true rfl, Nat.le_of_ble_eq_true rfl⟩) rfl rfl [0, 1, 2, 3, 4] [] [0, 1, 2, 3, 4] rfl rfl (by decide) (by decide) (by decide) rfl (by decide) dX0_lowestGap_12 rfl rfl (Nat.le_of_ble_eq_true rfl) ⟨Nat.zero_le _, Nat.zero_le _⟩ rfl rfl rfl rfl ?_
    refine q_if_ne (tgt := 24) (pc2 := 18) C dX0_lowestGap_15 (by decide) rfl (fun c15 => ?_) (fun c15 => ?_)
    · skip
      refine q_iconst (v := 0) (pc2 := 25) C dX0_lowestGap_24 (by decide) rfl ?_
      refine q_eqi (y := frun (fun k => cntH x (nI k)) (i + 1)) (by simp only [frun]; rw [if_neg c15]) ?_
      exact hj25
    · skip
      refine q_iload_n (pc2 := 19) C 1 dX0_lowestGap_18 rfl rfl rfl ?_
      refine q_iconst (v := 1) (pc2 := 20) C dX0_lowestGap_19 (by decide) rfl ?_
      refine q_iadd (pc2 := 21) C dX0_lowestGap_20 rfl rfl ?_
      refine q_goto (pc2 := 25) C dX0_lowestGap_21 (by decide) ?_
      refine q_eqi (y := frun (fun k => cntH x (nI k)) (i + 1)) (by simp only [frun]; rw [if_pos c15]) ?_
      exact hj25
  · intro hyi
    refine q_iload_n (pc2 := 5) C 0 dX0_lowestGap_4 rfl rfl rfl ?_
    refine q_bipush (v := 100) (pc2 := 7) C dX0_lowestGap_5 (by decide) rfl ?_
    refine q_icmp_ge (tgt := 43) (pc2 := 10) C dX0_lowestGap_7 (by decide) rfl (fun _ => ?_) (fun c7 => (absurd (nI_le (Nat.le_refl (100)) (by decide)) c7))
    refine q_iconst (v := (-1)) (pc2 := 44) C dX0_lowestGap_43 (by decide) rfl ?_
    exact q_zret C hQ rfl (rfl) (Nat.zero_le _) (Nat.zero_le _) dX0_lowestGap_44 ⟨by rw [fndv_end hyi], rfl⟩
