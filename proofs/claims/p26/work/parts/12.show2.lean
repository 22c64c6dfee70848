/-! the show: cues begin, time goes by, a stand-in -/
theorem fillp_lt (p : Nat → Prop) [DecidablePred p] (f g : Nat → Int32) (i : Nat) (hp : p i) : upd (fun k => if k < i ∧ p k then f k else g k) i (f i) = fun k => if k < i + 1 ∧ p k then f k else g k := by
  funext k
  by_cases hk : k = i
  · subst hk; rw [upd_s, if_pos ⟨Nat.lt_succ_self _, hp⟩]
  · rw [upd_n hk]
    by_cases h1 : k < i ∧ p k
    · rw [if_pos h1, if_pos ⟨Nat.lt_succ_of_lt h1.1, h1.2⟩]
    · rw [if_neg h1, if_neg (fun z => h1 ⟨by omega, z.2⟩)]
theorem fillp_no (p : Nat → Prop) [DecidablePred p] (f g : Nat → Int32) (i : Nat) (hp : ¬ p i) : (fun k => if k < i ∧ p k then f k else g k) = fun k => if k < i + 1 ∧ p k then f k else g k := by
  funext k
  by_cases h1 : k < i ∧ p k
  · rw [if_pos h1, if_pos ⟨Nat.lt_succ_of_lt h1.1, h1.2⟩]
  · rw [if_neg h1, if_neg (fun z => h1 ⟨Nat.lt_of_le_of_ne (Nat.le_of_lt_succ z.1) (fun e => hp (e ▸ z.2)), z.2⟩)]
theorem fillp_0 (p : Nat → Prop) [DecidablePred p] (f g : Nat → Int32) : (fun k => if k < 0 ∧ p k then f k else g k) = g := by
  funext k; rw [if_neg (fun z => Nat.not_lt_zero k z.1)]
/-- the lamps from 0 to i - 1 of the cue c have begun -/
def bgn (x : Nat → Nat → Int32) (c i : Nat) : Nat → Nat → Int32 :=
  set2 (set2 (set2 x 25 (fun k => if k < i ∧ x 20 (10 * c + k) ≠ -1 then wlX x k else x 25 k)) 26 (fun k => if k < i ∧ x 20 (10 * c + k) ≠ -1 then x 20 (10 * c + k) else x 26 k)) 24 (fun k => if k < i ∧ x 20 (10 * c + k) ≠ -1 then nI c else x 24 k)
theorem bgn_wl (x : Nat → Nat → Int32) (c i : Nat) : wlX (bgn x c i) i = wlX x i := by
  simp [wlX, wlv, bgn, set2]
def begS (x : Nat → Nat → Int32) (c : Nat) : Nat → Nat → Int32 := set2 (set2 (bgn x c 10) 23 (upd (x 23) c (x 21 0))) 22 (fun _ => nI c)
def bnS : Nat → Nat → (Nat → Nat → Int32) → (Nat → Nat → Int32)
  | 0, _, x => x
  | k + 1, i, x => if x 19 i = 0 then bnS k (i + 1) (begS x i) else begS x i
def fixS (x z : Nat → Nat → Int32) : Nat → Nat → Int32 := set2 (set2 (set2 (set2 (set2 x 22 (z 22)) 23 (z 23)) 24 (z 24)) 25 (z 25)) 26 (z 26)
theorem begS_o (x : Nat → Nat → Int32) (c j : Nat) (h : j < 22 ∨ 26 < j) : begS x c j = x j := by
  simp only [begS, bgn]
  rw [set2_n _ _ _ _ (by omega), set2_n _ _ _ _ (by omega), set2_n _ _ _ _ (by omega), set2_n _ _ _ _ (by omega), set2_n _ _ _ _ (by omega)]
theorem bnS_o : ∀ (n i : Nat) (x : Nat → Nat → Int32) (j : Nat), (j < 22 ∨ 26 < j) → bnS n i x j = x j
  | 0, _, _, _, _ => rfl
  | n + 1, i, x, j, h => by
    simp only [bnS]
    split
    · rw [bnS_o n (i + 1) (begS x i) j h, begS_o x i j h]
    · exact begS_o x i j h
theorem wS_fix (ct : Nat → ClassId) (a : Nat → Nat) (x z : Nat → Nat → Int32) (h : ∀ j, (j < 22 ∨ 26 < j) → z j = x j) : wS ct a z = wS ct a (fixS x z) := by
  have e : ∀ j, z j = fixS x z j := by
    intro j
    simp only [fixS, set2]
    repeat' split
    all_goals first | (subst_vars; rfl) | exact h j (by omega)
  exact congrArg (wS ct a) (funext e)

set_option maxHeartbeats 4000000 in
set_option maxRecDepth 100000 in
theorem c_X2_begin (l : Launch) (D : va_G) (ct : Nat → ClassId) (a : Nat → Nat) (x : Nat → Nat → Int32) (c : Nat) (hc8 : c < 8) (q : Nat) (hq : x 16 0 = nI q) (hq8 : q ≤ 8) (hfd : ∀ c, c < 8 → fadeOk (x 17 c)) : qM l yX2_begin wsX2_begin ({ frames := 3, cells := 0, slots := 0, locals := 69 }) D ct [.ref (a 33), .int (nI c)] (wS ct a x) (qD none (wS ct a (begS x c))) 0 0 := by
  refine q_start (ret := none) (lv := [(0, .ref (a 33)), (1, .int (nI c))]) (by decide +kernel) rfl (Nat.le_of_ble_eq_true rfl) rfl ?_
  intro p e s m args below meth c0 A Q C hQ hnm
  have hT2 : ∀ w ∈ u_ws RX2 TX2 11, w ∈ wsX2_begin := by decide +kernel
  have f25 : (Cond.fieldLink RX2 25 "PlotPatch$Show" "named" "[I").before args s = true := C.w _ (by decide +kernel)
  have f46 : (Cond.fieldLink RX2 46 "PlotPatch$Show" "from" "[I").before args s = true := C.w _ (by decide +kernel)
  have f49 : (Cond.fieldLink RX2 49 "PlotPatch$Show" "to" "[I").before args s = true := C.w _ (by decide +kernel)
  have f43 : (Cond.fieldLink RX2 43 "PlotPatch$Show" "ruling" "[I").before args s = true := C.w _ (by decide +kernel)
  have f40 : (Cond.fieldLink RX2 40 "PlotPatch$Show" "beganAt" "[I").before args s = true := C.w _ (by decide +kernel)
  have f34 : (Cond.fieldLink RX2 34 "PlotPatch$Show" "time" "I").before args s = true := C.w _ (by decide +kernel)
  have f37 : (Cond.fieldLink RX2 37 "PlotPatch$Show" "last" "I").before args s = true := C.w _ (by decide +kernel)
  refine q_iconst (v := 0) (pc2 := 1) C dX2_begin_0 (by decide) rfl ?_
  refine q_istore_n (lv' := [(2, .int 0), (0, .ref (a 33)), (1, .int (nI c))]) (pc2 := 2) C dX2_begin_1 rfl (by decide) rfl rfl ?_
  refine q_eqw (ws' := (wS ct a (bgn x c 0))) (by unfold bgn; rw [fillp_0, fillp_0, fillp_0]; rfl) ?_
  refine q_lv (lv' := [(2, .int 0), (0, .ref (a 33)), (1, .int (nI c))]) [0, 1, 2] rfl ?_
  refine lp_up (P := fun i => Cf p l e ({ frames := 3, cells := 0, slots := 0, locals := 69 }) s m args below meth c0 D A 4 0 0 Q 2 [(2, .int (nI i)), (0, .ref (a 33)), (1, .int (nI c))] [] (wS ct a (bgn x c i))) (10) (fun i hi ihi => ?_) ?_
  · skip
    refine q_iload_n (pc2 := 3) C 0 dX2_begin_2 rfl rfl rfl ?_
    refine q_bipush (v := 10) (pc2 := 5) C dX2_begin_3 (by decide) rfl ?_
    refine q_icmp_ge (tgt := 55) (pc2 := 8) C dX2_begin_5 (by decide) rfl (fun c5 => (q_absurd (a := 10) (b := i) c5 hi (by decide))) (fun _ => ?_)
    refine q_aload_n (pc2 := 9) C 1 dX2_begin_8 rfl rfl rfl ?_
    refine q_get (q0 := 0) (k := 4) (v := .ref (a 20)) (pc2 := 12) C hT2 f25 (wS_g0 ct a (bgn x c i)) rfl (by decide) rfl rfl dX2_begin_9 rfl ?_
    refine q_iload_n (pc2 := 13) C 2 dX2_begin_12 rfl rfl rfl ?_
    refine q_iload_n (pc2 := 14) C 0 dX2_begin_13 rfl rfl rfl ?_
    refine q_cS (pc2 := 17) (As := [.int (nI c), .int (nI i)]) (st := [.ref (a 20)]) (st2 := [.int (((nI c) * 10) + (nI i)), .ref (a 20)]) (w2 := (wS ct a (bgn x c i))) (c2 := 0) (s2 := 0) C (c_X2_cell l D ct (nI c) (nI i)) (va_cwS 2 C.w gX2_begin_X2_cell rfl rfl rfl (by decide +kernel) ⟨Nat.le_of_ble_eq_true rfl, Nat.le_of_ble_eq_true rfl⟩) [] [0, 1, 2, 3, 4, 5, 6, 7, 8] [0, 1, 2, 3, 4, 5, 6, 7, 8] rfl rfl (by decide) (by decide) (by decide) rfl (by decide) dX2_begin_14 rfl rfl (Nat.le_of_ble_eq_true rfl) ⟨Nat.zero_le _, Nat.zero_le _⟩ rfl rfl rfl rfl ?_
    refine q_eqi (y := nI (10 * c + i)) (by exact cellI _ _ 10) ?_
    refine q_iald (q0 := 4) (f := ((bgn x c i) 20)) (pc2 := 18) C (10 * c + i) (wS_g4 ct a (bgn x c i)) rfl (rfl) (by omega) (by decide) dX2_begin_17 rfl ?_
    refine q_eqi (y := (x 20 (10 * c + i))) (rfl) ?_
    refine q_istore_n (lv' := [(3, .int (x 20 (10 * c + i))), (2, .int (nI i)), (0, .ref (a 33)), (1, .int (nI c))]) (pc2 := 19) C dX2_begin_18 rfl (by decide) rfl rfl ?_
    refine q_iload_n (pc2 := 20) C 0 dX2_begin_19 rfl rfl rfl ?_
    refine q_iconst (v := (-1)) (pc2 := 21) C dX2_begin_20 (by decide) rfl ?_
    refine q_icmp_eq (tgt := 49) (pc2 := 24) C dX2_begin_21 (by decide) rfl (fun c21 => ?_) (fun c21 => ?_)
    · skip
      refine q_iinc (v := nI (i + 1)) (lv' := [(2, .int (nI (i + 1))), (3, .int (x 20 (10 * c + i))), (0, .ref (a 33)), (1, .int (nI c))]) (pc2 := 52) C 1 dX2_begin_49 rfl (nI_1 i) (by decide) rfl rfl ?_
      refine q_goto (pc2 := 2) C dX2_begin_52 (by decide) ?_
      refine q_lv (lv' := [(2, .int (nI (i + 1))), (0, .ref (a 33)), (1, .int (nI c))]) [0, 2, 3] rfl ?_
      refine q_eqw (ws' := (wS ct a (bgn x c (i + 1)))) (by have hc : ¬ x 20 (10 * c + i) ≠ -1 := fun z => z c21; unfold bgn; rw [fillp_no (fun k => x 20 (10 * c + k) ≠ -1) (wlX x) (x 25) i hc, fillp_no (fun k => x 20 (10 * c + k) ≠ -1) (fun k => x 20 (10 * c + k)) (x 26) i hc, fillp_no (fun k => x 20 (10 * c + k) ≠ -1) (fun _ => nI c) (x 24) i hc]) ?_
      exact ihi
    · skip
      refine q_aload_n (pc2 := 25) C 2 dX2_begin_24 rfl rfl rfl ?_
      refine q_get (q0 := 0) (k := 9) (v := .ref (a 25)) (pc2 := 28) C hT2 f46 (wS_g0 ct a (bgn x c i)) rfl (by decide) rfl rfl dX2_begin_25 rfl ?_
      refine q_iload_n (pc2 := 29) C 1 dX2_begin_28 rfl rfl rfl ?_
      refine q_aload_n (pc2 := 30) C 2 dX2_begin_29 rfl rfl rfl ?_
      refine q_iload_n (pc2 := 31) C 1 dX2_begin_30 rfl rfl rfl ?_
      refine q_cV (pc2 := 34) (As := [.int (nI i)]) (st := [.int (nI i), .ref (a 25)]) (st2 := [.int (wlX (bgn x c i) i), .int (nI i), .ref (a 25)]) (q0 := 0) (w2 := (wS ct a (bgn x c i))) (c2 := 0) (s2 := 0) C (c_X2_wantedLevel l D ct a (bgn x c i) i hi q hq hq8 hfd) (cwV 1 C.w gX2_begin_X2_wantedLevel rfl rfl rfl (by decide +kernel) ⟨Nat.le_of_ble_eq_true rfl, Nat.le_of_ble_eq_true rfl⟩) rfl rfl [0, 1, 2, 3, 4, 5, 6, 7, 8] [] [0, 1, 2, 3, 4, 5, 6, 7, 8] rfl rfl (by decide) (by decide) (by decide) rfl (by decide) dX2_begin_31 rfl rfl (Nat.le_of_ble_eq_true rfl) ⟨Nat.zero_le _, Nat.zero_le _⟩ rfl rfl rfl rfl ?_
      refine q_eqi (y := wlX x i) (bgn_wl x c i) ?_
      refine q_iast (q0 := 7) (f := ((bgn x c i) 25)) (ws' := (wS ct a (set2 (bgn x c i) 25 (upd ((bgn x c i) 25) i (wlX x i))))) (pc2 := 35) C i (wS_g7 ct a (bgn x c i)) rfl (rfl) (by omega) (by decide) (wS_a7 ct a (bgn x c i) (upd ((bgn x c i) 25) i (wlX x i))) dX2_begin_34 rfl ?_
      refine q_aload_n (pc2 := 36) C 2 dX2_begin_35 rfl rfl rfl ?_
      refine q_get (q0 := 0) (k := 10) (v := .ref (a 26)) (pc2 := 39) C hT2 f49 (wS_g0 ct a (set2 (bgn x c i) 25 (upd ((bgn x c i) 25) i (wlX x i)))) rfl (by decide) rfl rfl dX2_begin_36 rfl ?_
      refine q_iload_n (pc2 := 40) C 1 dX2_begin_39 rfl rfl rfl ?_
      refine q_iload_n (pc2 := 41) C 0 dX2_begin_40 rfl rfl rfl ?_
      refine q_iast (q0 := 8) (f := ((bgn x c i) 26)) (ws' := (wS ct a (set2 (set2 (bgn x c i) 25 (upd ((bgn x c i) 25) i (wlX x i))) 26 (upd ((bgn x c i) 26) i (x 20 (10 * c + i)))))) (pc2 := 42) C i (wS_g8 ct a (set2 (bgn x c i) 25 (upd ((bgn x c i) 25) i (wlX x i)))) rfl (rfl) (by omega) (by decide) (wS_a8 ct a (set2 (bgn x c i) 25 (upd ((bgn x c i) 25) i (wlX x i))) (upd ((bgn x c i) 26) i (x 20 (10 * c + i)))) dX2_begin_41 rfl ?_
      refine q_aload_n (pc2 := 43) C 2 dX2_begin_42 rfl rfl rfl ?_
      refine q_get (q0 := 0) (k := 8) (v := .ref (a 24)) (pc2 := 46) C hT2 f43 (wS_g0 ct a (set2 (set2 (bgn x c i) 25 (upd ((bgn x c i) 25) i (wlX x i))) 26 (upd ((bgn x c i) 26) i (x 20 (10 * c + i))))) rfl (by decide) rfl rfl dX2_begin_43 rfl ?_
      refine q_iload_n (pc2 := 47) C 1 dX2_begin_46 rfl rfl rfl ?_
      refine q_iload_n (pc2 := 48) C 3 dX2_begin_47 rfl rfl rfl ?_
      refine q_iast (q0 := 6) (f := ((bgn x c i) 24)) (ws' := (wS ct a (set2 (set2 (set2 (bgn x c i) 25 (upd ((bgn x c i) 25) i (wlX x i))) 26 (upd ((bgn x c i) 26) i (x 20 (10 * c + i)))) 24 (upd ((bgn x c i) 24) i (nI c))))) (pc2 := 49) C i (wS_g6 ct a (set2 (set2 (bgn x c i) 25 (upd ((bgn x c i) 25) i (wlX x i))) 26 (upd ((bgn x c i) 26) i (x 20 (10 * c + i))))) rfl (rfl) (by omega) (by decide) (wS_a6 ct a (set2 (set2 (bgn x c i) 25 (upd ((bgn x c i) 25) i (wlX x i))) 26 (upd ((bgn x c i) 26) i (x 20 (10 * c + i)))) (upd ((bgn x c i) 24) i (nI c))) dX2_begin_48 rfl ?_
      refine q_iinc (v := nI (i + 1)) (lv' := [(2, .int (nI (i + 1))), (3, .int (x 20 (10 * c + i))), (0, .ref (a 33)), (1, .int (nI c))]) (pc2 := 52) C 1 dX2_begin_49 rfl (nI_1 i) (by decide) rfl rfl ?_
      refine q_goto (pc2 := 2) C dX2_begin_52 (by decide) ?_
      refine q_lv (lv' := [(2, .int (nI (i + 1))), (0, .ref (a 33)), (1, .int (nI c))]) [0, 2, 3] rfl ?_
      refine q_eqw (ws' := (wS ct a (bgn x c (i + 1)))) (by unfold bgn; rw [← fillp_lt (fun k => x 20 (10 * c + k) ≠ -1) (wlX x) (x 25) i c21, ← fillp_lt (fun k => x 20 (10 * c + k) ≠ -1) (fun k => x 20 (10 * c + k)) (x 26) i c21, ← fillp_lt (fun k => x 20 (10 * c + k) ≠ -1) (fun _ => nI c) (x 24) i c21]; rfl) ?_
      exact ihi
  · skip
    refine q_iload_n (pc2 := 3) C 0 dX2_begin_2 rfl rfl rfl ?_
    refine q_bipush (v := 10) (pc2 := 5) C dX2_begin_3 (by decide) rfl ?_
    refine q_icmp_ge (tgt := 55) (pc2 := 8) C dX2_begin_5 (by decide) rfl (fun _ => ?_) (fun c5 => (absurd (nI_le (Nat.le_refl (10)) (by decide)) c5))
    refine q_aload_n (pc2 := 56) C 1 dX2_begin_55 rfl rfl rfl ?_
    refine q_get (q0 := 0) (k := 7) (v := .ref (a 23)) (pc2 := 59) C hT2 f40 (wS_g0 ct a (bgn x c 10)) rfl (by decide) rfl rfl dX2_begin_56 rfl ?_
    refine q_iload_n (pc2 := 60) C 2 dX2_begin_59 rfl rfl rfl ?_
    refine q_aload_n (pc2 := 61) C 1 dX2_begin_60 rfl rfl rfl ?_
    refine q_get (q0 := 0) (k := 5) (v := .int ((bgn x c 10) 21 0)) (pc2 := 64) C hT2 f34 (wS_g0 ct a (bgn x c 10)) rfl (by decide) rfl rfl dX2_begin_61 rfl ?_
    refine q_iast (q0 := 5) (f := ((bgn x c 10) 23)) (ws' := (wS ct a (set2 (bgn x c 10) 23 (upd ((bgn x c 10) 23) c ((bgn x c 10) 21 0))))) (pc2 := 65) C c (wS_g5 ct a (bgn x c 10)) rfl (rfl) (by omega) (by decide) (wS_a5 ct a (bgn x c 10) (upd ((bgn x c 10) 23) c ((bgn x c 10) 21 0))) dX2_begin_64 rfl ?_
    refine q_aload_n (pc2 := 66) C 1 dX2_begin_65 rfl rfl rfl ?_
    refine q_iload_n (pc2 := 67) C 2 dX2_begin_66 rfl rfl rfl ?_
    refine q_put (q0 := 0) (k := 6) (ty := .int) (ws' := (wS ct a (set2 (set2 (bgn x c 10) 23 (upd ((bgn x c 10) 23) c ((bgn x c 10) 21 0))) 22 (fun _ => (nI c))))) (pc2 := 70) C hT2 tyX2_ok nmX2 f37 (wS_g0 ct a (set2 (bgn x c 10) 23 (upd ((bgn x c 10) 23) c ((bgn x c 10) 21 0)))) rfl (by decide) rfl rfl (by decide +kernel) rfl rfl (Nat.le_of_ble_eq_true rfl) (wS_s0_6 ct a (set2 (bgn x c 10) 23 (upd ((bgn x c 10) 23) c ((bgn x c 10) 21 0))) (nI c)) dX2_begin_67 rfl ?_
    exact q_vret C hQ rfl (Nat.zero_le _) (Nat.zero_le _) dX2_begin_70 ⟨rfl, rfl⟩

set_option maxHeartbeats 4000000 in
set_option maxRecDepth 100000 in
theorem c_X2_beginNext (l : Launch) (D : va_G) (ct : Nat → ClassId) (a : Nat → Nat) (x : Nat → Nat → Int32) (q : Nat) (hq : x 16 0 = nI q) (hq8 : q ≤ 8) (hfd : ∀ c, c < 8 → fadeOk (x 17 c)) (b : Nat) (hb : x 22 0 + 1 = nI b) (hbq : b ≤ q) : qM l yX2_beginNext wsX2_beginNext ({ frames := 4, cells := 0, slots := 0, locals := 92 }) D ct [.ref (a 33)] (wS ct a x) (qD (some (.int (bnS (q - b) b x 22 0 - x 22 0))) (wS ct a (fixS x (bnS (q - b) b x)))) 0 0 := by
  refine q_start (ret := some .int) (lv := [(0, .ref (a 33))]) (by decide +kernel) rfl (Nat.le_of_ble_eq_true rfl) rfl ?_
  intro p e s m args below meth c A Q C hQ hnm
  have hT2 : ∀ w ∈ u_ws RX2 TX2 11, w ∈ wsX2_beginNext := by decide +kernel
  have f37 : (Cond.fieldLink RX2 37 "PlotPatch$Show" "last" "I").before args s = true := C.w _ (by decide +kernel)
  have f9 : (Cond.fieldLink RX2 9 "PlotPatch$Show" "cueCount" "I").before args s = true := C.w _ (by decide +kernel)
  have f22 : (Cond.fieldLink RX2 22 "PlotPatch$Show" "follows" "[I").before args s = true := C.w _ (by decide +kernel)
  refine q_aload_n (pc2 := 1) C 0 dX2_beginNext_0 rfl rfl rfl ?_
  refine q_get (q0 := 0) (k := 6) (v := .int (x 22 0)) (pc2 := 4) C hT2 f37 (wS_g0 ct a x) rfl (by decide) rfl rfl dX2_beginNext_1 rfl ?_
  refine q_istore_n (lv' := [(1, .int (x 22 0)), (0, .ref (a 33))]) (pc2 := 5) C dX2_beginNext_4 rfl (by decide) rfl rfl ?_
  refine q_iload_n (pc2 := 6) C 0 dX2_beginNext_5 rfl rfl rfl ?_
  refine q_iconst (v := 1) (pc2 := 7) C dX2_beginNext_6 (by decide) rfl ?_
  refine q_iadd (v := nI b) (pc2 := 8) C dX2_beginNext_7 (hb) rfl ?_
  refine q_istore_n (lv' := [(2, .int (nI b)), (1, .int (x 22 0)), (0, .ref (a 33))]) (pc2 := 9) C dX2_beginNext_8 rfl (by decide) rfl rfl ?_
  refine q_lv (lv' := [(2, .int (nI b)), (1, .int (x 22 0)), (0, .ref (a 33))]) [0, 1, 2] rfl ?_
  have hl9 : ∀ (n i : Nat) (z : Nat → Nat → Int32), n + i = q → (∀ j, (j < 22 ∨ 26 < j) → z j = x j) → bnS n i z = bnS (q - b) b x → Cf p l e ({ frames := 4, cells := 0, slots := 0, locals := 92 }) s m args below meth c D A 3 0 0 Q 9 [(2, .int (nI i)), (1, .int (x 22 0)), (0, .ref (a 33))] [] (wS ct a z) := by
    intro n
    induction n with
    | zero =>
      intro i z hni hz hR
      have hzq : z 16 0 = nI q := by rw [hz 16 (by omega)]; exact hq
      refine q_iload_n (pc2 := 10) C 0 dX2_beginNext_9 rfl rfl rfl ?_
      refine q_aload_n (pc2 := 11) C 2 dX2_beginNext_10 rfl rfl rfl ?_
      refine q_get (q0 := 0) (k := 0) (v := .int (z 16 0)) (pc2 := 14) C hT2 f9 (wS_g0 ct a z) rfl (by decide) rfl rfl dX2_beginNext_11 rfl ?_
      refine q_icmp_ge (tgt := 40) (pc2 := 17) C dX2_beginNext_14 (by decide) rfl (fun _ => ?_) (fun c14 => (absurd (show z 16 0 ≤ nI i by rw [hzq]; exact nI_le (by omega) (by omega)) c14))
      refine q_aload_n (pc2 := 41) C 2 dX2_beginNext_40 rfl rfl rfl ?_
      refine q_get (q0 := 0) (k := 6) (v := .int (z 22 0)) (pc2 := 44) C hT2 f37 (wS_g0 ct a z) rfl (by decide) rfl rfl dX2_beginNext_41 rfl ?_
      refine q_iload_n (pc2 := 45) C 1 dX2_beginNext_44 rfl rfl rfl ?_
      refine q_isub (pc2 := 46) C dX2_beginNext_45 rfl rfl ?_
      have hRe : z = bnS (q - b) b x := hR
      exact q_zret C hQ rfl (rfl) (Nat.zero_le _) (Nat.zero_le _) dX2_beginNext_46 ⟨by rw [hRe], by rw [hRe]; exact wS_fix ct a x _ (bnS_o (q - b) b x)⟩
    | succ n ih =>
      intro i z hni hz hR
      have hzq : z 16 0 = nI q := by rw [hz 16 (by omega)]; exact hq
      have hzf : ∀ c, c < 8 → fadeOk (z 17 c) := by rw [hz 17 (by omega)]; exact hfd
      refine q_iload_n (pc2 := 10) C 0 dX2_beginNext_9 rfl rfl rfl ?_
      refine q_aload_n (pc2 := 11) C 2 dX2_beginNext_10 rfl rfl rfl ?_
      refine q_get (q0 := 0) (k := 0) (v := .int (z 16 0)) (pc2 := 14) C hT2 f9 (wS_g0 ct a z) rfl (by decide) rfl rfl dX2_beginNext_11 rfl ?_
      refine q_icmp_ge (tgt := 40) (pc2 := 17) C dX2_beginNext_14 (by decide) rfl (fun c14 => (absurd (show nI q ≤ nI i by rw [← hzq]; exact c14) (fun w9 => Nat.lt_irrefl i (Nat.lt_of_lt_of_le (show i < q by omega) ((nI_leI (by omega) (by omega)).mp w9))))) (fun _ => ?_)
      refine q_aload_n (pc2 := 18) C 2 dX2_beginNext_17 rfl rfl rfl ?_
      refine q_iload_n (pc2 := 19) C 0 dX2_beginNext_18 rfl rfl rfl ?_
      refine q_cV (pc2 := 22) (As := [.int (nI i)]) (st := []) (st2 := []) (q0 := 0) (w2 := (wS ct a (begS z i))) (c2 := 0) (s2 := 0) C (c_X2_begin l D ct a z i (by omega) q hzq hq8 hzf) (cwV 1 C.w gX2_beginNext_X2_begin rfl rfl rfl (by decide +kernel) ⟨Nat.le_of_ble_eq_true rfl, Nat.le_of_ble_eq_true rfl⟩) rfl rfl [0, 1, 2, 3, 4, 5, 6, 7, 8] [] [0, 1, 2, 3, 4, 5, 6, 7, 8] rfl rfl (by decide) (by decide) (by decide) rfl (by decide) dX2_beginNext_19 rfl rfl (Nat.le_of_ble_eq_true rfl) ⟨Nat.zero_le _, Nat.zero_le _⟩ rfl rfl rfl rfl ?_
      skip
      refine q_aload_n (pc2 := 23) C 2 dX2_beginNext_22 rfl rfl rfl ?_
      refine q_get (q0 := 0) (k := 3) (v := .ref (a 19)) (pc2 := 26) C hT2 f22 (wS_g0 ct a (begS z i)) rfl (by decide) rfl rfl dX2_beginNext_23 rfl ?_
      refine q_iload_n (pc2 := 27) C 0 dX2_beginNext_26 rfl rfl rfl ?_
      refine q_iald (q0 := 3) (f := ((begS z i) 19)) (pc2 := 28) C i (wS_g3 ct a (begS z i)) rfl (rfl) (by omega) (by decide) dX2_beginNext_27 rfl ?_
      refine q_if_eq (tgt := 34) (pc2 := 31) C dX2_beginNext_28 (by decide) rfl (fun c28 => ?_) (fun c28 => ?_)
      · skip
        refine q_iinc (v := nI (i + 1)) (lv' := [(2, .int (nI (i + 1))), (1, .int (x 22 0)), (0, .ref (a 33))]) (pc2 := 37) C 0 dX2_beginNext_34 rfl (nI_1 i) (by decide) rfl rfl ?_
        refine q_goto (pc2 := 9) C dX2_beginNext_37 (by decide) ?_
        refine q_lv (lv' := [(2, .int (nI (i + 1))), (1, .int (x 22 0)), (0, .ref (a 33))]) [0, 1, 2] rfl ?_
        exact ih (i + 1) (begS z i) (by omega) (fun j hj => (begS_o z i j hj).trans (hz j hj)) (by rw [← hR]; simp only [bnS]; rw [if_pos ((congrFun (begS_o z i 19 (by omega)) i).symm.trans c28)])
      · skip
        refine q_goto (pc2 := 40) C dX2_beginNext_31 (by decide) ?_
        refine q_aload_n (pc2 := 41) C 2 dX2_beginNext_40 rfl rfl rfl ?_
        refine q_get (q0 := 0) (k := 6) (v := .int ((begS z i) 22 0)) (pc2 := 44) C hT2 f37 (wS_g0 ct a (begS z i)) rfl (by decide) rfl rfl dX2_beginNext_41 rfl ?_
        refine q_iload_n (pc2 := 45) C 1 dX2_beginNext_44 rfl rfl rfl ?_
        refine q_isub (pc2 := 46) C dX2_beginNext_45 rfl rfl ?_
        have hRe : begS z i = bnS (q - b) b x := by rw [← hR]; simp only [bnS]; rw [if_neg (fun e9 => c28 ((congrFun (begS_o z i 19 (by omega)) i).trans e9))]
        exact q_zret C hQ rfl (rfl) (Nat.zero_le _) (Nat.zero_le _) dX2_beginNext_46 ⟨by rw [hRe], by rw [hRe]; exact wS_fix ct a x _ (bnS_o (q - b) b x)⟩
  exact hl9 (q - b) b x (by omega) (fun _ _ => rfl) rfl

abbrev dueX (x : Nat → Nat → Int32) : Prop := (¬ x 22 0 < 0 ∧ x 22 0 < x 16 0 ∧ 0 < x 19 (x 22 0).toNatClampNeg ∧ x 21 0 + 1 - x 23 (x 22 0).toNatClampNeg = x 19 (x 22 0).toNatClampNeg)
def advR (x : Nat → Nat → Int32) (q b : Nat) : Int32 := if dueX x then bnS (q - b) b (set2 x 21 (fun _ => x 21 0 + 1)) 22 0 - x 22 0 else 0
def advS (x : Nat → Nat → Int32) (q b : Nat) : Nat → Nat → Int32 := if dueX x then bnS (q - b) b (set2 x 21 (fun _ => x 21 0 + 1)) else (set2 x 21 (fun _ => x 21 0 + 1))
theorem advS_o (x : Nat → Nat → Int32) (q b j : Nat) (h : j < 21 ∨ 26 < j) : advS x q b j = x j := by
  unfold advS
  split
  · rw [bnS_o _ _ _ _ (by omega), set2_n _ _ _ _ (by omega)]
  · rw [set2_n _ _ _ _ (by omega)]
theorem advS_t (x : Nat → Nat → Int32) (q b : Nat) : advS x q b 21 = fun _ => x 21 0 + 1 := by
  unfold advS
  split
  · rw [bnS_o _ _ _ _ (by omega), set2_s]
  · rw [set2_s]
/-- the state behind advance, row by row -/
def fixA (x z : Nat → Nat → Int32) : Nat → Nat → Int32 := fixS (set2 x 21 (fun _ => x 21 0 + 1)) z

set_option maxHeartbeats 4000000 in
set_option maxRecDepth 100000 in
theorem c_X2_advance (l : Launch) (D : va_G) (ct : Nat → ClassId) (a : Nat → Nat) (x : Nat → Nat → Int32) (q : Nat) (hq : x 16 0 = nI q) (hq8 : q ≤ 8) (hfd : ∀ c, c < 8 → fadeOk (x 17 c)) (b : Nat) (hb : x 22 0 + 1 = nI b) (hbq : b ≤ q) : qM l yX2_advance wsX2_advance ({ frames := 5, cells := 0, slots := 0, locals := 114 }) D ct [.ref (a 33)] (wS ct a x) (qD (some (.int (advR x q b))) (wS ct a (fixA x (advS x q b)))) 0 0 := by
  refine q_start (ret := some .int) (lv := [(0, .ref (a 33))]) (by decide +kernel) rfl (Nat.le_of_ble_eq_true rfl) rfl ?_
  intro p e s m args below meth c A Q C hQ hnm
  have hT2 : ∀ w ∈ u_ws RX2 TX2 11, w ∈ wsX2_advance := by decide +kernel
  have f34 : (Cond.fieldLink RX2 34 "PlotPatch$Show" "time" "I").before args s = true := C.w _ (by decide +kernel)
  have f37 : (Cond.fieldLink RX2 37 "PlotPatch$Show" "last" "I").before args s = true := C.w _ (by decide +kernel)
  have f9 : (Cond.fieldLink RX2 9 "PlotPatch$Show" "cueCount" "I").before args s = true := C.w _ (by decide +kernel)
  have f22 : (Cond.fieldLink RX2 22 "PlotPatch$Show" "follows" "[I").before args s = true := C.w _ (by decide +kernel)
  have f40 : (Cond.fieldLink RX2 40 "PlotPatch$Show" "beganAt" "[I").before args s = true := C.w _ (by decide +kernel)
  refine q_aload_n (pc2 := 1) C 0 dX2_advance_0 rfl rfl rfl ?_
  refine q_dup (pc2 := 2) C dX2_advance_1 rfl rfl ?_
  refine q_get (q0 := 0) (k := 5) (v := .int (x 21 0)) (pc2 := 5) C hT2 f34 (wS_g0 ct a x) rfl (by decide) rfl rfl dX2_advance_2 rfl ?_
  refine q_iconst (v := 1) (pc2 := 6) C dX2_advance_5 (by decide) rfl ?_
  refine q_iadd (pc2 := 7) C dX2_advance_6 rfl rfl ?_
  refine q_put (q0 := 0) (k := 5) (ty := .int) (ws' := (wS ct a (set2 x 21 (fun _ => ((x 21 0) + 1))))) (pc2 := 10) C hT2 tyX2_ok nmX2 f34 (wS_g0 ct a x) rfl (by decide) rfl rfl (by decide +kernel) rfl rfl (Nat.le_of_ble_eq_true rfl) (wS_s0_5 ct a x ((x 21 0) + 1)) dX2_advance_7 rfl ?_
  refine q_aload_n (pc2 := 11) C 0 dX2_advance_10 rfl rfl rfl ?_
  refine q_get (q0 := 0) (k := 6) (v := .int (x 22 0)) (pc2 := 14) C hT2 f37 (wS_g0 ct a (set2 x 21 (fun _ => ((x 21 0) + 1)))) rfl (by decide) rfl rfl dX2_advance_11 rfl ?_
  refine q_if_lt (tgt := 40) (pc2 := 17) C dX2_advance_14 (by decide) rfl (fun c14 => ?_) (fun c14 => ?_)
  · skip
    refine q_iconst (v := 0) (pc2 := 41) C dX2_advance_40 (by decide) rfl ?_
    have hnd : ¬ dueX x := fun z => by first | exact z.1 c14 | exact absurd z.2.1 (Int32.not_lt.mpr c25) | (have z3 := z.2.2.1; rw [hcl] at z3; exact c37 z3)
    exact q_zret C hQ rfl (rfl) (Nat.zero_le _) (Nat.zero_le _) dX2_advance_41 ⟨by unfold advR; rw [if_neg hnd], by unfold advS; rw [if_neg hnd]; rfl⟩
  · skip
    refine q_aload_n (pc2 := 18) C 0 dX2_advance_17 rfl rfl rfl ?_
    refine q_get (q0 := 0) (k := 6) (v := .int (x 22 0)) (pc2 := 21) C hT2 f37 (wS_g0 ct a (set2 x 21 (fun _ => ((x 21 0) + 1)))) rfl (by decide) rfl rfl dX2_advance_18 rfl ?_
    refine q_aload_n (pc2 := 22) C 0 dX2_advance_21 rfl rfl rfl ?_
    refine q_get (q0 := 0) (k := 0) (v := .int (x 16 0)) (pc2 := 25) C hT2 f9 (wS_g0 ct a (set2 x 21 (fun _ => ((x 21 0) + 1)))) rfl (by decide) rfl rfl dX2_advance_22 rfl ?_
    refine q_icmp_ge (tgt := 40) (pc2 := 28) C dX2_advance_25 (by decide) rfl (fun c25 => ?_) (fun c25 => ?_)
    · skip
      refine q_iconst (v := 0) (pc2 := 41) C dX2_advance_40 (by decide) rfl ?_
      have hnd : ¬ dueX x := fun z => by first | exact z.1 c14 | exact absurd z.2.1 (Int32.not_lt.mpr c25) | (have z3 := z.2.2.1; rw [hcl] at z3; exact c37 z3)
      exact q_zret C hQ rfl (rfl) (Nat.zero_le _) (Nat.zero_le _) dX2_advance_41 ⟨by unfold advR; rw [if_neg hnd], by unfold advS; rw [if_neg hnd]; rfl⟩
    · skip
      have hlt25 : x 22 0 < x 16 0 := Int32.not_le.mp c25
      obtain ⟨j0, hj0, ej0⟩ := nI_below (k := q) (b := x 22 0) (by rw [← hq]; exact ⟨Int32.not_lt.mp c14, hlt25⟩) (by omega)
      have hcl : (x 22 0).toNatClampNeg = j0 := by rw [ej0]; exact nI_clamp (by omega)
      refine q_aload_n (pc2 := 29) C 0 dX2_advance_28 rfl rfl rfl ?_
      refine q_get (q0 := 0) (k := 3) (v := .ref (a 19)) (pc2 := 32) C hT2 f22 (wS_g0 ct a (set2 x 21 (fun _ => ((x 21 0) + 1)))) rfl (by decide) rfl rfl dX2_advance_29 rfl ?_
      refine q_aload_n (pc2 := 33) C 0 dX2_advance_32 rfl rfl rfl ?_
      refine q_get (q0 := 0) (k := 6) (v := .int (x 22 0)) (pc2 := 36) C hT2 f37 (wS_g0 ct a (set2 x 21 (fun _ => ((x 21 0) + 1)))) rfl (by decide) rfl rfl dX2_advance_33 rfl ?_
      refine q_iald (q0 := 3) (f := (x 19)) (pc2 := 37) C j0 (wS_g3 ct a (set2 x 21 (fun _ => ((x 21 0) + 1)))) rfl (ej0) (by omega) (by decide) dX2_advance_36 rfl ?_
      refine q_if_gt (tgt := 42) (pc2 := 40) C dX2_advance_37 (by decide) rfl (fun c37 => ?_) (fun c37 => ?_)
      · skip
        refine q_aload_n (pc2 := 43) C 0 dX2_advance_42 rfl rfl rfl ?_
        refine q_get (q0 := 0) (k := 5) (v := .int ((x 21 0) + 1)) (pc2 := 46) C hT2 f34 (wS_g0 ct a (set2 x 21 (fun _ => ((x 21 0) + 1)))) rfl (by decide) rfl rfl dX2_advance_43 rfl ?_
        refine q_aload_n (pc2 := 47) C 0 dX2_advance_46 rfl rfl rfl ?_
        refine q_get (q0 := 0) (k := 7) (v := .ref (a 23)) (pc2 := 50) C hT2 f40 (wS_g0 ct a (set2 x 21 (fun _ => ((x 21 0) + 1)))) rfl (by decide) rfl rfl dX2_advance_47 rfl ?_
        refine q_aload_n (pc2 := 51) C 0 dX2_advance_50 rfl rfl rfl ?_
        refine q_get (q0 := 0) (k := 6) (v := .int (x 22 0)) (pc2 := 54) C hT2 f37 (wS_g0 ct a (set2 x 21 (fun _ => ((x 21 0) + 1)))) rfl (by decide) rfl rfl dX2_advance_51 rfl ?_
        refine q_iald (q0 := 5) (f := (x 23)) (pc2 := 55) C j0 (wS_g5 ct a (set2 x 21 (fun _ => ((x 21 0) + 1)))) rfl (ej0) (by omega) (by decide) dX2_advance_54 rfl ?_
        refine q_isub (pc2 := 56) C dX2_advance_55 rfl rfl ?_
        refine q_aload_n (pc2 := 57) C 0 dX2_advance_56 rfl rfl rfl ?_
        refine q_get (q0 := 0) (k := 3) (v := .ref (a 19)) (pc2 := 60) C hT2 f22 (wS_g0 ct a (set2 x 21 (fun _ => ((x 21 0) + 1)))) rfl (by decide) rfl rfl dX2_advance_57 rfl ?_
        refine q_aload_n (pc2 := 61) C 0 dX2_advance_60 rfl rfl rfl ?_
        refine q_get (q0 := 0) (k := 6) (v := .int (x 22 0)) (pc2 := 64) C hT2 f37 (wS_g0 ct a (set2 x 21 (fun _ => ((x 21 0) + 1)))) rfl (by decide) rfl rfl dX2_advance_61 rfl ?_
        refine q_iald (q0 := 3) (f := (x 19)) (pc2 := 65) C j0 (wS_g3 ct a (set2 x 21 (fun _ => ((x 21 0) + 1)))) rfl (ej0) (by omega) (by decide) dX2_advance_64 rfl ?_
        refine q_icmp_ne (tgt := 75) (pc2 := 68) C dX2_advance_65 (by decide) rfl (fun c65 => ?_) (fun c65 => ?_)
        · skip
          refine q_iconst (v := 0) (pc2 := 76) C dX2_advance_75 (by decide) rfl ?_
          have hnd : ¬ dueX x := fun z => by have z4 := z.2.2.2; rw [hcl] at z4; exact c65 z4
          exact q_zret C hQ rfl (rfl) (Nat.zero_le _) (Nat.zero_le _) dX2_advance_76 ⟨by unfold advR; rw [if_neg hnd], by unfold advS; rw [if_neg hnd]; rfl⟩
        · skip
          refine q_aload_n (pc2 := 69) C 0 dX2_advance_68 rfl rfl rfl ?_
          refine q_cV (pc2 := 72) (As := []) (st := []) (st2 := [.int (bnS (q - b) b (set2 x 21 (fun _ => x 21 0 + 1)) 22 0 - x 22 0)]) (q0 := 0) (w2 := (wS ct a (set2 (set2 (set2 (set2 (set2 (set2 x 21 (fun _ => ((x 21 0) + 1))) 22 (bnS (q - b) b (set2 x 21 (fun _ => x 21 0 + 1)) 22)) 23 (bnS (q - b) b (set2 x 21 (fun _ => x 21 0 + 1)) 23)) 24 (bnS (q - b) b (set2 x 21 (fun _ => x 21 0 + 1)) 24)) 25 (bnS (q - b) b (set2 x 21 (fun _ => x 21 0 + 1)) 25)) 26 (bnS (q - b) b (set2 x 21 (fun _ => x 21 0 + 1)) 26)))) (c2 := 0) (s2 := 0) C (c_X2_beginNext l D ct a (set2 x 21 (fun _ => x 21 0 + 1)) q hq hq8 hfd b hb hbq) (cwV 0 C.w gX2_advance_X2_beginNext rfl rfl rfl (by decide +kernel) ⟨Nat.le_of_ble_eq_true rfl, Nat.le_of_ble_eq_true rfl⟩) rfl rfl [0, 1, 2, 3, 4, 5, 6, 7, 8] [] [0, 1, 2, 3, 4, 5, 6, 7, 8] rfl rfl (by decide) (by decide) (by decide) rfl (by decide) dX2_advance_69 rfl rfl (Nat.le_of_ble_eq_true rfl) ⟨Nat.zero_le _, Nat.zero_le _⟩ rfl rfl rfl rfl ?_
          refine q_goto (pc2 := 76) C dX2_advance_72 (by decide) ?_
          have hdu : dueX x := ⟨c14, hlt25, by rw [hcl]; exact c37, by rw [hcl]; exact c65⟩
          exact q_zret C hQ rfl (rfl) (Nat.zero_le _) (Nat.zero_le _) dX2_advance_76 ⟨by unfold advR; rw [if_pos hdu], by unfold advS; rw [if_pos hdu]; rfl⟩
      · skip
        refine q_iconst (v := 0) (pc2 := 41) C dX2_advance_40 (by decide) rfl ?_
        have hnd : ¬ dueX x := fun z => by first | exact z.1 c14 | exact absurd z.2.1 (Int32.not_lt.mpr c25) | (have z3 := z.2.2.1; rw [hcl] at z3; exact c37 z3)
        exact q_zret C hQ rfl (rfl) (Nat.zero_le _) (Nat.zero_le _) dX2_advance_41 ⟨by unfold advR; rw [if_neg hnd], by unfold advS; rw [if_neg hnd]; rfl⟩

def hov (f : Nat → Int32) (d o : Nat) : Nat → (Nat → Int32) × Int32
  | 0 => (f, 0)
  | k + 1 => if (hov f d o k).1 (10 * k + d) = -1 then hov f d o k else (upd (upd (hov f d o k).1 (10 * k + o) ((hov f d o k).1 (10 * k + d))) (10 * k + d) (-1), (hov f d o k).2 + 1)

set_option maxHeartbeats 4000000 in
set_option maxRecDepth 100000 in
theorem c_X2_handOver (l : Launch) (D : va_G) (ct : Nat → ClassId) (a : Nat → Nat) (x : Nat → Nat → Int32) (q : Nat) (hq : x 16 0 = nI q) (hq8 : q ≤ 8) (d : Nat) (hd : d < 10) (o : Nat) (ho : o < 10) : qM l yX2_handOver wsX2_handOver ({ frames := 1, cells := 0, slots := 0, locals := 21 }) D ct [.ref (a 33), .int (nI d), .int (nI o)] (wS ct a x) (qD (some (.int (hov (x 20) d o q).2)) (wS ct a (set2 x 20 (hov (x 20) d o q).1))) 0 0 := by
  refine q_start (ret := some .int) (lv := [(0, .ref (a 33)), (1, .int (nI d)), (2, .int (nI o))]) (by decide +kernel) rfl (Nat.le_of_ble_eq_true rfl) rfl ?_
  intro p e s m args below meth c A Q C hQ hnm
  have hT2 : ∀ w ∈ u_ws RX2 TX2 11, w ∈ wsX2_handOver := by decide +kernel
  have f9 : (Cond.fieldLink RX2 9 "PlotPatch$Show" "cueCount" "I").before args s = true := C.w _ (by decide +kernel)
  have f25 : (Cond.fieldLink RX2 25 "PlotPatch$Show" "named" "[I").before args s = true := C.w _ (by decide +kernel)
  refine q_iconst (v := 0) (pc2 := 1) C dX2_handOver_0 (by decide) rfl ?_
  refine q_istore_n (lv' := [(3, .int 0), (0, .ref (a 33)), (1, .int (nI d)), (2, .int (nI o))]) (pc2 := 2) C dX2_handOver_1 rfl (by decide) rfl rfl ?_
  refine q_iconst (v := 0) (pc2 := 3) C dX2_handOver_2 (by decide) rfl ?_
  refine q_istore (lv' := [(4, .int 0), (3, .int 0), (0, .ref (a 33)), (1, .int (nI d)), (2, .int (nI o))]) (pc2 := 5) C dX2_handOver_3 (by decide) rfl rfl ?_
  refine q_lv (lv' := [(4, .int 0), (3, .int 0), (0, .ref (a 33)), (1, .int (nI d)), (2, .int (nI o))]) [0, 1, 2, 3, 4] rfl ?_
  refine q_eqw (ws' := (wS ct a (set2 x 20 (hov (x 20) d o 0).1))) (by rfl) ?_
  refine lp_up (P := fun i => Cf p l e ({ frames := 1, cells := 0, slots := 0, locals := 21 }) s m args below meth c D A 6 0 0 Q 5 [(4, .int (nI i)), (3, .int (hov (x 20) d o i).2), (0, .ref (a 33)), (1, .int (nI d)), (2, .int (nI o))] [] (wS ct a (set2 x 20 (hov (x 20) d o i).1))) (q) (fun i hi ihi => ?_) ?_
  · skip
    refine q_iload (pc2 := 7) C 0 dX2_handOver_5 rfl rfl ?_
    refine q_aload_n (pc2 := 8) C 2 dX2_handOver_7 rfl rfl rfl ?_
    refine q_get (q0 := 0) (k := 0) (v := .int (x 16 0)) (pc2 := 11) C hT2 f9 (wS_g0 ct a (set2 x 20 (hov (x 20) d o i).1)) rfl (by decide) rfl rfl dX2_handOver_8 rfl ?_
    refine q_icmp_ge (tgt := 67) (pc2 := 14) C dX2_handOver_11 (by decide) rfl (fun c11 => (q_absurd (a := q) (b := i) (show nI q ≤ nI i by rw [← hq]; exact c11) hi (by omega))) (fun _ => ?_)
    refine q_aload_n (pc2 := 15) C 2 dX2_handOver_14 rfl rfl rfl ?_
    refine q_get (q0 := 0) (k := 4) (v := .ref (a 20)) (pc2 := 18) C hT2 f25 (wS_g0 ct a (set2 x 20 (hov (x 20) d o i).1)) rfl (by decide) rfl rfl dX2_handOver_15 rfl ?_
    refine q_iload (pc2 := 20) C 0 dX2_handOver_18 rfl rfl ?_
    refine q_iload_n (pc2 := 21) C 3 dX2_handOver_20 rfl rfl rfl ?_
    refine q_cS (pc2 := 24) (As := [.int (nI i), .int (nI d)]) (st := [.ref (a 20)]) (st2 := [.int (((nI i) * 10) + (nI d)), .ref (a 20)]) (w2 := (wS ct a (set2 x 20 (hov (x 20) d o i).1))) (c2 := 0) (s2 := 0) C (c_X2_cell l D ct (nI i) (nI d)) (va_cwS 2 C.w gX2_handOver_X2_cell rfl rfl rfl (by decide +kernel) ⟨Nat.le_of_ble_eq_true rfl, Nat.le_of_ble_eq_true rfl⟩) [] [0, 1, 2, 3, 4, 5, 6, 7, 8] [0, 1, 2, 3, 4, 5, 6, 7, 8] rfl rfl (by decide) (by decide) (by decide) rfl (by decide) dX2_handOver_21 rfl rfl (Nat.le_of_ble_eq_true rfl) ⟨Nat.zero_le _, Nat.zero_le _⟩ rfl rfl rfl rfl ?_
    refine q_eqi (y := nI (10 * i + d)) (by exact cellI _ _ 10) ?_
    refine q_iald (q0 := 4) (f := (hov (x 20) d o i).1) (pc2 := 25) C (10 * i + d) (wS_g4 ct a (set2 x 20 (hov (x 20) d o i).1)) rfl (rfl) (by omega) (by decide) dX2_handOver_24 rfl ?_
    refine q_istore (lv' := [(5, .int ((hov (x 20) d o i).1 (10 * i + d))), (4, .int (nI i)), (3, .int (hov (x 20) d o i).2), (0, .ref (a 33)), (1, .int (nI d)), (2, .int (nI o))]) (pc2 := 27) C dX2_handOver_25 (by decide) rfl rfl ?_
    refine q_iload (pc2 := 29) C 0 dX2_handOver_27 rfl rfl ?_
    refine q_iconst (v := (-1)) (pc2 := 30) C dX2_handOver_29 (by decide) rfl ?_
    refine q_icmp_eq (tgt := 61) (pc2 := 33) C dX2_handOver_30 (by decide) rfl (fun c30 => ?_) (fun c30 => ?_)
    · skip
      refine q_iinc (v := nI (i + 1)) (lv' := [(4, .int (nI (i + 1))), (5, .int ((hov (x 20) d o i).1 (10 * i + d))), (3, .int (hov (x 20) d o i).2), (0, .ref (a 33)), (1, .int (nI d)), (2, .int (nI o))]) (pc2 := 64) C 1 dX2_handOver_61 rfl (nI_1 i) (by decide) rfl rfl ?_
      refine q_goto (pc2 := 5) C dX2_handOver_64 (by decide) ?_
      refine q_lv (lv' := [(4, .int (nI (i + 1))), (3, .int (hov (x 20) d o i).2), (0, .ref (a 33)), (1, .int (nI d)), (2, .int (nI o))]) [0, 2, 3, 4, 5] rfl ?_
      refine q_eql (lv' := [(4, .int (nI (i + 1))), (3, .int (hov (x 20) d o (i + 1)).2), (0, .ref (a 33)), (1, .int (nI d)), (2, .int (nI o))]) (by simp only [hov]; rw [if_pos c30]) ?_
      refine q_eqw (ws' := (wS ct a (set2 x 20 (hov (x 20) d o (i + 1)).1))) (by simp only [hov]; rw [if_pos c30]) ?_
      exact ihi
    · skip
      refine q_aload_n (pc2 := 34) C 3 dX2_handOver_33 rfl rfl rfl ?_
      refine q_get (q0 := 0) (k := 4) (v := .ref (a 20)) (pc2 := 37) C hT2 f25 (wS_g0 ct a (set2 x 20 (hov (x 20) d o i).1)) rfl (by decide) rfl rfl dX2_handOver_34 rfl ?_
      refine q_iload (pc2 := 39) C 1 dX2_handOver_37 rfl rfl ?_
      refine q_iload_n (pc2 := 40) C 5 dX2_handOver_39 rfl rfl rfl ?_
      refine q_cS (pc2 := 43) (As := [.int (nI i), .int (nI o)]) (st := [.ref (a 20)]) (st2 := [.int (((nI i) * 10) + (nI o)), .ref (a 20)]) (w2 := (wS ct a (set2 x 20 (hov (x 20) d o i).1))) (c2 := 0) (s2 := 0) C (c_X2_cell l D ct (nI i) (nI o)) (va_cwS 2 C.w gX2_handOver_X2_cell rfl rfl rfl (by decide +kernel) ⟨Nat.le_of_ble_eq_true rfl, Nat.le_of_ble_eq_true rfl⟩) [] [0, 1, 2, 3, 4, 5, 6, 7, 8] [0, 1, 2, 3, 4, 5, 6, 7, 8] rfl rfl (by decide) (by decide) (by decide) rfl (by decide) dX2_handOver_40 rfl rfl (Nat.le_of_ble_eq_true rfl) ⟨Nat.zero_le _, Nat.zero_le _⟩ rfl rfl rfl rfl ?_
      refine q_eqi (y := nI (10 * i + o)) (by exact cellI _ _ 10) ?_
      refine q_iload (pc2 := 45) C 0 dX2_handOver_43 rfl rfl ?_
      refine q_iast (q0 := 4) (f := (hov (x 20) d o i).1) (ws' := (wS ct a (set2 x 20 (upd (hov (x 20) d o i).1 (10 * i + o) ((hov (x 20) d o i).1 (10 * i + d)))))) (pc2 := 46) C (10 * i + o) (wS_g4 ct a (set2 x 20 (hov (x 20) d o i).1)) rfl (rfl) (by omega) (by decide) (wS_a4 ct a (set2 x 20 (hov (x 20) d o i).1) (upd (hov (x 20) d o i).1 (10 * i + o) ((hov (x 20) d o i).1 (10 * i + d)))) dX2_handOver_45 rfl ?_
      refine q_aload_n (pc2 := 47) C 3 dX2_handOver_46 rfl rfl rfl ?_
      refine q_get (q0 := 0) (k := 4) (v := .ref (a 20)) (pc2 := 50) C hT2 f25 (wS_g0 ct a (set2 x 20 (upd (hov (x 20) d o i).1 (10 * i + o) ((hov (x 20) d o i).1 (10 * i + d))))) rfl (by decide) rfl rfl dX2_handOver_47 rfl ?_
      refine q_iload (pc2 := 52) C 1 dX2_handOver_50 rfl rfl ?_
      refine q_iload_n (pc2 := 53) C 4 dX2_handOver_52 rfl rfl rfl ?_
      refine q_cS (pc2 := 56) (As := [.int (nI i), .int (nI d)]) (st := [.ref (a 20)]) (st2 := [.int (((nI i) * 10) + (nI d)), .ref (a 20)]) (w2 := (wS ct a (set2 x 20 (upd (hov (x 20) d o i).1 (10 * i + o) ((hov (x 20) d o i).1 (10 * i + d)))))) (c2 := 0) (s2 := 0) C (c_X2_cell l D ct (nI i) (nI d)) (va_cwS 2 C.w gX2_handOver_X2_cell rfl rfl rfl (by decide +kernel) ⟨Nat.le_of_ble_eq_true rfl, Nat.le_of_ble_eq_true rfl⟩) [] [0, 1, 2, 3, 4, 5, 6, 7, 8] [0, 1, 2, 3, 4, 5, 6, 7, 8] rfl rfl (by decide) (by decide) (by decide) rfl (by decide) dX2_handOver_53 rfl rfl (Nat.le_of_ble_eq_true rfl) ⟨Nat.zero_le _, Nat.zero_le _⟩ rfl rfl rfl rfl ?_
      refine q_eqi (y := nI (10 * i + d)) (by exact cellI _ _ 10) ?_
      refine q_iconst (v := (-1)) (pc2 := 57) C dX2_handOver_56 (by decide) rfl ?_
      refine q_iast (q0 := 4) (f := (upd (hov (x 20) d o i).1 (10 * i + o) ((hov (x 20) d o i).1 (10 * i + d)))) (ws' := (wS ct a (set2 x 20 (upd (upd (hov (x 20) d o i).1 (10 * i + o) ((hov (x 20) d o i).1 (10 * i + d))) (10 * i + d) (-1))))) (pc2 := 58) C (10 * i + d) (wS_g4 ct a (set2 x 20 (upd (hov (x 20) d o i).1 (10 * i + o) ((hov (x 20) d o i).1 (10 * i + d))))) rfl (rfl) (by omega) (by decide) (wS_a4 ct a (set2 x 20 (upd (hov (x 20) d o i).1 (10 * i + o) ((hov (x 20) d o i).1 (10 * i + d)))) (upd (upd (hov (x 20) d o i).1 (10 * i + o) ((hov (x 20) d o i).1 (10 * i + d))) (10 * i + d) (-1))) dX2_handOver_57 rfl ?_
      refine q_iinc (v := ((hov (x 20) d o i).2 + 1)) (lv' := [(3, .int ((hov (x 20) d o i).2 + 1)), (5, .int ((hov (x 20) d o i).1 (10 * i + d))), (4, .int (nI i)), (0, .ref (a 33)), (1, .int (nI d)), (2, .int (nI o))]) (pc2 := 61) C 2 dX2_handOver_58 rfl (rfl) (by decide) rfl rfl ?_
      refine q_iinc (v := nI (i + 1)) (lv' := [(4, .int (nI (i + 1))), (3, .int ((hov (x 20) d o i).2 + 1)), (5, .int ((hov (x 20) d o i).1 (10 * i + d))), (0, .ref (a 33)), (1, .int (nI d)), (2, .int (nI o))]) (pc2 := 64) C 2 dX2_handOver_61 rfl (nI_1 i) (by decide) rfl rfl ?_
      refine q_goto (pc2 := 5) C dX2_handOver_64 (by decide) ?_
      refine q_lv (lv' := [(4, .int (nI (i + 1))), (3, .int ((hov (x 20) d o i).2 + 1)), (0, .ref (a 33)), (1, .int (nI d)), (2, .int (nI o))]) [0, 1, 3, 4, 5] rfl ?_
      refine q_eql (lv' := [(4, .int (nI (i + 1))), (3, .int (hov (x 20) d o (i + 1)).2), (0, .ref (a 33)), (1, .int (nI d)), (2, .int (nI o))]) (by simp only [hov]; rw [if_neg c30]) ?_
      refine q_eqw (ws' := (wS ct a (set2 x 20 (hov (x 20) d o (i + 1)).1))) (by simp only [hov]; rw [if_neg c30]) ?_
      exact ihi
  · skip
    refine q_iload (pc2 := 7) C 0 dX2_handOver_5 rfl rfl ?_
    refine q_aload_n (pc2 := 8) C 2 dX2_handOver_7 rfl rfl rfl ?_
    refine q_get (q0 := 0) (k := 0) (v := .int (x 16 0)) (pc2 := 11) C hT2 f9 (wS_g0 ct a (set2 x 20 (hov (x 20) d o q).1)) rfl (by decide) rfl rfl dX2_handOver_8 rfl ?_
    refine q_icmp_ge (tgt := 67) (pc2 := 14) C dX2_handOver_11 (by decide) rfl (fun _ => ?_) (fun c11 => (absurd (show x 16 0 ≤ nI q by rw [hq]; exact nI_le (Nat.le_refl q) (by omega)) c11))
    refine q_iload_n (pc2 := 68) C 1 dX2_handOver_67 rfl rfl rfl ?_
    exact q_zret C hQ rfl (rfl) (Nat.zero_le _) (Nat.zero_le _) dX2_handOver_68 ⟨rfl, rfl⟩
