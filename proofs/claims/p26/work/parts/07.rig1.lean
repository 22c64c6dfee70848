/-! the rig's answers, as functions of its state -/
def absI (v : Int32) : Int32 := if 0 ≤ v then v else 0 - v
theorem cellI (t k n : Nat) : nI t * nI n + nI k = nI (n * t + k) := by rw [pk_mul, nI_add, Nat.mul_comm]
theorem fnd_no {p : Nat → Prop} [DecidablePred p] {n k : Nat} {R : Int32} (h : fnd p (n - k) k = R) (hk : k < n) (hp : ¬ p k) : fnd p (n - (k + 1)) (k + 1) = R := by
  rw [show n - k = (n - (k + 1)) + 1 by omega] at h
  simpa [fnd, hp] using h
theorem fnd_yes {p : Nat → Prop} [DecidablePred p] {n k : Nat} {R : Int32} (h : fnd p (n - k) k = R) (hk : k < n) (hp : p k) : R = nI k := by
  rw [show n - k = (n - (k + 1)) + 1 by omega] at h
  simpa [fnd, hp] using h.symm
theorem fnd_end {p : Nat → Prop} [DecidablePred p] {n : Nat} {R : Int32} (h : fnd p (n - n) n = R) : R = -1 := by
  rw [Nat.sub_self] at h
  exact h.symm
def wOnX (x : Nat → Nat → Int32) (bar : Int32) : Int32 := sumf (fun k => if x 9 k = bar then x 8 k else 0) 10
abbrev clrI (x : Nat → Nat → Int32) (lm bar place : Int32) (k : Nat) : Prop := nI k ≠ lm → x 9 k = bar → ¬ absI (x 11 k - place) < 3
abbrev clrX (x : Nat → Nat → Int32) (lm bar place : Int32) : Prop := ∀ k, k < 10 → clrI x lm bar place k
abbrev bearX (x : Nat → Nat → Int32) (h i j : Nat) : Prop := wOnX x (nI j) - (if x 9 i = nI j then x 8 i else 0) + x 8 i ≤ x 7 (4 * h + j)
abbrev plcX (x : Nat → Nat → Int32) (h j : Nat) (place : Int32) : Prop := 0 ≤ place ∧ place ≤ x 6 (4 * h + j)
def belX (x : Nat → Nat → Int32) (bar place : Int32) : Int32 := sumf (fun k => if x 9 k = bar ∧ x 11 k < place then 1 else 0) 10
def rnkX (x : Nat → Nat → Int32) (bar rank : Int32) : Int32 := fnd (fun k => x 9 k = bar ∧ belX x bar (x 11 k) = rank) 10 0
def nrst (ok : Int32 → Prop) [DecidablePred ok] (own : Int32) : Nat → Nat → Int32
  | 0, _ => -1
  | k + 1, d => if ok (own - nI d) then own - nI d else if ok (own + nI d) then own + nI d else nrst ok own k (d + 1)
theorem nrst_no {p : Int32 → Prop} [DecidablePred p] {own : Int32} {n k : Nat} {R : Int32} (h : nrst p own (n - k) k = R) (hk : k < n) (h1 : ¬ p (own - nI k)) (h2 : ¬ p (own + nI k)) : nrst p own (n - (k + 1)) (k + 1) = R := by
  rw [show n - k = (n - (k + 1)) + 1 by omega] at h
  simpa [nrst, h1, h2] using h
theorem nrst_lo {p : Int32 → Prop} [DecidablePred p] {own : Int32} {n k : Nat} {R : Int32} (h : nrst p own (n - k) k = R) (hk : k < n) (h1 : p (own - nI k)) : R = own - nI k := by
  rw [show n - k = (n - (k + 1)) + 1 by omega] at h
  simpa [nrst, h1] using h.symm
theorem nrst_hi {p : Int32 → Prop} [DecidablePred p] {own : Int32} {n k : Nat} {R : Int32} (h : nrst p own (n - k) k = R) (hk : k < n) (h1 : ¬ p (own - nI k)) (h2 : p (own + nI k)) : R = own + nI k := by
  rw [show n - k = (n - (k + 1)) + 1 by omega] at h
  simpa [nrst, h1, h2] using h.symm
theorem nrst_end {p : Int32 → Prop} [DecidablePred p] {own : Int32} {n : Nat} {R : Int32} (h : nrst p own (n - n) n = R) : R = -1 := by
  rw [Nat.sub_self] at h
  exact h.symm
abbrev okX (x : Nat → Nat → Int32) (h i j : Nat) (place : Int32) : Prop := plcX x h j place ∧ clrX x (nI i) (nI j) place
def hgP (x : Nat → Nat → Int32) (h i : Nat) (bar : Int32) : Int32 := if (0 ≤ bar ∧ bar < x 5 h) ∧ bearX x h i bar.toNatClampNeg then nrst (fun v => okX x h i bar.toNatClampNeg v) (x 11 i) 101 0 else -1
theorem nI_below {b : Int32} {k : Nat} (h : 0 ≤ b ∧ b < nI k) (hk : k < 2 ^ 31) : ∃ j, j < k ∧ b = nI j := by
  obtain ⟨j, hj, rfl⟩ := nI_of (Int32.not_lt.mpr h.1)
  exact ⟨j, (nI_ltI hj hk).mp h.2, rfl⟩
theorem fill_lt (f g : Nat → Int32) (i : Nat) : upd (fun k => if k < i then f k else g k) i (f i) = fun k => if k < i + 1 then f k else g k := by
  funext k
  by_cases hk : k = i
  · subst hk; rw [upd_s, if_pos (Nat.lt_succ_self _)]
  · rw [upd_n hk]
    by_cases h1 : k < i
    · rw [if_pos h1, if_pos (Nat.lt_succ_of_lt h1)]
    · rw [if_neg h1, if_neg (by omega)]
theorem fillc_lt (c : Int32) (g : Nat → Int32) (i : Nat) : upd (fun k => if k < i then c else g k) i c = fun k => if k < i + 1 then c else g k := fill_lt (fun _ => c) g i
def tr0 (x : Nat → Nat → Int32) (h : Nat) : Nat → Nat → Int32 := set2 (set2 (set2 x 10 (fun k => if k < 10 then x 9 k else x 10 k)) 9 (fun k => if k < 10 then -1 else x 9 k)) 4 (fun _ => nI h)
def trn (x : Nat → Nat → Int32) (h : Nat) : Nat → (Nat → Int32) × (Nat → Int32) × Int32
  | 0 => (x 9, x 11, 0)
  | k + 1 =>
    if x 10 k = -1 then trn x h k else
      (if hgP (set2 (set2 x 9 (trn x h k).1) 11 (trn x h k).2.1) h k (x 10 k) = -1 then (trn x h k).1 else upd (trn x h k).1 k (x 10 k),
       if hgP (set2 (set2 x 9 (trn x h k).1) 11 (trn x h k).2.1) h k (x 10 k) = -1 then (trn x h k).2.1 else upd (trn x h k).2.1 k (hgP (set2 (set2 x 9 (trn x h k).1) 11 (trn x h k).2.1) h k (x 10 k)),
       (trn x h k).2.2 + if hgP (set2 (set2 x 9 (trn x h k).1) 11 (trn x h k).2.1) h k (x 10 k) = -1 then 1 else 0)
def nearX (x : Nat → Nat → Int32) (h i j : Nat) (own : Int32) : Int32 := nrst (fun v => okX x h i j v) own 101 0

set_option maxHeartbeats 4000000 in
set_option maxRecDepth 100000 in
theorem c_X1_cell (l : Launch) (D : va_G) (ct : Nat → ClassId) (hh bb : Int32) : qM l yX1_cell wsX1_cell ({ frames := 0, cells := 0, slots := 0, locals := 0 }) D ct [.int hh, .int bb] [] (qD (some (.int ((hh * 4) + bb))) []) 0 0 := by
  refine q_start (ret := some .int) (lv := [(0, .int hh), (1, .int bb)]) (by decide +kernel) rfl (Nat.le_of_ble_eq_true rfl) rfl ?_
  intro p e s m args below meth c A Q C hQ hnm
  refine q_iload_n (pc2 := 1) C 0 dX1_cell_0 rfl rfl rfl ?_
  refine q_iconst (v := 4) (pc2 := 2) C dX1_cell_1 (by decide) rfl ?_
  refine q_imul (pc2 := 3) C dX1_cell_2 rfl rfl ?_
  refine q_iload_n (pc2 := 4) C 1 dX1_cell_3 rfl rfl rfl ?_
  refine q_iadd (pc2 := 5) C dX1_cell_4 rfl rfl ?_
  exact q_zret C hQ rfl (rfl) (Nat.zero_le _) (Nat.zero_le _) dX1_cell_5 ⟨rfl, rfl⟩

set_option maxHeartbeats 4000000 in
set_option maxRecDepth 100000 in
theorem c_X1_hangs (l : Launch) (D : va_G) (ct : Nat → ClassId) (a : Nat → Nat) (x : Nat → Nat → Int32) (i : Nat) (hi : i < 10) : qM l yX1_hangs wsX1_hangs ({ frames := 0, cells := 0, slots := 0, locals := 0 }) D ct [.ref (a 31), .int (nI i)] (wR ct a x) (qD (some (.int (b2 (x 9 i ≠ -1)))) (wR ct a x)) 0 0 := by
  refine q_start (ret := some .boolean) (lv := [(0, .ref (a 31)), (1, .int (nI i))]) (by decide +kernel) rfl (Nat.le_of_ble_eq_true rfl) rfl ?_
  intro p e s m args below meth c A Q C hQ hnm
  have hT1 : ∀ w ∈ u_ws RX1 TX1 8, w ∈ wsX1_hangs := by decide +kernel
  have f28 : (Cond.fieldLink RX1 28 "PlotPatch$Rig" "bars" "[I").before args s = true := C.w _ (by decide +kernel)
  refine q_aload_n (pc2 := 1) C 0 dX1_hangs_0 rfl rfl rfl ?_
  refine q_get (q0 := 0) (k := 5) (v := .ref (a 9)) (pc2 := 4) C hT1 f28 (wR_g0 ct a x) rfl (by decide) rfl rfl dX1_hangs_1 rfl ?_
  refine q_iload_n (pc2 := 5) C 1 dX1_hangs_4 rfl rfl rfl ?_
  refine q_iald (q0 := 5) (f := (x 9)) (pc2 := 6) C i (wR_g5 ct a x) rfl (rfl) (by omega) (by decide) dX1_hangs_5 rfl ?_
  refine q_iconst (v := (-1)) (pc2 := 7) C dX1_hangs_6 (by decide) rfl ?_
  refine q_icmp_eq (tgt := 14) (pc2 := 10) C dX1_hangs_7 (by decide) rfl (fun c7_1 => ?_) (fun c7_1 => ?_)
  · skip
    refine q_iconst (v := 0) (pc2 := 15) C dX1_hangs_14 (by decide) rfl ?_
    exact q_zret C hQ rfl (rfl) (Nat.zero_le _) (Nat.zero_le _) dX1_hangs_15 ⟨by simp [b2, *], rfl⟩
  · skip
    refine q_iconst (v := 1) (pc2 := 11) C dX1_hangs_10 (by decide) rfl ?_
    refine q_goto (pc2 := 15) C dX1_hangs_11 (by decide) ?_
    exact q_zret C hQ rfl (rfl) (Nat.zero_le _) (Nat.zero_le _) dX1_hangs_15 ⟨by simp [b2, *], rfl⟩

set_option maxHeartbeats 4000000 in
set_option maxRecDepth 100000 in
theorem c_X1_hasBar (l : Launch) (D : va_G) (ct : Nat → ClassId) (a : Nat → Nat) (x : Nat → Nat → Int32) (h : Nat) (hh : x 4 0 = nI h) (hlt : h < 2) (bar : Int32) : qM l yX1_hasBar wsX1_hasBar ({ frames := 0, cells := 0, slots := 0, locals := 0 }) D ct [.ref (a 31), .int bar] (wR ct a x) (qD (some (.int (b2 (0 ≤ bar ∧ bar < x 5 h)))) (wR ct a x)) 0 0 := by
  refine q_start (ret := some .boolean) (lv := [(0, .ref (a 31)), (1, .int bar)]) (by decide +kernel) rfl (Nat.le_of_ble_eq_true rfl) rfl ?_
  intro p e s m args below meth c A Q C hQ hnm
  have hT1 : ∀ w ∈ u_ws RX1 TX1 8, w ∈ wsX1_hasBar := by decide +kernel
  have f15 : (Cond.fieldLink RX1 15 "PlotPatch$Rig" "barCounts" "[I").before args s = true := C.w _ (by decide +kernel)
  have f9 : (Cond.fieldLink RX1 9 "PlotPatch$Rig" "house" "I").before args s = true := C.w _ (by decide +kernel)
  refine q_iload_n (pc2 := 1) C 1 dX1_hasBar_0 rfl rfl rfl ?_
  refine q_if_lt (tgt := 21) (pc2 := 4) C dX1_hasBar_1 (by decide) rfl (fun c1_1 => ?_) (fun c1_1 => ?_)
  · skip
    refine q_iconst (v := 0) (pc2 := 22) C dX1_hasBar_21 (by decide) rfl ?_
    exact q_zret C hQ rfl (rfl) (Nat.zero_le _) (Nat.zero_le _) dX1_hasBar_22 ⟨by rw [b2_f (fun z : 0 ≤ bar ∧ bar < x 5 h => absurd c1_1 (Int32.not_lt.mpr z.1))], rfl⟩
  · skip
    refine q_iload_n (pc2 := 5) C 1 dX1_hasBar_4 rfl rfl rfl ?_
    refine q_aload_n (pc2 := 6) C 0 dX1_hasBar_5 rfl rfl rfl ?_
    refine q_get (q0 := 0) (k := 1) (v := .ref (a 5)) (pc2 := 9) C hT1 f15 (wR_g0 ct a x) rfl (by decide) rfl rfl dX1_hasBar_6 rfl ?_
    refine q_aload_n (pc2 := 10) C 0 dX1_hasBar_9 rfl rfl rfl ?_
    refine q_get (q0 := 0) (k := 0) (v := .int (x 4 0)) (pc2 := 13) C hT1 f9 (wR_g0 ct a x) rfl (by decide) rfl rfl dX1_hasBar_10 rfl ?_
    refine q_iald (q0 := 1) (f := (x 5)) (pc2 := 14) C h (wR_g1 ct a x) rfl (hh) (hlt) (by decide) dX1_hasBar_13 rfl ?_
    refine q_icmp_ge (tgt := 21) (pc2 := 17) C dX1_hasBar_14 (by decide) rfl (fun c14_2 => ?_) (fun c14_2 => ?_)
    · skip
      refine q_iconst (v := 0) (pc2 := 22) C dX1_hasBar_21 (by decide) rfl ?_
      exact q_zret C hQ rfl (rfl) (Nat.zero_le _) (Nat.zero_le _) dX1_hasBar_22 ⟨by rw [b2_f (fun z : 0 ≤ bar ∧ bar < x 5 h => absurd c14_2 (Int32.not_le.mpr z.2))], rfl⟩
    · skip
      refine q_iconst (v := 1) (pc2 := 18) C dX1_hasBar_17 (by decide) rfl ?_
      refine q_goto (pc2 := 22) C dX1_hasBar_18 (by decide) ?_
      exact q_zret C hQ rfl (rfl) (Nat.zero_le _) (Nat.zero_le _) dX1_hasBar_22 ⟨by rw [b2_t (⟨Int32.not_lt.mp c1_1, Int32.not_le.mp c14_2⟩ : 0 ≤ bar ∧ bar < x 5 h)], rfl⟩

set_option maxHeartbeats 4000000 in
set_option maxRecDepth 100000 in
theorem c_X1_put (l : Launch) (D : va_G) (ct : Nat → ClassId) (a : Nat → Nat) (x : Nat → Nat → Int32) (i : Nat) (hi : i < 10) (bar place : Int32) : qM l yX1_put wsX1_put ({ frames := 0, cells := 0, slots := 0, locals := 0 }) D ct [.ref (a 31), .int (nI i), .int bar, .int place] (wR ct a x) (qD none (wR ct a (set2 (set2 x 9 (upd (x 9) i bar)) 11 (upd (x 11) i place)))) 0 0 := by
  refine q_start (ret := none) (lv := [(0, .ref (a 31)), (1, .int (nI i)), (2, .int bar), (3, .int place)]) (by decide +kernel) rfl (Nat.le_of_ble_eq_true rfl) rfl ?_
  intro p e s m args below meth c A Q C hQ hnm
  have hT1 : ∀ w ∈ u_ws RX1 TX1 8, w ∈ wsX1_put := by decide +kernel
  have f28 : (Cond.fieldLink RX1 28 "PlotPatch$Rig" "bars" "[I").before args s = true := C.w _ (by decide +kernel)
  have f40 : (Cond.fieldLink RX1 40 "PlotPatch$Rig" "places" "[I").before args s = true := C.w _ (by decide +kernel)
  refine q_aload_n (pc2 := 1) C 0 dX1_put_0 rfl rfl rfl ?_
  refine q_get (q0 := 0) (k := 5) (v := .ref (a 9)) (pc2 := 4) C hT1 f28 (wR_g0 ct a x) rfl (by decide) rfl rfl dX1_put_1 rfl ?_
  refine q_iload_n (pc2 := 5) C 1 dX1_put_4 rfl rfl rfl ?_
  refine q_iload_n (pc2 := 6) C 2 dX1_put_5 rfl rfl rfl ?_
  refine q_iast (q0 := 5) (f := (x 9)) (ws' := (wR ct a (set2 x 9 (upd (x 9) i bar)))) (pc2 := 7) C i (wR_g5 ct a x) rfl (rfl) (by omega) (by decide) (wR_a5 ct a x (upd (x 9) i bar)) dX1_put_6 rfl ?_
  refine q_aload_n (pc2 := 8) C 0 dX1_put_7 rfl rfl rfl ?_
  refine q_get (q0 := 0) (k := 7) (v := .ref (a 11)) (pc2 := 11) C hT1 f40 (wR_g0 ct a (set2 x 9 (upd (x 9) i bar))) rfl (by decide) rfl rfl dX1_put_8 rfl ?_
  refine q_iload_n (pc2 := 12) C 1 dX1_put_11 rfl rfl rfl ?_
  refine q_iload_n (pc2 := 13) C 3 dX1_put_12 rfl rfl rfl ?_
  refine q_iast (q0 := 7) (f := (x 11)) (ws' := (wR ct a (set2 (set2 x 9 (upd (x 9) i bar)) 11 (upd (x 11) i place)))) (pc2 := 14) C i (wR_g7 ct a (set2 x 9 (upd (x 9) i bar))) rfl (rfl) (by omega) (by decide) (wR_a7 ct a (set2 x 9 (upd (x 9) i bar)) (upd (x 11) i place)) dX1_put_13 rfl ?_
  exact q_vret C hQ rfl (Nat.zero_le _) (Nat.zero_le _) dX1_put_14 ⟨rfl, rfl⟩

set_option maxHeartbeats 4000000 in
set_option maxRecDepth 100000 in
theorem c_X1_weightOn (l : Launch) (D : va_G) (ct : Nat → ClassId) (a : Nat → Nat) (x : Nat → Nat → Int32) (bar : Int32) : qM l yX1_weightOn wsX1_weightOn ({ frames := 0, cells := 0, slots := 0, locals := 0 }) D ct [.ref (a 31), .int bar] (wR ct a x) (qD (some (.int (wOnX x bar))) (wR ct a x)) 0 0 := by
  refine q_start (ret := some .int) (lv := [(0, .ref (a 31)), (1, .int bar)]) (by decide +kernel) rfl (Nat.le_of_ble_eq_true rfl) rfl ?_
  intro p e s m args below meth c A Q C hQ hnm
  have hT1 : ∀ w ∈ u_ws RX1 TX1 8, w ∈ wsX1_weightOn := by decide +kernel
  have f28 : (Cond.fieldLink RX1 28 "PlotPatch$Rig" "bars" "[I").before args s = true := C.w _ (by decide +kernel)
  have f25 : (Cond.fieldLink RX1 25 "PlotPatch$Rig" "weights" "[I").before args s = true := C.w _ (by decide +kernel)
  refine q_iconst (v := 0) (pc2 := 1) C dX1_weightOn_0 (by decide) rfl ?_
  refine q_istore_n (lv' := [(2, .int 0), (0, .ref (a 31)), (1, .int bar)]) (pc2 := 2) C dX1_weightOn_1 rfl (by decide) rfl rfl ?_
  refine q_iconst (v := 0) (pc2 := 3) C dX1_weightOn_2 (by decide) rfl ?_
  refine q_istore_n (lv' := [(3, .int 0), (2, .int 0), (0, .ref (a 31)), (1, .int bar)]) (pc2 := 4) C dX1_weightOn_3 rfl (by decide) rfl rfl ?_
  refine q_lv (lv' := [(3, .int 0), (2, .int 0), (0, .ref (a 31)), (1, .int bar)]) [0, 1, 2, 3] rfl ?_
  refine lp_up (P := fun i => Cf p l e ({ frames := 0, cells := 0, slots := 0, locals := 0 }) s m args below meth c D A 4 0 0 Q 4 [(3, .int (nI i)), (2, .int (sumf (fun k => if x 9 k = bar then x 8 k else 0) i)), (0, .ref (a 31)), (1, .int bar)] [] (wR ct a x)) (10) (fun i hi ihi => ?_) ?_
  · skip
    refine q_iload_n (pc2 := 5) C 0 dX1_weightOn_4 rfl rfl rfl ?_
    refine q_bipush (v := 10) (pc2 := 7) C dX1_weightOn_5 (by decide) rfl ?_
    refine q_icmp_ge (tgt := 35) (pc2 := 10) C dX1_weightOn_7 (by decide) rfl (fun c7_1 => (q_absurd (a := 10) (b := i) c7_1 hi (by decide))) (fun _ => ?_)
    refine q_aload_n (pc2 := 11) C 2 dX1_weightOn_10 rfl rfl rfl ?_
    refine q_get (q0 := 0) (k := 5) (v := .ref (a 9)) (pc2 := 14) C hT1 f28 (wR_g0 ct a x) rfl (by decide) rfl rfl dX1_weightOn_11 rfl ?_
    refine q_iload_n (pc2 := 15) C 0 dX1_weightOn_14 rfl rfl rfl ?_
    refine q_iald (q0 := 5) (f := (x 9)) (pc2 := 16) C i (wR_g5 ct a x) rfl (rfl) (by omega) (by decide) dX1_weightOn_15 rfl ?_
    refine q_iload_n (pc2 := 17) C 3 dX1_weightOn_16 rfl rfl rfl ?_
    refine q_icmp_ne (tgt := 29) (pc2 := 20) C dX1_weightOn_17 (by decide) rfl (fun c17_2 => ?_) (fun c17_2 => ?_)
    · skip
      refine q_iinc (v := nI (i + 1)) (lv' := [(3, .int (nI (i + 1))), (2, .int (sumf (fun k => if x 9 k = bar then x 8 k else 0) i)), (0, .ref (a 31)), (1, .int bar)]) (pc2 := 32) C 0 dX1_weightOn_29 rfl (nI_1 i) (by decide) rfl rfl ?_
      refine q_goto (pc2 := 4) C dX1_weightOn_32 (by decide) ?_
      refine q_lv (lv' := [(3, .int (nI (i + 1))), (2, .int (sumf (fun k => if x 9 k = bar then x 8 k else 0) i)), (0, .ref (a 31)), (1, .int bar)]) [0, 1, 2, 3] rfl ?_
      refine q_eql (lv' := [(3, .int (nI (i + 1))), (2, .int (sumf (fun k => if x 9 k = bar then x 8 k else 0) (i + 1))), (0, .ref (a 31)), (1, .int bar)]) (by simp [sumf, *]) ?_
      exact ihi
    · skip
      refine q_iload_n (pc2 := 21) C 1 dX1_weightOn_20 rfl rfl rfl ?_
      refine q_aload_n (pc2 := 22) C 2 dX1_weightOn_21 rfl rfl rfl ?_
      refine q_get (q0 := 0) (k := 4) (v := .ref (a 8)) (pc2 := 25) C hT1 f25 (wR_g0 ct a x) rfl (by decide) rfl rfl dX1_weightOn_22 rfl ?_
      refine q_iload_n (pc2 := 26) C 0 dX1_weightOn_25 rfl rfl rfl ?_
      refine q_iald (q0 := 4) (f := (x 8)) (pc2 := 27) C i (wR_g4 ct a x) rfl (rfl) (by omega) (by decide) dX1_weightOn_26 rfl ?_
      refine q_iadd (pc2 := 28) C dX1_weightOn_27 rfl rfl ?_
      refine q_istore_n (lv' := [(2, .int ((sumf (fun k => if x 9 k = bar then x 8 k else 0) i) + ((x 8) i))), (3, .int (nI i)), (0, .ref (a 31)), (1, .int bar)]) (pc2 := 29) C dX1_weightOn_28 rfl (by decide) rfl rfl ?_
      refine q_iinc (v := nI (i + 1)) (lv' := [(3, .int (nI (i + 1))), (2, .int ((sumf (fun k => if x 9 k = bar then x 8 k else 0) i) + ((x 8) i))), (0, .ref (a 31)), (1, .int bar)]) (pc2 := 32) C 1 dX1_weightOn_29 rfl (nI_1 i) (by decide) rfl rfl ?_
      refine q_goto (pc2 := 4) C dX1_weightOn_32 (by decide) ?_
      refine q_lv (lv' := [(3, .int (nI (i + 1))), (2, .int ((sumf (fun k => if x 9 k = bar then x 8 k else 0) i) + ((x 8) i))), (0, .ref (a 31)), (1, .int bar)]) [0, 1, 2, 3] rfl ?_
      refine q_eql (lv' := [(3, .int (nI (i + 1))), (2, .int (sumf (fun k => if x 9 k = bar then x 8 k else 0) (i + 1))), (0, .ref (a 31)), (1, .int bar)]) (by simp [sumf, *]) ?_
      exact ihi
  · skip
    refine q_iload_n (pc2 := 5) C 0 dX1_weightOn_4 rfl rfl rfl ?_
    refine q_bipush (v := 10) (pc2 := 7) C dX1_weightOn_5 (by decide) rfl ?_
    refine q_icmp_ge (tgt := 35) (pc2 := 10) C dX1_weightOn_7 (by decide) rfl (fun _ => ?_) (fun c7_3 => (absurd (nI_le (Nat.le_refl (10)) (by decide)) c7_3))
    refine q_iload_n (pc2 := 36) C 1 dX1_weightOn_35 rfl rfl rfl ?_
    exact q_zret C hQ rfl (rfl) (Nat.zero_le _) (Nat.zero_le _) dX1_weightOn_36 ⟨rfl, rfl⟩

set_option maxHeartbeats 4000000 in
set_option maxRecDepth 100000 in
theorem c_X1_addBar (l : Launch) (D : va_G) (ct : Nat → ClassId) (a : Nat → Nat) (x : Nat → Nat → Int32) (t k : Nat) (ht : t < 2) (hk : x 5 t = nI k) (hk4 : k < 4) (len lim : Int32) : qM l yX1_addBar wsX1_addBar ({ frames := 1, cells := 0, slots := 0, locals := 21 }) D ct [.ref (a 31), .int (nI t), .int len, .int lim] (wR ct a x) (qD (some (.int (nI k))) (wR ct a (set2 (set2 (set2 x 5 (upd (x 5) t (x 5 t + 1))) 6 (upd (x 6) (4 * t + k) len)) 7 (upd (x 7) (4 * t + k) lim)))) 0 0 := by
  refine q_start (ret := some .int) (lv := [(0, .ref (a 31)), (1, .int (nI t)), (2, .int len), (3, .int lim)]) (by decide +kernel) rfl (Nat.le_of_ble_eq_true rfl) rfl ?_
  intro p e s m args below meth c A Q C hQ hnm
  have hT1 : ∀ w ∈ u_ws RX1 TX1 8, w ∈ wsX1_addBar := by decide +kernel
  have f15 : (Cond.fieldLink RX1 15 "PlotPatch$Rig" "barCounts" "[I").before args s = true := C.w _ (by decide +kernel)
  have f19 : (Cond.fieldLink RX1 19 "PlotPatch$Rig" "lengths" "[I").before args s = true := C.w _ (by decide +kernel)
  have f22 : (Cond.fieldLink RX1 22 "PlotPatch$Rig" "limits" "[I").before args s = true := C.w _ (by decide +kernel)
  refine q_aload_n (pc2 := 1) C 0 dX1_addBar_0 rfl rfl rfl ?_
  refine q_get (q0 := 0) (k := 1) (v := .ref (a 5)) (pc2 := 4) C hT1 f15 (wR_g0 ct a x) rfl (by decide) rfl rfl dX1_addBar_1 rfl ?_
  refine q_iload_n (pc2 := 5) C 1 dX1_addBar_4 rfl rfl rfl ?_
  refine q_iald (q0 := 1) (f := (x 5)) (pc2 := 6) C t (wR_g1 ct a x) rfl (rfl) (by omega) (by decide) dX1_addBar_5 rfl ?_
  refine q_istore (lv' := [(4, .int ((x 5) t)), (0, .ref (a 31)), (1, .int (nI t)), (2, .int len), (3, .int lim)]) (pc2 := 8) C dX1_addBar_6 (by decide) rfl rfl ?_
  refine q_aload_n (pc2 := 9) C 1 dX1_addBar_8 rfl rfl rfl ?_
  refine q_get (q0 := 0) (k := 1) (v := .ref (a 5)) (pc2 := 12) C hT1 f15 (wR_g0 ct a x) rfl (by decide) rfl rfl dX1_addBar_9 rfl ?_
  refine q_iload_n (pc2 := 13) C 2 dX1_addBar_12 rfl rfl rfl ?_
  refine q_dup2 (pc2 := 14) C dX1_addBar_13 rfl rfl rfl ?_
  refine q_iald (q0 := 1) (f := (x 5)) (pc2 := 15) C t (wR_g1 ct a x) rfl (rfl) (by omega) (by decide) dX1_addBar_14 rfl ?_
  refine q_iconst (v := 1) (pc2 := 16) C dX1_addBar_15 (by decide) rfl ?_
  refine q_iadd (pc2 := 17) C dX1_addBar_16 rfl rfl ?_
  refine q_iast (q0 := 1) (f := (x 5)) (ws' := (wR ct a (set2 x 5 (upd (x 5) t (((x 5) t) + 1))))) (pc2 := 18) C t (wR_g1 ct a x) rfl (rfl) (by omega) (by decide) (wR_a1 ct a x (upd (x 5) t (((x 5) t) + 1))) dX1_addBar_17 rfl ?_
  refine q_aload_n (pc2 := 19) C 1 dX1_addBar_18 rfl rfl rfl ?_
  refine q_get (q0 := 0) (k := 2) (v := .ref (a 6)) (pc2 := 22) C hT1 f19 (wR_g0 ct a (set2 x 5 (upd (x 5) t (((x 5) t) + 1)))) rfl (by decide) rfl rfl dX1_addBar_19 rfl ?_
  refine q_iload_n (pc2 := 23) C 2 dX1_addBar_22 rfl rfl rfl ?_
  refine q_iload (pc2 := 25) C 0 dX1_addBar_23 rfl rfl ?_
  refine q_cS (pc2 := 28) (As := [.int (nI t), .int ((x 5) t)]) (st := [.ref (a 6)]) (st2 := [.int (((nI t) * 4) + ((x 5) t)), .ref (a 6)]) (w2 := (wR ct a (set2 x 5 (upd (x 5) t (((x 5) t) + 1))))) (c2 := 0) (s2 := 0) C (c_X1_cell l D ct (nI t) ((x 5) t)) (va_cwS 2 C.w gX1_addBar_X1_cell rfl rfl rfl (by decide +kernel) ⟨Nat.le_of_ble_eq_true rfl, Nat.le_of_ble_eq_true rfl⟩) [] [0, 1, 2, 3, 4, 5, 6, 7] [0, 1, 2, 3, 4, 5, 6, 7] rfl rfl (by decide) (by decide) (by decide) rfl (by decide) dX1_addBar_25 rfl rfl (Nat.le_of_ble_eq_true rfl) ⟨Nat.zero_le _, Nat.zero_le _⟩ rfl rfl rfl rfl ?_
  refine q_eqi (y := nI (4 * t + k)) (by rw [hk]; exact cellI _ _ 4) ?_
  refine q_iload_n (pc2 := 29) C 3 dX1_addBar_28 rfl rfl rfl ?_
  refine q_iast (q0 := 2) (f := (x 6)) (ws' := (wR ct a (set2 (set2 x 5 (upd (x 5) t (((x 5) t) + 1))) 6 (upd (x 6) (4 * t + k) len)))) (pc2 := 30) C (4 * t + k) (wR_g2 ct a (set2 x 5 (upd (x 5) t (((x 5) t) + 1)))) rfl (rfl) (by omega) (by decide) (wR_a2 ct a (set2 x 5 (upd (x 5) t (((x 5) t) + 1))) (upd (x 6) (4 * t + k) len)) dX1_addBar_29 rfl ?_
  refine q_aload_n (pc2 := 31) C 1 dX1_addBar_30 rfl rfl rfl ?_
  refine q_get (q0 := 0) (k := 3) (v := .ref (a 7)) (pc2 := 34) C hT1 f22 (wR_g0 ct a (set2 (set2 x 5 (upd (x 5) t (((x 5) t) + 1))) 6 (upd (x 6) (4 * t + k) len))) rfl (by decide) rfl rfl dX1_addBar_31 rfl ?_
  refine q_iload_n (pc2 := 35) C 2 dX1_addBar_34 rfl rfl rfl ?_
  refine q_iload (pc2 := 37) C 0 dX1_addBar_35 rfl rfl ?_
  refine q_cS (pc2 := 40) (As := [.int (nI t), .int ((x 5) t)]) (st := [.ref (a 7)]) (st2 := [.int (((nI t) * 4) + ((x 5) t)), .ref (a 7)]) (w2 := (wR ct a (set2 (set2 x 5 (upd (x 5) t (((x 5) t) + 1))) 6 (upd (x 6) (4 * t + k) len)))) (c2 := 0) (s2 := 0) C (c_X1_cell l D ct (nI t) ((x 5) t)) (va_cwS 2 C.w gX1_addBar_X1_cell rfl rfl rfl (by decide +kernel) ⟨Nat.le_of_ble_eq_true rfl, Nat.le_of_ble_eq_true rfl⟩) [] [0, 1, 2, 3, 4, 5, 6, 7] [0, 1, 2, 3, 4, 5, 6, 7] rfl rfl (by decide) (by decide) (by decide) rfl (by decide) dX1_addBar_37 rfl rfl (Nat.le_of_ble_eq_true rfl) ⟨Nat.zero_le _, Nat.zero_le _⟩ rfl rfl rfl rfl ?_
  refine q_eqi (y := nI (4 * t + k)) (by rw [hk]; exact cellI _ _ 4) ?_
  refine q_iload_n (pc2 := 41) C 4 dX1_addBar_40 rfl rfl rfl ?_
  refine q_iast (q0 := 3) (f := (x 7)) (ws' := (wR ct a (set2 (set2 (set2 x 5 (upd (x 5) t (((x 5) t) + 1))) 6 (upd (x 6) (4 * t + k) len)) 7 (upd (x 7) (4 * t + k) lim)))) (pc2 := 42) C (4 * t + k) (wR_g3 ct a (set2 (set2 x 5 (upd (x 5) t (((x 5) t) + 1))) 6 (upd (x 6) (4 * t + k) len))) rfl (rfl) (by omega) (by decide) (wR_a3 ct a (set2 (set2 x 5 (upd (x 5) t (((x 5) t) + 1))) 6 (upd (x 6) (4 * t + k) len)) (upd (x 7) (4 * t + k) lim)) dX1_addBar_41 rfl ?_
  refine q_iload (pc2 := 44) C 0 dX1_addBar_42 rfl rfl ?_
  exact q_zret C hQ rfl (rfl) (Nat.zero_le _) (Nat.zero_le _) dX1_addBar_44 ⟨by rw [hk], rfl⟩

set_option maxHeartbeats 4000000 in
set_option maxRecDepth 100000 in
theorem c_X1_hasPlace (l : Launch) (D : va_G) (ct : Nat → ClassId) (a : Nat → Nat) (x : Nat → Nat → Int32) (h : Nat) (hh : x 4 0 = nI h) (hlt : h < 2) (j : Nat) (hj : j < 4) (place : Int32) : qM l yX1_hasPlace wsX1_hasPlace ({ frames := 1, cells := 0, slots := 0, locals := 21 }) D ct [.ref (a 31), .int (nI j), .int place] (wR ct a x) (qD (some (.int (b2 (plcX x h j place)))) (wR ct a x)) 0 0 := by
  refine q_start (ret := some .boolean) (lv := [(0, .ref (a 31)), (1, .int (nI j)), (2, .int place)]) (by decide +kernel) rfl (Nat.le_of_ble_eq_true rfl) rfl ?_
  intro p e s m args below meth c A Q C hQ hnm
  have hT1 : ∀ w ∈ u_ws RX1 TX1 8, w ∈ wsX1_hasPlace := by decide +kernel
  have f19 : (Cond.fieldLink RX1 19 "PlotPatch$Rig" "lengths" "[I").before args s = true := C.w _ (by decide +kernel)
  have f9 : (Cond.fieldLink RX1 9 "PlotPatch$Rig" "house" "I").before args s = true := C.w _ (by decide +kernel)
  refine q_iload_n (pc2 := 1) C 2 dX1_hasPlace_0 rfl rfl rfl ?_
  refine q_if_lt (tgt := 25) (pc2 := 4) C dX1_hasPlace_1 (by decide) rfl (fun c1 => ?_) (fun c1 => ?_)
  · skip
    refine q_iconst (v := 0) (pc2 := 26) C dX1_hasPlace_25 (by decide) rfl ?_
    exact q_zret C hQ rfl (rfl) (Nat.zero_le _) (Nat.zero_le _) dX1_hasPlace_26 ⟨by rw [b2_f (c := plcX x h j place) (fun z => by first | exact absurd c1 (Int32.not_lt.mpr z.1) | exact absurd c18 (Int32.not_lt.mpr z.2))], rfl⟩
  · skip
    refine q_iload_n (pc2 := 5) C 2 dX1_hasPlace_4 rfl rfl rfl ?_
    refine q_aload_n (pc2 := 6) C 0 dX1_hasPlace_5 rfl rfl rfl ?_
    refine q_get (q0 := 0) (k := 2) (v := .ref (a 6)) (pc2 := 9) C hT1 f19 (wR_g0 ct a x) rfl (by decide) rfl rfl dX1_hasPlace_6 rfl ?_
    refine q_aload_n (pc2 := 10) C 0 dX1_hasPlace_9 rfl rfl rfl ?_
    refine q_get (q0 := 0) (k := 0) (v := .int (x 4 0)) (pc2 := 13) C hT1 f9 (wR_g0 ct a x) rfl (by decide) rfl rfl dX1_hasPlace_10 rfl ?_
    refine q_iload_n (pc2 := 14) C 1 dX1_hasPlace_13 rfl rfl rfl ?_
    refine q_cS (pc2 := 17) (As := [.int (x 4 0), .int (nI j)]) (st := [.ref (a 6), .int place]) (st2 := [.int (((x 4 0) * 4) + (nI j)), .ref (a 6), .int place]) (w2 := (wR ct a x)) (c2 := 0) (s2 := 0) C (c_X1_cell l D ct (x 4 0) (nI j)) (va_cwS 2 C.w gX1_hasPlace_X1_cell rfl rfl rfl (by decide +kernel) ⟨Nat.le_of_ble_eq_true rfl, Nat.le_of_ble_eq_true rfl⟩) [] [0, 1, 2, 3, 4, 5, 6, 7] [0, 1, 2, 3, 4, 5, 6, 7] rfl rfl (by decide) (by decide) (by decide) rfl (by decide) dX1_hasPlace_14 rfl rfl (Nat.le_of_ble_eq_true rfl) ⟨Nat.zero_le _, Nat.zero_le _⟩ rfl rfl rfl rfl ?_
    refine q_eqi (y := nI (4 * h + j)) (by rw [hh]; exact cellI _ _ 4) ?_
    refine q_iald (q0 := 2) (f := (x 6)) (pc2 := 18) C (4 * h + j) (wR_g2 ct a x) rfl (rfl) (by omega) (by decide) dX1_hasPlace_17 rfl ?_
    refine q_icmp_gt (tgt := 25) (pc2 := 21) C dX1_hasPlace_18 (by decide) rfl (fun c18 => ?_) (fun c18 => ?_)
    · skip
      refine q_iconst (v := 0) (pc2 := 26) C dX1_hasPlace_25 (by decide) rfl ?_
      exact q_zret C hQ rfl (rfl) (Nat.zero_le _) (Nat.zero_le _) dX1_hasPlace_26 ⟨by rw [b2_f (c := plcX x h j place) (fun z => by first | exact absurd c1 (Int32.not_lt.mpr z.1) | exact absurd c18 (Int32.not_lt.mpr z.2))], rfl⟩
    · skip
      refine q_iconst (v := 1) (pc2 := 22) C dX1_hasPlace_21 (by decide) rfl ?_
      refine q_goto (pc2 := 26) C dX1_hasPlace_22 (by decide) ?_
      exact q_zret C hQ rfl (rfl) (Nat.zero_le _) (Nat.zero_le _) dX1_hasPlace_26 ⟨by rw [b2_t (c := plcX x h j place) ⟨Int32.not_lt.mp c1, Int32.not_lt.mp c18⟩], rfl⟩

set_option maxHeartbeats 4000000 in
set_option maxRecDepth 100000 in
theorem c_X1_bears (l : Launch) (D : va_G) (ct : Nat → ClassId) (a : Nat → Nat) (x : Nat → Nat → Int32) (h : Nat) (hh : x 4 0 = nI h) (hlt : h < 2) (i : Nat) (hi : i < 10) (j : Nat) (hj : j < 4) : qM l yX1_bears wsX1_bears ({ frames := 1, cells := 0, slots := 0, locals := 23 }) D ct [.ref (a 31), .int (nI i), .int (nI j)] (wR ct a x) (qD (some (.int (b2 (bearX x h i j)))) (wR ct a x)) 0 0 := by
  refine q_start (ret := some .boolean) (lv := [(0, .ref (a 31)), (1, .int (nI i)), (2, .int (nI j))]) (by decide +kernel) rfl (Nat.le_of_ble_eq_true rfl) rfl ?_
  intro p e s m args below meth c A Q C hQ hnm
  have hT1 : ∀ w ∈ u_ws RX1 TX1 8, w ∈ wsX1_bears := by decide +kernel
  have f28 : (Cond.fieldLink RX1 28 "PlotPatch$Rig" "bars" "[I").before args s = true := C.w _ (by decide +kernel)
  have f25 : (Cond.fieldLink RX1 25 "PlotPatch$Rig" "weights" "[I").before args s = true := C.w _ (by decide +kernel)
  have f22 : (Cond.fieldLink RX1 22 "PlotPatch$Rig" "limits" "[I").before args s = true := C.w _ (by decide +kernel)
  have f9 : (Cond.fieldLink RX1 9 "PlotPatch$Rig" "house" "I").before args s = true := C.w _ (by decide +kernel)
  refine q_aload_n (pc2 := 1) C 0 dX1_bears_0 rfl rfl rfl ?_
  refine q_iload_n (pc2 := 2) C 2 dX1_bears_1 rfl rfl rfl ?_
  refine q_cV (pc2 := 5) (As := [.int (nI j)]) (st := []) (st2 := [.int (wOnX x (nI j))]) (q0 := 0) (w2 := (wR ct a x)) (c2 := 0) (s2 := 0) C (c_X1_weightOn l D ct a x (nI j)) (cwV 1 C.w gX1_bears_X1_weightOn rfl rfl rfl (by decide +kernel) ⟨Nat.le_of_ble_eq_true rfl, Nat.le_of_ble_eq_true rfl⟩) rfl rfl [0, 1, 2, 3, 4, 5, 6, 7] [] [0, 1, 2, 3, 4, 5, 6, 7] rfl rfl (by decide) (by decide) (by decide) rfl (by decide) dX1_bears_2 rfl rfl (Nat.le_of_ble_eq_true rfl) ⟨Nat.zero_le _, Nat.zero_le _⟩ rfl rfl rfl rfl ?_
  refine q_aload_n (pc2 := 6) C 0 dX1_bears_5 rfl rfl rfl ?_
  refine q_get (q0 := 0) (k := 5) (v := .ref (a 9)) (pc2 := 9) C hT1 f28 (wR_g0 ct a x) rfl (by decide) rfl rfl dX1_bears_6 rfl ?_
  refine q_iload_n (pc2 := 10) C 1 dX1_bears_9 rfl rfl rfl ?_
  refine q_iald (q0 := 5) (f := (x 9)) (pc2 := 11) C i (wR_g5 ct a x) rfl (rfl) (by omega) (by decide) dX1_bears_10 rfl ?_
  refine q_iload_n (pc2 := 12) C 2 dX1_bears_11 rfl rfl rfl ?_
  refine q_icmp_ne (tgt := 24) (pc2 := 15) C dX1_bears_12 (by decide) rfl (fun c12 => ?_) (fun c12 => ?_)
  · skip
    refine q_iconst (v := 0) (pc2 := 25) C dX1_bears_24 (by decide) rfl ?_
    refine q_isub (pc2 := 26) C dX1_bears_25 rfl rfl ?_
    refine q_istore_n (lv' := [(3, .int ((wOnX x (nI j)) - 0)), (0, .ref (a 31)), (1, .int (nI i)), (2, .int (nI j))]) (pc2 := 27) C dX1_bears_26 rfl (by decide) rfl rfl ?_
    refine q_iload_n (pc2 := 28) C 0 dX1_bears_27 rfl rfl rfl ?_
    refine q_aload_n (pc2 := 29) C 1 dX1_bears_28 rfl rfl rfl ?_
    refine q_get (q0 := 0) (k := 4) (v := .ref (a 8)) (pc2 := 32) C hT1 f25 (wR_g0 ct a x) rfl (by decide) rfl rfl dX1_bears_29 rfl ?_
    refine q_iload_n (pc2 := 33) C 2 dX1_bears_32 rfl rfl rfl ?_
    refine q_iald (q0 := 4) (f := (x 8)) (pc2 := 34) C i (wR_g4 ct a x) rfl (rfl) (by omega) (by decide) dX1_bears_33 rfl ?_
    refine q_iadd (pc2 := 35) C dX1_bears_34 rfl rfl ?_
    refine q_aload_n (pc2 := 36) C 1 dX1_bears_35 rfl rfl rfl ?_
    refine q_get (q0 := 0) (k := 3) (v := .ref (a 7)) (pc2 := 39) C hT1 f22 (wR_g0 ct a x) rfl (by decide) rfl rfl dX1_bears_36 rfl ?_
    refine q_aload_n (pc2 := 40) C 1 dX1_bears_39 rfl rfl rfl ?_
    refine q_get (q0 := 0) (k := 0) (v := .int (x 4 0)) (pc2 := 43) C hT1 f9 (wR_g0 ct a x) rfl (by decide) rfl rfl dX1_bears_40 rfl ?_
    refine q_iload_n (pc2 := 44) C 3 dX1_bears_43 rfl rfl rfl ?_
    refine q_cS (pc2 := 47) (As := [.int (x 4 0), .int (nI j)]) (st := [.ref (a 7), .int (((wOnX x (nI j)) - 0) + ((x 8) i))]) (st2 := [.int (((x 4 0) * 4) + (nI j)), .ref (a 7), .int (((wOnX x (nI j)) - 0) + ((x 8) i))]) (w2 := (wR ct a x)) (c2 := 0) (s2 := 0) C (c_X1_cell l D ct (x 4 0) (nI j)) (va_cwS 2 C.w gX1_bears_X1_cell rfl rfl rfl (by decide +kernel) ⟨Nat.le_of_ble_eq_true rfl, Nat.le_of_ble_eq_true rfl⟩) [] [0, 1, 2, 3, 4, 5, 6, 7] [0, 1, 2, 3, 4, 5, 6, 7] rfl rfl (by decide) (by decide) (by decide) rfl (by decide) dX1_bears_44 rfl rfl (Nat.le_of_ble_eq_true rfl) ⟨Nat.zero_le _, Nat.zero_le _⟩ rfl rfl rfl rfl ?_
    refine q_eqi (y := nI (4 * h + j)) (by rw [hh]; exact cellI _ _ 4) ?_
    refine q_iald (q0 := 3) (f := (x 7)) (pc2 := 48) C (4 * h + j) (wR_g3 ct a x) rfl (rfl) (by omega) (by decide) dX1_bears_47 rfl ?_
    refine q_icmp_gt (tgt := 55) (pc2 := 51) C dX1_bears_48 (by decide) rfl (fun c48 => ?_) (fun c48 => ?_)
    · skip
      refine q_iconst (v := 0) (pc2 := 56) C dX1_bears_55 (by decide) rfl ?_
      exact q_zret C hQ rfl (rfl) (Nat.zero_le _) (Nat.zero_le _) dX1_bears_56 ⟨by rw [b2_f (c := bearX x h i j) (fun z => absurd c48 (Int32.not_lt.mpr (by unfold bearX at z; (first | rw [if_pos c12] at z | rw [if_neg c12] at z); exact z)))], rfl⟩
    · skip
      refine q_iconst (v := 1) (pc2 := 52) C dX1_bears_51 (by decide) rfl ?_
      refine q_goto (pc2 := 56) C dX1_bears_52 (by decide) ?_
      exact q_zret C hQ rfl (rfl) (Nat.zero_le _) (Nat.zero_le _) dX1_bears_56 ⟨by rw [b2_t (c := bearX x h i j) (by unfold bearX; (first | rw [if_pos c12] | rw [if_neg c12]); exact Int32.not_lt.mp c48)], rfl⟩
  · skip
    refine q_aload_n (pc2 := 16) C 0 dX1_bears_15 rfl rfl rfl ?_
    refine q_get (q0 := 0) (k := 4) (v := .ref (a 8)) (pc2 := 19) C hT1 f25 (wR_g0 ct a x) rfl (by decide) rfl rfl dX1_bears_16 rfl ?_
    refine q_iload_n (pc2 := 20) C 1 dX1_bears_19 rfl rfl rfl ?_
    refine q_iald (q0 := 4) (f := (x 8)) (pc2 := 21) C i (wR_g4 ct a x) rfl (rfl) (by omega) (by decide) dX1_bears_20 rfl ?_
    refine q_goto (pc2 := 25) C dX1_bears_21 (by decide) ?_
    refine q_isub (pc2 := 26) C dX1_bears_25 rfl rfl ?_
    refine q_istore_n (lv' := [(3, .int ((wOnX x (nI j)) - ((x 8) i))), (0, .ref (a 31)), (1, .int (nI i)), (2, .int (nI j))]) (pc2 := 27) C dX1_bears_26 rfl (by decide) rfl rfl ?_
    refine q_iload_n (pc2 := 28) C 0 dX1_bears_27 rfl rfl rfl ?_
    refine q_aload_n (pc2 := 29) C 1 dX1_bears_28 rfl rfl rfl ?_
    refine q_get (q0 := 0) (k := 4) (v := .ref (a 8)) (pc2 := 32) C hT1 f25 (wR_g0 ct a x) rfl (by decide) rfl rfl dX1_bears_29 rfl ?_
    refine q_iload_n (pc2 := 33) C 2 dX1_bears_32 rfl rfl rfl ?_
    refine q_iald (q0 := 4) (f := (x 8)) (pc2 := 34) C i (wR_g4 ct a x) rfl (rfl) (by omega) (by decide) dX1_bears_33 rfl ?_
    refine q_iadd (pc2 := 35) C dX1_bears_34 rfl rfl ?_
    refine q_aload_n (pc2 := 36) C 1 dX1_bears_35 rfl rfl rfl ?_
    refine q_get (q0 := 0) (k := 3) (v := .ref (a 7)) (pc2 := 39) C hT1 f22 (wR_g0 ct a x) rfl (by decide) rfl rfl dX1_bears_36 rfl ?_
    refine q_aload_n (pc2 := 40) C 1 dX1_bears_39 rfl rfl rfl ?_
    refine q_get (q0 := 0) (k := 0) (v := .int (x 4 0)) (pc2 := 43) C hT1 f9 (wR_g0 ct a x) rfl (by decide) rfl rfl dX1_bears_40 rfl ?_
    refine q_iload_n (pc2 := 44) C 3 dX1_bears_43 rfl rfl rfl ?_
    refine q_cS (pc2 := 47) (As := [.int (x 4 0), .int (nI j)]) (st := [.ref (a 7), .int (((wOnX x (nI j)) - ((x 8) i)) + ((x 8) i))]) (st2 := [.int (((x 4 0) * 4) + (nI j)), .ref (a 7), .int (((wOnX x (nI j)) - ((x 8) i)) + ((x 8) i))]) (w2 := (wR ct a x)) (c2 := 0) (s2 := 0) C (c_X1_cell l D ct (x 4 0) (nI j)) (va_cwS 2 C.w gX1_bears_X1_cell rfl rfl rfl (by decide +kernel) ⟨Nat.le_of_ble_eq_true rfl, Nat.le_of_ble_eq_true rfl⟩) [] [0, 1, 2, 3, 4, 5, 6, 7] [0, 1, 2, 3, 4, 5, 6, 7] rfl rfl (by decide) (by decide) (by decide) rfl (by decide) dX1_bears_44 rfl rfl (Nat.le_of_ble_eq_true rfl) ⟨Nat.zero_le _, Nat.zero_le _⟩ rfl rfl rfl rfl ?_
    refine q_eqi (y := nI (4 * h + j)) (by rw [hh]; exact cellI _ _ 4) ?_
    refine q_iald (q0 := 3) (f := (x 7)) (pc2 := 48) C (4 * h + j) (wR_g3 ct a x) rfl (rfl) (by omega) (by decide) dX1_bears_47 rfl ?_
    refine q_icmp_gt (tgt := 55) (pc2 := 51) C dX1_bears_48 (by decide) rfl (fun c48 => ?_) (fun c48 => ?_)
    · skip
      refine q_iconst (v := 0) (pc2 := 56) C dX1_bears_55 (by decide) rfl ?_
      exact q_zret C hQ rfl (rfl) (Nat.zero_le _) (Nat.zero_le _) dX1_bears_56 ⟨by rw [b2_f (c := bearX x h i j) (fun z => absurd c48 (Int32.not_lt.mpr (by unfold bearX at z; (first | rw [if_pos c12] at z | rw [if_neg c12] at z); exact z)))], rfl⟩
    · skip
      refine q_iconst (v := 1) (pc2 := 52) C dX1_bears_51 (by decide) rfl ?_
      refine q_goto (pc2 := 56) C dX1_bears_52 (by decide) ?_
      exact q_zret C hQ rfl (rfl) (Nat.zero_le _) (Nat.zero_le _) dX1_bears_56 ⟨by rw [b2_t (c := bearX x h i j) (by unfold bearX; (first | rw [if_pos c12] | rw [if_neg c12]); exact Int32.not_lt.mp c48)], rfl⟩
