/-! the reference: ticks -/
def fol (y : Nat → Nat → Int32) : Int32 := y 21 (y 23 0 - 1).toNatClampNeg
abbrev dueM (y : Nat → Nat → Int32) : Prop := 0 < y 23 0 ∧ 0 < fol y ∧ y 25 0 + 1 - y 24 0 = fol y
def tkA (y : Nat → Nat → Int32) : Nat → Nat → Int32 := set2 y 25 (fun _ => y 25 0 + 1)
def tkB (y : Nat → Nat → Int32) (n q : Nat) : Nat → Nat → Int32 := if dueM y then bnM n (q - (y 23 0).toNatClampNeg) (y 23 0).toNatClampNeg (tkA y) else tkA y
def tkC (y : Nat → Nat → Int32) (n k : Nat) : Nat → Nat → Int32 := set2 y 12 (fun j => if j < k then y 12 j + (if 80 < lvM y j then 1 else 0) else y 12 j)
def tk1 (y : Nat → Nat → Int32) (n q : Nat) : Nat → Nat → Int32 := tkC (tkB y n q) n n
def tkS (y : Nat → Nat → Int32) (n q : Nat) : Nat → (Nat → Nat → Int32) × Int32
  | 0 => (y, 0)
  | i + 1 => (tk1 (tkS y n q i).1 n q, (tkS y n q i).2 + if dueM (tkS y n q i).1 then tkB (tkS y n q i).1 n q 23 0 - (tkS y n q i).1 23 0 else 0)
/-- what holds of the reference's cues and time -/
def IM (y : Nat → Nat → Int32) (n q t : Nat) : Prop := y 4 0 = nI n ∧ y 18 0 = nI q ∧ (∃ b, b ≤ q ∧ y 23 0 = nI b) ∧ TM y t
theorem bnM_I (n : Nat) {q : Nat} (hq8 : q ≤ 8) {t : Nat} : ∀ (k i : Nat) (z : Nat → Nat → Int32), k + i = q → z 23 0 = nI i → z 18 0 = nI q → z 4 0 = nI n → TM z t → IM (bnM n k i z) n q t
  | 0, i, z, h, h23, h18, h4, hT => ⟨h4, h18, ⟨i, by omega, h23⟩, hT⟩
  | k + 1, i, z, h, h23, h18, h4, hT => by
    have hT1 := TM_beg hT n i (by omega)
    simp only [bnM]
    split
    · exact bnM_I n hq8 k (i + 1) (begM z n i) (by omega) rfl h18 h4 hT1
    · exact ⟨h4, h18, ⟨i + 1, by omega, rfl⟩, hT1⟩
theorem TM_tkA {y : Nat → Nat → Int32} {t : Nat} (h : TM y t) : TM (tkA y) (t + 1) :=
  ⟨by show y 25 0 + 1 = nI (t + 1); rw [h.1]; exact nI_1 t, fun k hk => by obtain ⟨s, hs, e⟩ := h.2.1 k hk; exact ⟨s, by omega, e⟩, h.2.2.1, h.2.2.2⟩
theorem IM_tkB {y : Nat → Nat → Int32} {n q t : Nat} (hq8 : q ≤ 8) (h : IM y n q t) : IM (tkB y n q) n q (t + 1) := by
  obtain ⟨h4, h18, ⟨b, hb, h23⟩, hT⟩ := h
  unfold tkB
  split
  · rw [h23, nI_clamp (by omega)]
    exact bnM_I n hq8 (q - b) b (tkA y) (by omega) h23 h18 h4 (TM_tkA hT)
  · exact ⟨h4, h18, ⟨b, hb, h23⟩, TM_tkA hT⟩
theorem IM_tk1 {y : Nat → Nat → Int32} {n q t : Nat} (hq8 : q ≤ 8) (h : IM y n q t) : IM (tk1 y n q) n q (t + 1) := IM_tkB hq8 h
theorem IM_tkS {y : Nat → Nat → Int32} {n q t : Nat} (hq8 : q ≤ 8) (h : IM y n q t) : ∀ i, IM (tkS y n q i).1 n q (t + i)
  | 0 => h
  | i + 1 => IM_tk1 hq8 (IM_tkS hq8 h i)

theorem lvM_12 (y : Nat → Nat → Int32) (g : Nat → Int32) (i : Nat) : lvM (set2 y 12 g) i = lvM y i := rfl
theorem wOk_12 {y : Nat → Nat → Int32} {g : Nat → Int32} {i : Nat} (h : wOk y i) : wOk (set2 y 12 g) i := h

set_option maxHeartbeats 4000000 in
set_option maxRecDepth 100000 in
theorem c_X4_tick (l : Launch) (D : va_G) (ct : Nat → ClassId) (b : Nat → Nat) (y : Nat → Nat → Int32) (n : Nat) (hn : y 4 0 = nI n) (hn10 : n ≤ 10) (q : Nat) (hq : y 18 0 = nI q) (hq8 : q ≤ 8) (b00 : Nat) (hb00 : y 23 0 = nI b00) (hbq0 : b00 ≤ q) (t : Nat) (hTM : TM y t) (ht : t < 2 ^ 29) (ticks : Int32) : qM l yX4_tick wsX4_tick ({ frames := 3, cells := 0, slots := 0, locals := 70 }) D ct [.ref (b 30), .int ticks] (wM ct b y) (qD (some (.int (if T1 (inR ticks 1 50) = 0 then (tkS (set2 y 27 (fun _ => T1 (inR ticks 1 50))) n q ticks.toNatClampNeg).2 else 0))) (wM ct b (if T1 (inR ticks 1 50) = 0 then (tkS (set2 y 27 (fun _ => T1 (inR ticks 1 50))) n q ticks.toNatClampNeg).1 else (set2 y 27 (fun _ => T1 (inR ticks 1 50)))))) 0 0 := by
  refine q_start (ret := some .int) (lv := [(0, .ref (b 30)), (1, .int ticks)]) (by decide +kernel) rfl (Nat.le_of_ble_eq_true rfl) rfl ?_
  intro p e s m args below meth c A Q C hQ hnm
  have hT4 : ∀ w ∈ u_ws RX4 TX4 28, w ∈ wsX4_tick := by decide +kernel
  have f78 : (Cond.fieldLink RX4 78 "PlotPatchModel" "lamps" "I").before args s = true := C.w _ (by decide +kernel)
  have f41 : (Cond.fieldLink RX4 41 "PlotPatchModel" "burning" "[I").before args s = true := C.w _ (by decide +kernel)
  have f139 : (Cond.fieldLink RX4 139 "PlotPatchModel" "time" "I").before args s = true := C.w _ (by decide +kernel)
  have f145 : (Cond.fieldLink RX4 145 "PlotPatchModel" "begun" "I").before args s = true := C.w _ (by decide +kernel)
  have f65 : (Cond.fieldLink RX4 65 "PlotPatchModel" "follow" "[I").before args s = true := C.w _ (by decide +kernel)
  have f151 : (Cond.fieldLink RX4 151 "PlotPatchModel" "beganAt" "I").before args s = true := C.w _ (by decide +kernel)
  refine q_aload_n (pc2 := 1) C 0 dX4_tick_0 rfl rfl rfl ?_
  refine q_iload_n (pc2 := 2) C 1 dX4_tick_1 rfl rfl rfl ?_
  refine q_iconst (v := 1) (pc2 := 3) C dX4_tick_2 (by decide) rfl ?_
  refine q_bipush (v := 50) (pc2 := 5) C dX4_tick_3 (by decide) rfl ?_
  refine q_cS (pc2 := 8) (As := [.int ticks, .int 1, .int 50]) (st := [.ref (b 30)]) (st2 := [.int (b2 (inR ticks 1 50)), .ref (b 30)]) (w2 := (wM ct b y)) (c2 := 0) (s2 := 0) C (c_X4_isIn l D ct ticks 1 50) (va_cwS 3 C.w gX4_tick_X4_isIn rfl rfl rfl (by decide +kernel) ⟨Nat.le_of_ble_eq_true rfl, Nat.le_of_ble_eq_true rfl⟩) [] [0, 1, 2, 3, 4, 5, 6, 7, 8, 9, 10, 11, 12, 13, 14, 15, 16, 17, 18, 19, 20, 21] [0, 1, 2, 3, 4, 5, 6, 7, 8, 9, 10, 11, 12, 13, 14, 15, 16, 17, 18, 19, 20, 21] rfl rfl (by decide) (by decide) (by decide) rfl (by decide) dX4_tick_5 rfl rfl (Nat.le_of_ble_eq_true rfl) ⟨by decide, by decide⟩ rfl rfl rfl rfl ?_
  refine q_cV (pc2 := 11) (As := [.int (b2 (inR ticks 1 50))]) (st := []) (st2 := [.int (b2 (inR ticks 1 50))]) (q0 := 0) (w2 := (wM ct b (set2 y 27 (fun _ => T1 (inR ticks 1 50))))) (c2 := 0) (s2 := 0) C (c_X4_may l D ct b y (b2 (inR ticks 1 50)) (b2_nar _)) (cwV 1 C.w gX4_tick_X4_may rfl rfl rfl (by decide +kernel) ⟨Nat.le_of_ble_eq_true rfl, Nat.le_of_ble_eq_true rfl⟩) rfl rfl [0, 1, 2, 3, 4, 5, 6, 7, 8, 9, 10, 11, 12, 13, 14, 15, 16, 17, 18, 19, 20, 21] [] [0, 1, 2, 3, 4, 5, 6, 7, 8, 9, 10, 11, 12, 13, 14, 15, 16, 17, 18, 19, 20, 21] rfl rfl (by decide) (by decide) (by decide) rfl (by decide) dX4_tick_8 rfl rfl (Nat.le_of_ble_eq_true rfl) ⟨by decide, by decide⟩ rfl rfl rfl rfl ?_
  refine q_if_ne (tgt := 16) (pc2 := 14) C dX4_tick_11 (by decide) rfl (fun c11 => ?_) (fun c11 => ?_)
  · skip
    have ht9 : T1 (inR ticks 1 50) = 0 := if_neg c11
    have hP := b2_ne.mp c11
    have hTk : ticks.toNatClampNeg ≤ 50 ∧ ticks = nI ticks.toNatClampNeg := by have z := idxN (k := 51) (v := ticks) ⟨Int32.le_trans (by decide) hP.1, hP.2⟩ (by decide); exact ⟨by omega, z.2⟩
    have hIM : IM (set2 y 27 (fun _ => T1 (inR ticks 1 50))) n q t := ⟨hn, hq, ⟨b00, hbq0, hb00⟩, hTM⟩
    refine q_iconst (v := 0) (pc2 := 17) C dX4_tick_16 (by decide) rfl ?_
    refine q_istore_n (lv' := [(2, .int 0), (0, .ref (b 30)), (1, .int ticks)]) (pc2 := 18) C dX4_tick_17 rfl (by decide) rfl rfl ?_
    refine q_iconst (v := 0) (pc2 := 19) C dX4_tick_18 (by decide) rfl ?_
    refine q_istore_n (lv' := [(3, .int 0), (2, .int 0), (0, .ref (b 30)), (1, .int ticks)]) (pc2 := 20) C dX4_tick_19 rfl (by decide) rfl rfl ?_
    refine q_lv (lv' := [(3, .int 0), (2, .int 0), (0, .ref (b 30)), (1, .int ticks)]) [0, 1, 2, 3] rfl ?_
    refine lp_up (P := fun i => Cf p l e ({ frames := 3, cells := 0, slots := 0, locals := 70 }) s m args below meth c D A 5 0 0 Q 20 [(3, .int (nI i)), (2, .int (tkS (set2 y 27 (fun _ => T1 (inR ticks 1 50))) n q i).2), (0, .ref (b 30)), (1, .int ticks)] [] (wM ct b (tkS (set2 y 27 (fun _ => T1 (inR ticks 1 50))) n q i).1)) (ticks.toNatClampNeg) (fun i hi ihi => ?_) ?_
    · skip
      refine q_iload_n (pc2 := 21) C 0 dX4_tick_20 rfl rfl rfl ?_
      refine q_iload_n (pc2 := 22) C 3 dX4_tick_21 rfl rfl rfl ?_
      refine q_icmp_ge (tgt := 136) (pc2 := 25) C dX4_tick_22 (by decide) rfl (fun c22 => (q_absurd (a := ticks.toNatClampNeg) (b := i) (show nI ticks.toNatClampNeg ≤ nI i by rw [← hTk.2]; exact c22) hi (by have := hTk.1; omega))) (fun _ => ?_)
      obtain ⟨h4, h18, ⟨b0, hbq, h23⟩, hTZ⟩ := IM_tkS hq8 hIM i
      have htZ : t + i + 1 < 2 ^ 30 := by have := hTk.1; omega
      have hcb : ((tkS (set2 y 27 (fun _ => T1 (inR ticks 1 50))) n q i).1 23 0).toNatClampNeg = b0 := by rw [h23]; exact nI_clamp (by omega)
      have hI2 := IM_tkB (n := n) (q := q) hq8 (IM_tkS hq8 hIM i)
      have hj86 : Cf p l e ({ frames := 3, cells := 0, slots := 0, locals := 70 }) s m args below meth c D A 5 0 0 Q 86 [(3, .int (nI i)), (2, .int (tkS (set2 y 27 (fun _ => T1 (inR ticks 1 50))) n q (i + 1)).2), (0, .ref (b 30)), (1, .int ticks)] [] (wM ct b (tkB (tkS (set2 y 27 (fun _ => T1 (inR ticks 1 50))) n q i).1 n q)) := by
        refine q_iconst (v := 0) (pc2 := 87) C dX4_tick_86 (by decide) rfl ?_
        refine q_istore (lv' := [(4, .int 0), (3, .int (nI i)), (2, .int (tkS (set2 y 27 (fun _ => T1 (inR ticks 1 50))) n q (i + 1)).2), (0, .ref (b 30)), (1, .int ticks)]) (pc2 := 89) C dX4_tick_87 (by decide) rfl rfl ?_
        refine q_eqw (ws' := (wM ct b (tkC (tkB (tkS (set2 y 27 (fun _ => T1 (inR ticks 1 50))) n q i).1 n q) n 0))) (by unfold tkC; simp only [Nat.not_lt_zero, if_false]; rfl) ?_
        refine q_lv (lv' := [(4, .int 0), (3, .int (nI i)), (2, .int (tkS (set2 y 27 (fun _ => T1 (inR ticks 1 50))) n q (i + 1)).2), (0, .ref (b 30)), (1, .int ticks)]) [0, 1, 2, 3, 4] rfl ?_
        refine lp_up (P := fun k => Cf p l e ({ frames := 3, cells := 0, slots := 0, locals := 70 }) s m args below meth c D A 5 0 0 Q 89 [(4, .int (nI k)), (3, .int (nI i)), (2, .int (tkS (set2 y 27 (fun _ => T1 (inR ticks 1 50))) n q (i + 1)).2), (0, .ref (b 30)), (1, .int ticks)] [] (wM ct b (tkC (tkB (tkS (set2 y 27 (fun _ => T1 (inR ticks 1 50))) n q i).1 n q) n k))) (n) (fun k hk ihk => ?_) ?_
        · skip
          refine q_iload (pc2 := 91) C 0 dX4_tick_89 rfl rfl ?_
          refine q_aload_n (pc2 := 92) C 3 dX4_tick_91 rfl rfl rfl ?_
          refine q_get (q0 := 0) (k := 4) (v := .int ((tkC (tkB (tkS (set2 y 27 (fun _ => T1 (inR ticks 1 50))) n q i).1 n q) n k) 4 0)) (pc2 := 95) C hT4 f78 (wM_g0 ct b (tkC (tkB (tkS (set2 y 27 (fun _ => T1 (inR ticks 1 50))) n q i).1 n q) n k)) rfl (by decide) rfl rfl dX4_tick_92 rfl ?_
          refine q_icmp_ge (tgt := 130) (pc2 := 98) C dX4_tick_95 (by decide) rfl (fun c95 => (q_absurd (a := n) (b := k) (show nI n ≤ nI k by rw [← hI2.1]; exact c95) hk (by omega))) (fun _ => ?_)
          refine q_aload_n (pc2 := 99) C 3 dX4_tick_98 rfl rfl rfl ?_
          refine q_get (q0 := 0) (k := 12) (v := .ref (b 12)) (pc2 := 102) C hT4 f41 (wM_g0 ct b (tkC (tkB (tkS (set2 y 27 (fun _ => T1 (inR ticks 1 50))) n q i).1 n q) n k)) rfl (by decide) rfl rfl dX4_tick_99 rfl ?_
          refine q_iload (pc2 := 104) C 0 dX4_tick_102 rfl rfl ?_
          refine q_dup2 (pc2 := 105) C dX4_tick_104 rfl rfl rfl ?_
          refine q_iald (q0 := 11) (f := ((tkC (tkB (tkS (set2 y 27 (fun _ => T1 (inR ticks 1 50))) n q i).1 n q) n k) 12)) (pc2 := 106) C k (wM_g11 ct b (tkC (tkB (tkS (set2 y 27 (fun _ => T1 (inR ticks 1 50))) n q i).1 n q) n k)) rfl (rfl) (by omega) (by decide) dX4_tick_105 rfl ?_
          refine q_eqi (y := ((tkB (tkS (set2 y 27 (fun _ => T1 (inR ticks 1 50))) n q i).1 n q) 12 k)) (by show (if k < k then _ else _) = _; rw [if_neg (Nat.lt_irrefl k)]) ?_
          refine q_aload_n (pc2 := 107) C 3 dX4_tick_106 rfl rfl rfl ?_
          refine q_iload (pc2 := 109) C 0 dX4_tick_107 rfl rfl ?_
          refine q_cV (pc2 := 112) (As := [.int (nI k)]) (st := [.int ((tkB (tkS (set2 y 27 (fun _ => T1 (inR ticks 1 50))) n q i).1 n q) 12 k), .int (nI k), .ref (b 12)]) (st2 := [.int (lvM (tkB (tkS (set2 y 27 (fun _ => T1 (inR ticks 1 50))) n q i).1 n q) k), .int ((tkB (tkS (set2 y 27 (fun _ => T1 (inR ticks 1 50))) n q i).1 n q) 12 k), .int (nI k), .ref (b 12)]) (q0 := 0) (w2 := (wM ct b (tkC (tkB (tkS (set2 y 27 (fun _ => T1 (inR ticks 1 50))) n q i).1 n q) n k))) (c2 := 0) (s2 := 0) C (c_X4_levelOf l D ct b (tkC (tkB (tkS (set2 y 27 (fun _ => T1 (inR ticks 1 50))) n q i).1 n q) n k) (nI k) k rfl (by omega) (wOk_12 (TM_ok hI2.2.2.2 htZ k (by omega)))) (cwV 1 C.w gX4_tick_X4_levelOf rfl rfl rfl (by decide +kernel) ⟨Nat.le_of_ble_eq_true rfl, Nat.le_of_ble_eq_true rfl⟩) rfl rfl [0, 1, 2, 3, 4, 5, 6, 7, 8, 9, 10, 11, 12, 13, 14, 15, 16, 17, 18, 19, 20, 21] [] [0, 1, 2, 3, 4, 5, 6, 7, 8, 9, 10, 11, 12, 13, 14, 15, 16, 17, 18, 19, 20, 21] rfl rfl (by decide) (by decide) (by decide) rfl (by decide) dX4_tick_109 rfl rfl (Nat.le_of_ble_eq_true rfl) ⟨by decide, by decide⟩ rfl rfl rfl rfl ?_
          refine q_bipush (v := 80) (pc2 := 114) C dX4_tick_112 (by decide) rfl ?_
          refine q_icmp_le (tgt := 121) (pc2 := 117) C dX4_tick_114 (by decide) rfl (fun c114 => ?_) (fun c114 => ?_)
          · skip
            refine q_iconst (v := 0) (pc2 := 122) C dX4_tick_121 (by decide) rfl ?_
            refine q_iadd (pc2 := 123) C dX4_tick_122 rfl rfl ?_
            refine q_iast (q0 := 11) (f := ((tkC (tkB (tkS (set2 y 27 (fun _ => T1 (inR ticks 1 50))) n q i).1 n q) n k) 12)) (ws' := (wM ct b (set2 (tkC (tkB (tkS (set2 y 27 (fun _ => T1 (inR ticks 1 50))) n q i).1 n q) n k) 12 (upd ((tkC (tkB (tkS (set2 y 27 (fun _ => T1 (inR ticks 1 50))) n q i).1 n q) n k) 12) k (((tkB (tkS (set2 y 27 (fun _ => T1 (inR ticks 1 50))) n q i).1 n q) 12 k) + 0))))) (pc2 := 124) C k (wM_g11 ct b (tkC (tkB (tkS (set2 y 27 (fun _ => T1 (inR ticks 1 50))) n q i).1 n q) n k)) rfl (rfl) (by omega) (by decide) (wM_a11 ct b (tkC (tkB (tkS (set2 y 27 (fun _ => T1 (inR ticks 1 50))) n q i).1 n q) n k) (upd ((tkC (tkB (tkS (set2 y 27 (fun _ => T1 (inR ticks 1 50))) n q i).1 n q) n k) 12) k (((tkB (tkS (set2 y 27 (fun _ => T1 (inR ticks 1 50))) n q i).1 n q) 12 k) + 0))) dX4_tick_123 rfl ?_
            refine q_iinc (v := nI (k + 1)) (lv' := [(4, .int (nI (k + 1))), (3, .int (nI i)), (2, .int (tkS (set2 y 27 (fun _ => T1 (inR ticks 1 50))) n q (i + 1)).2), (0, .ref (b 30)), (1, .int ticks)]) (pc2 := 127) C 0 dX4_tick_124 rfl (nI_1 k) (by decide) rfl rfl ?_
            refine q_goto (pc2 := 89) C dX4_tick_127 (by decide) ?_
            refine q_lv (lv' := [(4, .int (nI (k + 1))), (3, .int (nI i)), (2, .int (tkS (set2 y 27 (fun _ => T1 (inR ticks 1 50))) n q (i + 1)).2), (0, .ref (b 30)), (1, .int ticks)]) [0, 1, 2, 3, 4] rfl ?_
            refine q_eqw (ws' := (wM ct b (tkC (tkB (tkS (set2 y 27 (fun _ => T1 (inR ticks 1 50))) n q i).1 n q) n (k + 1)))) (by have e9 := fill_lt (fun j => (tkB (tkS (set2 y 27 (fun _ => T1 (inR ticks 1 50))) n q i).1 n q) 12 j + (if 80 < lvM (tkB (tkS (set2 y 27 (fun _ => T1 (inR ticks 1 50))) n q i).1 n q) j then 1 else 0)) ((tkB (tkS (set2 y 27 (fun _ => T1 (inR ticks 1 50))) n q i).1 n q) 12) k; rw [if_neg (Int32.not_lt.mpr c114)] at e9; exact congrArg (fun g => wM ct b (set2 (tkB (tkS (set2 y 27 (fun _ => T1 (inR ticks 1 50))) n q i).1 n q) 12 g)) e9) ?_
            exact ihk
          · skip
            refine q_iconst (v := 1) (pc2 := 118) C dX4_tick_117 (by decide) rfl ?_
            refine q_goto (pc2 := 122) C dX4_tick_118 (by decide) ?_
            refine q_iadd (pc2 := 123) C dX4_tick_122 rfl rfl ?_
            refine q_iast (q0 := 11) (f := ((tkC (tkB (tkS (set2 y 27 (fun _ => T1 (inR ticks 1 50))) n q i).1 n q) n k) 12)) (ws' := (wM ct b (set2 (tkC (tkB (tkS (set2 y 27 (fun _ => T1 (inR ticks 1 50))) n q i).1 n q) n k) 12 (upd ((tkC (tkB (tkS (set2 y 27 (fun _ => T1 (inR ticks 1 50))) n q i).1 n q) n k) 12) k (((tkB (tkS (set2 y 27 (fun _ => T1 (inR ticks 1 50))) n q i).1 n q) 12 k) + 1))))) (pc2 := 124) C k (wM_g11 ct b (tkC (tkB (tkS (set2 y 27 (fun _ => T1 (inR ticks 1 50))) n q i).1 n q) n k)) rfl (rfl) (by omega) (by decide) (wM_a11 ct b (tkC (tkB (tkS (set2 y 27 (fun _ => T1 (inR ticks 1 50))) n q i).1 n q) n k) (upd ((tkC (tkB (tkS (set2 y 27 (fun _ => T1 (inR ticks 1 50))) n q i).1 n q) n k) 12) k (((tkB (tkS (set2 y 27 (fun _ => T1 (inR ticks 1 50))) n q i).1 n q) 12 k) + 1))) dX4_tick_123 rfl ?_
            refine q_iinc (v := nI (k + 1)) (lv' := [(4, .int (nI (k + 1))), (3, .int (nI i)), (2, .int (tkS (set2 y 27 (fun _ => T1 (inR ticks 1 50))) n q (i + 1)).2), (0, .ref (b 30)), (1, .int ticks)]) (pc2 := 127) C 0 dX4_tick_124 rfl (nI_1 k) (by decide) rfl rfl ?_
            refine q_goto (pc2 := 89) C dX4_tick_127 (by decide) ?_
            refine q_lv (lv' := [(4, .int (nI (k + 1))), (3, .int (nI i)), (2, .int (tkS (set2 y 27 (fun _ => T1 (inR ticks 1 50))) n q (i + 1)).2), (0, .ref (b 30)), (1, .int ticks)]) [0, 1, 2, 3, 4] rfl ?_
            refine q_eqw (ws' := (wM ct b (tkC (tkB (tkS (set2 y 27 (fun _ => T1 (inR ticks 1 50))) n q i).1 n q) n (k + 1)))) (by have e9 := fill_lt (fun j => (tkB (tkS (set2 y 27 (fun _ => T1 (inR ticks 1 50))) n q i).1 n q) 12 j + (if 80 < lvM (tkB (tkS (set2 y 27 (fun _ => T1 (inR ticks 1 50))) n q i).1 n q) j then 1 else 0)) ((tkB (tkS (set2 y 27 (fun _ => T1 (inR ticks 1 50))) n q i).1 n q) 12) k; rw [if_pos (Int32.not_le.mp c114)] at e9; exact congrArg (fun g => wM ct b (set2 (tkB (tkS (set2 y 27 (fun _ => T1 (inR ticks 1 50))) n q i).1 n q) 12 g)) e9) ?_
            exact ihk
        · skip
          refine q_iload (pc2 := 91) C 0 dX4_tick_89 rfl rfl ?_
          refine q_aload_n (pc2 := 92) C 3 dX4_tick_91 rfl rfl rfl ?_
          refine q_get (q0 := 0) (k := 4) (v := .int ((tkC (tkB (tkS (set2 y 27 (fun _ => T1 (inR ticks 1 50))) n q i).1 n q) n n) 4 0)) (pc2 := 95) C hT4 f78 (wM_g0 ct b (tkC (tkB (tkS (set2 y 27 (fun _ => T1 (inR ticks 1 50))) n q i).1 n q) n n)) rfl (by decide) rfl rfl dX4_tick_92 rfl ?_
          refine q_icmp_ge (tgt := 130) (pc2 := 98) C dX4_tick_95 (by decide) rfl (fun _ => ?_) (fun c95 => (absurd (show (tkB (tkS (set2 y 27 (fun _ => T1 (inR ticks 1 50))) n q i).1 n q) 4 0 ≤ nI n by rw [hI2.1]; exact nI_le (Nat.le_refl n) (by omega)) c95))
          refine q_iinc (v := nI (i + 1)) (lv' := [(3, .int (nI (i + 1))), (4, .int (nI n)), (2, .int (tkS (set2 y 27 (fun _ => T1 (inR ticks 1 50))) n q (i + 1)).2), (0, .ref (b 30)), (1, .int ticks)]) (pc2 := 133) C 1 dX4_tick_130 rfl (nI_1 i) (by decide) rfl rfl ?_
          refine q_goto (pc2 := 20) C dX4_tick_133 (by decide) ?_
          refine q_lv (lv' := [(3, .int (nI (i + 1))), (2, .int (tkS (set2 y 27 (fun _ => T1 (inR ticks 1 50))) n q (i + 1)).2), (0, .ref (b 30)), (1, .int ticks)]) [0, 2, 3, 4] rfl ?_
          exact ihi
      refine q_aload_n (pc2 := 26) C 2 dX4_tick_25 rfl rfl rfl ?_
      refine q_dup (pc2 := 27) C dX4_tick_26 rfl rfl ?_
      refine q_get (q0 := 0) (k := 25) (v := .int ((tkS (set2 y 27 (fun _ => T1 (inR ticks 1 50))) n q i).1 25 0)) (pc2 := 30) C hT4 f139 (wM_g0 ct b (tkS (set2 y 27 (fun _ => T1 (inR ticks 1 50))) n q i).1) rfl (by decide) rfl rfl dX4_tick_27 rfl ?_
      refine q_iconst (v := 1) (pc2 := 31) C dX4_tick_30 (by decide) rfl ?_
      refine q_iadd (pc2 := 32) C dX4_tick_31 rfl rfl ?_
      refine q_put (q0 := 0) (k := 25) (ty := .int) (ws' := (wM ct b (set2 (tkS (set2 y 27 (fun _ => T1 (inR ticks 1 50))) n q i).1 25 (fun _ => (((tkS (set2 y 27 (fun _ => T1 (inR ticks 1 50))) n q i).1 25 0) + 1))))) (pc2 := 35) C hT4 tyX4_ok nmX4 f139 (wM_g0 ct b (tkS (set2 y 27 (fun _ => T1 (inR ticks 1 50))) n q i).1) rfl (by decide) rfl rfl (by decide +kernel) rfl rfl (Nat.le_of_ble_eq_true rfl) (wM_s0_25 ct b (tkS (set2 y 27 (fun _ => T1 (inR ticks 1 50))) n q i).1 (((tkS (set2 y 27 (fun _ => T1 (inR ticks 1 50))) n q i).1 25 0) + 1)) dX4_tick_32 rfl ?_
      refine q_aload_n (pc2 := 36) C 2 dX4_tick_35 rfl rfl rfl ?_
      refine q_get (q0 := 0) (k := 23) (v := .int ((tkS (set2 y 27 (fun _ => T1 (inR ticks 1 50))) n q i).1 23 0)) (pc2 := 39) C hT4 f145 (wM_g0 ct b (set2 (tkS (set2 y 27 (fun _ => T1 (inR ticks 1 50))) n q i).1 25 (fun _ => (((tkS (set2 y 27 (fun _ => T1 (inR ticks 1 50))) n q i).1 25 0) + 1)))) rfl (by decide) rfl rfl dX4_tick_36 rfl ?_
      refine q_if_le (tgt := 86) (pc2 := 42) C dX4_tick_39 (by decide) rfl (fun c39 => ?_) (fun c39 => ?_)
      · skip
        refine q_lv (lv' := [(3, .int (nI i)), (2, .int (tkS (set2 y 27 (fun _ => T1 (inR ticks 1 50))) n q i).2), (0, .ref (b 30)), (1, .int ticks)]) [0, 1, 2, 3] rfl ?_
        have hnd : ¬ dueM (tkS (set2 y 27 (fun _ => T1 (inR ticks 1 50))) n q i).1 := fun w9 => absurd c39 (Int32.not_le.mpr w9.1)
        refine q_eql (lv' := [(3, .int (nI i)), (2, .int (tkS (set2 y 27 (fun _ => T1 (inR ticks 1 50))) n q (i + 1)).2), (0, .ref (b 30)), (1, .int ticks)]) (by simp only [tkS]; rw [if_neg hnd, Int32.add_zero]) ?_
        refine q_eqw (ws' := (wM ct b (tkB (tkS (set2 y 27 (fun _ => T1 (inR ticks 1 50))) n q i).1 n q))) (by unfold tkB; rw [if_neg hnd]; rfl) ?_
        exact hj86
      · skip
        have hb1 : 0 < b0 := Nat.pos_of_ne_zero (fun w9 => absurd (show (0 : Int32) < nI b0 by rw [← h23]; exact Int32.not_le.mp c39) (by rw [w9]; decide))
        have hi23 : (tkS (set2 y 27 (fun _ => T1 (inR ticks 1 50))) n q i).1 23 0 - 1 = nI (b0 - 1) := by rw [h23, show (1 : Int32) = nI 1 from rfl, pk_sub hb1]
        have hf : ((tkS (set2 y 27 (fun _ => T1 (inR ticks 1 50))) n q i).1 23 0 - 1).toNatClampNeg = b0 - 1 := by rw [hi23]; exact nI_clamp (by omega)
        refine q_aload_n (pc2 := 43) C 2 dX4_tick_42 rfl rfl rfl ?_
        refine q_get (q0 := 0) (k := 21) (v := .ref (b 21)) (pc2 := 46) C hT4 f65 (wM_g0 ct b (set2 (tkS (set2 y 27 (fun _ => T1 (inR ticks 1 50))) n q i).1 25 (fun _ => (((tkS (set2 y 27 (fun _ => T1 (inR ticks 1 50))) n q i).1 25 0) + 1)))) rfl (by decide) rfl rfl dX4_tick_43 rfl ?_
        refine q_aload_n (pc2 := 47) C 2 dX4_tick_46 rfl rfl rfl ?_
        refine q_get (q0 := 0) (k := 23) (v := .int ((tkS (set2 y 27 (fun _ => T1 (inR ticks 1 50))) n q i).1 23 0)) (pc2 := 50) C hT4 f145 (wM_g0 ct b (set2 (tkS (set2 y 27 (fun _ => T1 (inR ticks 1 50))) n q i).1 25 (fun _ => (((tkS (set2 y 27 (fun _ => T1 (inR ticks 1 50))) n q i).1 25 0) + 1)))) rfl (by decide) rfl rfl dX4_tick_47 rfl ?_
        refine q_iconst (v := 1) (pc2 := 51) C dX4_tick_50 (by decide) rfl ?_
        refine q_isub (v := nI (b0 - 1)) (pc2 := 52) C dX4_tick_51 (hi23) rfl ?_
        refine q_iald (q0 := 19) (f := ((tkS (set2 y 27 (fun _ => T1 (inR ticks 1 50))) n q i).1 21)) (pc2 := 53) C (b0 - 1) (wM_g19 ct b (set2 (tkS (set2 y 27 (fun _ => T1 (inR ticks 1 50))) n q i).1 25 (fun _ => (((tkS (set2 y 27 (fun _ => T1 (inR ticks 1 50))) n q i).1 25 0) + 1)))) rfl (rfl) (by omega) (by decide) dX4_tick_52 rfl ?_
        refine q_if_le (tgt := 86) (pc2 := 56) C dX4_tick_53 (by decide) rfl (fun c53 => ?_) (fun c53 => ?_)
        · skip
          refine q_lv (lv' := [(3, .int (nI i)), (2, .int (tkS (set2 y 27 (fun _ => T1 (inR ticks 1 50))) n q i).2), (0, .ref (b 30)), (1, .int ticks)]) [0, 1, 2, 3] rfl ?_
          have hnd : ¬ dueM (tkS (set2 y 27 (fun _ => T1 (inR ticks 1 50))) n q i).1 := fun w9 => absurd c53 (Int32.not_le.mpr (by have w8 := w9.2.1; unfold fol at w8; rw [hf] at w8; exact w8))
          refine q_eql (lv' := [(3, .int (nI i)), (2, .int (tkS (set2 y 27 (fun _ => T1 (inR ticks 1 50))) n q (i + 1)).2), (0, .ref (b 30)), (1, .int ticks)]) (by simp only [tkS]; rw [if_neg hnd, Int32.add_zero]) ?_
          refine q_eqw (ws' := (wM ct b (tkB (tkS (set2 y 27 (fun _ => T1 (inR ticks 1 50))) n q i).1 n q))) (by unfold tkB; rw [if_neg hnd]; rfl) ?_
          exact hj86
        · skip
          refine q_aload_n (pc2 := 57) C 2 dX4_tick_56 rfl rfl rfl ?_
          refine q_get (q0 := 0) (k := 25) (v := .int (((tkS (set2 y 27 (fun _ => T1 (inR ticks 1 50))) n q i).1 25 0) + 1)) (pc2 := 60) C hT4 f139 (wM_g0 ct b (set2 (tkS (set2 y 27 (fun _ => T1 (inR ticks 1 50))) n q i).1 25 (fun _ => (((tkS (set2 y 27 (fun _ => T1 (inR ticks 1 50))) n q i).1 25 0) + 1)))) rfl (by decide) rfl rfl dX4_tick_57 rfl ?_
          refine q_aload_n (pc2 := 61) C 2 dX4_tick_60 rfl rfl rfl ?_
          refine q_get (q0 := 0) (k := 24) (v := .int ((tkS (set2 y 27 (fun _ => T1 (inR ticks 1 50))) n q i).1 24 0)) (pc2 := 64) C hT4 f151 (wM_g0 ct b (set2 (tkS (set2 y 27 (fun _ => T1 (inR ticks 1 50))) n q i).1 25 (fun _ => (((tkS (set2 y 27 (fun _ => T1 (inR ticks 1 50))) n q i).1 25 0) + 1)))) rfl (by decide) rfl rfl dX4_tick_61 rfl ?_
          refine q_isub (pc2 := 65) C dX4_tick_64 rfl rfl ?_
          refine q_aload_n (pc2 := 66) C 2 dX4_tick_65 rfl rfl rfl ?_
          refine q_get (q0 := 0) (k := 21) (v := .ref (b 21)) (pc2 := 69) C hT4 f65 (wM_g0 ct b (set2 (tkS (set2 y 27 (fun _ => T1 (inR ticks 1 50))) n q i).1 25 (fun _ => (((tkS (set2 y 27 (fun _ => T1 (inR ticks 1 50))) n q i).1 25 0) + 1)))) rfl (by decide) rfl rfl dX4_tick_66 rfl ?_
          refine q_aload_n (pc2 := 70) C 2 dX4_tick_69 rfl rfl rfl ?_
          refine q_get (q0 := 0) (k := 23) (v := .int ((tkS (set2 y 27 (fun _ => T1 (inR ticks 1 50))) n q i).1 23 0)) (pc2 := 73) C hT4 f145 (wM_g0 ct b (set2 (tkS (set2 y 27 (fun _ => T1 (inR ticks 1 50))) n q i).1 25 (fun _ => (((tkS (set2 y 27 (fun _ => T1 (inR ticks 1 50))) n q i).1 25 0) + 1)))) rfl (by decide) rfl rfl dX4_tick_70 rfl ?_
          refine q_iconst (v := 1) (pc2 := 74) C dX4_tick_73 (by decide) rfl ?_
          refine q_isub (v := nI (b0 - 1)) (pc2 := 75) C dX4_tick_74 (hi23) rfl ?_
          refine q_iald (q0 := 19) (f := ((tkS (set2 y 27 (fun _ => T1 (inR ticks 1 50))) n q i).1 21)) (pc2 := 76) C (b0 - 1) (wM_g19 ct b (set2 (tkS (set2 y 27 (fun _ => T1 (inR ticks 1 50))) n q i).1 25 (fun _ => (((tkS (set2 y 27 (fun _ => T1 (inR ticks 1 50))) n q i).1 25 0) + 1)))) rfl (rfl) (by omega) (by decide) dX4_tick_75 rfl ?_
          refine q_icmp_ne (tgt := 86) (pc2 := 79) C dX4_tick_76 (by decide) rfl (fun c76 => ?_) (fun c76 => ?_)
          · skip
            refine q_lv (lv' := [(3, .int (nI i)), (2, .int (tkS (set2 y 27 (fun _ => T1 (inR ticks 1 50))) n q i).2), (0, .ref (b 30)), (1, .int ticks)]) [0, 1, 2, 3] rfl ?_
            have hnd : ¬ dueM (tkS (set2 y 27 (fun _ => T1 (inR ticks 1 50))) n q i).1 := fun w9 => c76 (by have w8 := w9.2.2; unfold fol at w8; rw [hf] at w8; exact w8)
            refine q_eql (lv' := [(3, .int (nI i)), (2, .int (tkS (set2 y 27 (fun _ => T1 (inR ticks 1 50))) n q (i + 1)).2), (0, .ref (b 30)), (1, .int ticks)]) (by simp only [tkS]; rw [if_neg hnd, Int32.add_zero]) ?_
            refine q_eqw (ws' := (wM ct b (tkB (tkS (set2 y 27 (fun _ => T1 (inR ticks 1 50))) n q i).1 n q))) (by unfold tkB; rw [if_neg hnd]; rfl) ?_
            exact hj86
          · skip
            refine q_iload_n (pc2 := 80) C 1 dX4_tick_79 rfl rfl rfl ?_
            refine q_aload_n (pc2 := 81) C 2 dX4_tick_80 rfl rfl rfl ?_
            refine q_eqw (ws' := (wM ct b (tkA (tkS (set2 y 27 (fun _ => T1 (inR ticks 1 50))) n q i).1))) rfl ?_
            refine q_cV (pc2 := 84) (As := []) (st := [.int (tkS (set2 y 27 (fun _ => T1 (inR ticks 1 50))) n q i).2]) (st2 := [.int (bnM n (q - b0) b0 (tkA (tkS (set2 y 27 (fun _ => T1 (inR ticks 1 50))) n q i).1) 23 0 - (tkA (tkS (set2 y 27 (fun _ => T1 (inR ticks 1 50))) n q i).1) 23 0), .int (tkS (set2 y 27 (fun _ => T1 (inR ticks 1 50))) n q i).2]) (q0 := 0) (w2 := (wM ct b (bnM n (q - b0) b0 (tkA (tkS (set2 y 27 (fun _ => T1 (inR ticks 1 50))) n q i).1)))) (c2 := 0) (s2 := 0) C (c_X4_begin l D ct b (tkA (tkS (set2 y 27 (fun _ => T1 (inR ticks 1 50))) n q i).1) n h4 hn10 q h18 hq8 b0 h23 hbq (t + i + 1) (TM_tkA hTZ) htZ) (cwV 0 C.w gX4_tick_X4_begin rfl rfl rfl (by decide +kernel) ⟨Nat.le_of_ble_eq_true rfl, Nat.le_of_ble_eq_true rfl⟩) rfl rfl [0, 1, 2, 3, 4, 5, 6, 7, 8, 9, 10, 11, 12, 13, 14, 15, 16, 17, 18, 19, 20, 21] [] [0, 1, 2, 3, 4, 5, 6, 7, 8, 9, 10, 11, 12, 13, 14, 15, 16, 17, 18, 19, 20, 21] rfl rfl (by decide) (by decide) (by decide) rfl (by decide) dX4_tick_81 rfl rfl (Nat.le_of_ble_eq_true rfl) ⟨by decide, by decide⟩ rfl rfl rfl rfl ?_
            refine q_iadd (pc2 := 85) C dX4_tick_84 rfl rfl ?_
            refine q_istore_n (lv' := [(2, .int ((tkS (set2 y 27 (fun _ => T1 (inR ticks 1 50))) n q i).2 + (bnM n (q - b0) b0 (tkA (tkS (set2 y 27 (fun _ => T1 (inR ticks 1 50))) n q i).1) 23 0 - (tkA (tkS (set2 y 27 (fun _ => T1 (inR ticks 1 50))) n q i).1) 23 0))), (3, .int (nI i)), (0, .ref (b 30)), (1, .int ticks)]) (pc2 := 86) C dX4_tick_85 rfl (by decide) rfl rfl ?_
            refine q_lv (lv' := [(3, .int (nI i)), (2, .int ((tkS (set2 y 27 (fun _ => T1 (inR ticks 1 50))) n q i).2 + (bnM n (q - b0) b0 (tkA (tkS (set2 y 27 (fun _ => T1 (inR ticks 1 50))) n q i).1) 23 0 - (tkA (tkS (set2 y 27 (fun _ => T1 (inR ticks 1 50))) n q i).1) 23 0))), (0, .ref (b 30)), (1, .int ticks)]) [1, 0, 2, 3] rfl ?_
            have hdu : dueM (tkS (set2 y 27 (fun _ => T1 (inR ticks 1 50))) n q i).1 := ⟨Int32.not_le.mp c39, by unfold fol; rw [hf]; exact Int32.not_le.mp c53, by unfold fol; rw [hf]; exact c76⟩
            have hB : (tkB (tkS (set2 y 27 (fun _ => T1 (inR ticks 1 50))) n q i).1 n q) = bnM n (q - b0) b0 (tkA (tkS (set2 y 27 (fun _ => T1 (inR ticks 1 50))) n q i).1) := by unfold tkB; rw [if_pos hdu, hcb]
            refine q_eql (lv' := [(3, .int (nI i)), (2, .int (tkS (set2 y 27 (fun _ => T1 (inR ticks 1 50))) n q (i + 1)).2), (0, .ref (b 30)), (1, .int ticks)]) (by simp only [tkS]; rw [if_pos hdu, hB]; rfl) ?_
            refine q_eqw (ws' := (wM ct b (tkB (tkS (set2 y 27 (fun _ => T1 (inR ticks 1 50))) n q i).1 n q))) (by rw [hB]) ?_
            exact hj86
    · skip
      refine q_iload_n (pc2 := 21) C 0 dX4_tick_20 rfl rfl rfl ?_
      refine q_iload_n (pc2 := 22) C 3 dX4_tick_21 rfl rfl rfl ?_
      refine q_icmp_ge (tgt := 136) (pc2 := 25) C dX4_tick_22 (by decide) rfl (fun _ => ?_) (fun c22 => (absurd (show ticks ≤ nI ticks.toNatClampNeg by rw [← hTk.2]; exact Int32.le_refl _) c22))
      refine q_iload_n (pc2 := 137) C 1 dX4_tick_136 rfl rfl rfl ?_
      exact q_zret C hQ rfl (rfl) (by decide) (by decide) dX4_tick_137 ⟨by rw [if_pos ht9], by rw [if_pos ht9]⟩
  · skip
    have ht0 : ¬ T1 (inR ticks 1 50) = 0 := by rw [show T1 (inR ticks 1 50) = 1 from if_pos c11]; decide
    refine q_iconst (v := 0) (pc2 := 15) C dX4_tick_14 (by decide) rfl ?_
    exact q_zret C hQ rfl (rfl) (by decide) (by decide) dX4_tick_15 ⟨by rw [if_neg ht0], by rw [if_neg ht0]⟩
