/-! the reference: its methods on bars, lamps, addresses -/
theorem t3_0 {P1 P2 P3 : Prop} [Decidable P1] [Decidable P2] [Decidable P3] (h : (if b2 P1 = 0 then 1 else if b2 P2 = 0 then 2 else if b2 P3 = 0 then 3 else 0 : Int32) = 0) : P1 ∧ P2 ∧ P3 := by
  by_cases h1 : P1 <;> by_cases h2 : P2 <;> by_cases h3 : P3 <;> simp [b2, h1, h2, h3] at h ⊢
theorem t2_0 {P1 P2 : Prop} [Decidable P1] [Decidable P2] (h : (if b2 P1 = 0 then 1 else if b2 P2 = 0 then 2 else 0 : Int32) = 0) : P1 ∧ P2 := by
  by_cases h1 : P1 <;> by_cases h2 : P2 <;> simp [b2, h1, h2] at h ⊢
theorem idx01 {v : Int32} (h : inR v 0 1) : v.toNatClampNeg < 2 ∧ v = nI v.toNatClampNeg := idxN (k := 2) h (by decide)
theorem idx4 {v : Int32} {k : Nat} (hv : v = nI k) (hk : k ≤ 4) : v.toNatClampNeg = k := by rw [hv]; exact nI_clamp (by omega)
abbrev T3 (P1 P2 P3 : Prop) [Decidable P1] [Decidable P2] [Decidable P3] : Int32 := if b2 P1 = 0 then 1 else if b2 P2 = 0 then 2 else if b2 P3 = 0 then 3 else 0
abbrev T2 (P1 P2 : Prop) [Decidable P1] [Decidable P2] : Int32 := if b2 P1 = 0 then 1 else if b2 P2 = 0 then 2 else 0
abbrev T1 (P1 : Prop) [Decidable P1] : Int32 := if b2 P1 = 0 then 1 else 0

set_option maxHeartbeats 4000000 in
set_option maxRecDepth 100000 in
theorem c_X4_bar (l : Launch) (D : va_G) (ct : Nat → ClassId) (b : Nat → Nat) (y : Nat → Nat → Int32) (hB : ∀ t, t < 2 → 0 ≤ y 1 t) (house len lim : Int32) : qM l yX4_bar wsX4_bar ({ frames := 1, cells := 0, slots := 0, locals := 23 }) D ct [.ref (b 30), .int house, .int len, .int lim] (wM ct b y) (qD (some (.int (if T3 (inR house 0 1) (inR len 0 100 ∧ inR lim 1 500) (inR house 0 1 ∧ y 1 house.toNatClampNeg < 4) = 0 then y 1 house.toNatClampNeg + 1 - 1 else 0))) (wM ct b (if T3 (inR house 0 1) (inR len 0 100 ∧ inR lim 1 500) (inR house 0 1 ∧ y 1 house.toNatClampNeg < 4) = 0 then (set2 (set2 (set2 (set2 y 27 (fun _ => T3 (inR house 0 1) (inR len 0 100 ∧ inR lim 1 500) (inR house 0 1 ∧ y 1 house.toNatClampNeg < 4))) 2 (upd (y 2) (4 * house.toNatClampNeg + (y 1 house.toNatClampNeg).toNatClampNeg) len)) 3 (upd (y 3) (4 * house.toNatClampNeg + (y 1 house.toNatClampNeg).toNatClampNeg) lim)) 1 (upd (y 1) house.toNatClampNeg (y 1 house.toNatClampNeg + 1))) else (set2 y 27 (fun _ => T3 (inR house 0 1) (inR len 0 100 ∧ inR lim 1 500) (inR house 0 1 ∧ y 1 house.toNatClampNeg < 4)))))) 0 0 := by
  refine q_start (ret := some .int) (lv := [(0, .ref (b 30)), (1, .int house), (2, .int len), (3, .int lim)]) (by decide +kernel) rfl (Nat.le_of_ble_eq_true rfl) rfl ?_
  intro p e s m args below meth c A Q C hQ hnm
  have hT4 : ∀ w ∈ u_ws RX4 TX4 28, w ∈ wsX4_bar := by decide +kernel
  have f13 : (Cond.fieldLink RX4 13 "PlotPatchModel" "length" "[I").before args s = true := C.w _ (by decide +kernel)
  have f7 : (Cond.fieldLink RX4 7 "PlotPatchModel" "bars" "[I").before args s = true := C.w _ (by decide +kernel)
  have f16 : (Cond.fieldLink RX4 16 "PlotPatchModel" "limit" "[I").before args s = true := C.w _ (by decide +kernel)
  refine q_iload_n (pc2 := 1) C 1 dX4_bar_0 rfl rfl rfl ?_
  refine q_iconst (v := 0) (pc2 := 2) C dX4_bar_1 (by decide) rfl ?_
  refine q_iconst (v := 1) (pc2 := 3) C dX4_bar_2 (by decide) rfl ?_
  refine q_cS (pc2 := 6) (As := [.int house, .int 0, .int 1]) (st := []) (st2 := [.int (b2 (inR house 0 1))]) (w2 := (wM ct b y)) (c2 := 0) (s2 := 0) C (c_X4_isIn l D ct house 0 1) (va_cwS 3 C.w gX4_bar_X4_isIn rfl rfl rfl (by decide +kernel) ⟨Nat.le_of_ble_eq_true rfl, Nat.le_of_ble_eq_true rfl⟩) [] [0, 1, 2, 3, 4, 5, 6, 7, 8, 9, 10, 11, 12, 13, 14, 15, 16, 17, 18, 19, 20, 21] [0, 1, 2, 3, 4, 5, 6, 7, 8, 9, 10, 11, 12, 13, 14, 15, 16, 17, 18, 19, 20, 21] rfl rfl (by decide) (by decide) (by decide) rfl (by decide) dX4_bar_3 rfl rfl (Nat.le_of_ble_eq_true rfl) ⟨Nat.zero_le _, Nat.zero_le _⟩ rfl rfl rfl rfl ?_
  refine q_istore (lv' := [(4, .int (b2 (inR house 0 1))), (0, .ref (b 30)), (1, .int house), (2, .int len), (3, .int lim)]) (pc2 := 8) C dX4_bar_6 (by decide) rfl rfl ?_
  refine q_aload_n (pc2 := 9) C 1 dX4_bar_8 rfl rfl rfl ?_
  refine q_iload (pc2 := 11) C 0 dX4_bar_9 rfl rfl ?_
  have hj37 : Cf p l e ({ frames := 1, cells := 0, slots := 0, locals := 23 }) s m args below meth c D A 5 0 0 Q 37 [(4, .int (b2 (inR house 0 1))), (0, .ref (b 30)), (1, .int house), (2, .int len), (3, .int lim)] [.int (b2 (inR len 0 100 ∧ inR lim 1 500)), .int (b2 (inR house 0 1)), .ref (b 30)] (wM ct b y) := by
    have hj57 : Cf p l e ({ frames := 1, cells := 0, slots := 0, locals := 23 }) s m args below meth c D A 5 0 0 Q 57 [(4, .int (b2 (inR house 0 1))), (0, .ref (b 30)), (1, .int house), (2, .int len), (3, .int lim)] [.int (b2 (inR house 0 1 ∧ y 1 house.toNatClampNeg < 4)), .int (b2 (inR len 0 100 ∧ inR lim 1 500)), .int (b2 (inR house 0 1)), .ref (b 30)] (wM ct b y) := by
      refine q_cV (pc2 := 60) (As := [.int (b2 (inR house 0 1)), .int (b2 (inR len 0 100 ∧ inR lim 1 500)), .int (b2 (inR house 0 1 ∧ y 1 house.toNatClampNeg < 4))]) (st := []) (st2 := [.int (b2 (T3 (inR house 0 1) (inR len 0 100 ∧ inR lim 1 500) (inR house 0 1 ∧ y 1 house.toNatClampNeg < 4) = 0))]) (q0 := 0) (w2 := (wM ct b (set2 y 27 (fun _ => T3 (inR house 0 1) (inR len 0 100 ∧ inR lim 1 500) (inR house 0 1 ∧ y 1 house.toNatClampNeg < 4))))) (c2 := 0) (s2 := 0) C (c_X4_mayAll l D ct b y (b2 (inR house 0 1)) (b2 (inR len 0 100 ∧ inR lim 1 500)) (b2 (inR house 0 1 ∧ y 1 house.toNatClampNeg < 4))) (cwV 3 C.w gX4_bar_X4_mayAll rfl rfl rfl (by decide +kernel) ⟨Nat.le_of_ble_eq_true rfl, Nat.le_of_ble_eq_true rfl⟩) rfl rfl [0, 1, 2, 3, 4, 5, 6, 7, 8, 9, 10, 11, 12, 13, 14, 15, 16, 17, 18, 19, 20, 21] [] [0, 1, 2, 3, 4, 5, 6, 7, 8, 9, 10, 11, 12, 13, 14, 15, 16, 17, 18, 19, 20, 21] rfl rfl (by decide) (by decide) (by decide) rfl (by decide) dX4_bar_57 rfl rfl (Nat.le_of_ble_eq_true rfl) ⟨Nat.zero_le _, Nat.zero_le _⟩ rfl rfl rfl rfl ?_
      refine q_if_ne (tgt := 65) (pc2 := 63) C dX4_bar_60 (by decide) rfl (fun c60 => ?_) (fun c60 => ?_)
      · skip
        have ht : T3 (inR house 0 1) (inR len 0 100 ∧ inR lim 1 500) (inR house 0 1 ∧ y 1 house.toNatClampNeg < 4) = 0 := b2_ne.mp c60
        obtain ⟨p1, p2, p3⟩ := t3_0 ht
        have hH := idx01 p1
        have hK := idxL (k := 4) ⟨hB _ hH.1, p3.2⟩ (by decide)
        refine q_aload_n (pc2 := 66) C 1 dX4_bar_65 rfl rfl rfl ?_
        refine q_get (q0 := 0) (k := 2) (v := .ref (b 2)) (pc2 := 69) C hT4 f13 (wM_g0 ct b (set2 y 27 (fun _ => T3 (inR house 0 1) (inR len 0 100 ∧ inR lim 1 500) (inR house 0 1 ∧ y 1 house.toNatClampNeg < 4)))) rfl (by decide) rfl rfl dX4_bar_66 rfl ?_
        refine q_iconst (v := 4) (pc2 := 70) C dX4_bar_69 (by decide) rfl ?_
        refine q_iload_n (pc2 := 71) C 2 dX4_bar_70 rfl rfl rfl ?_
        refine q_imul (pc2 := 72) C dX4_bar_71 rfl rfl ?_
        refine q_aload_n (pc2 := 73) C 1 dX4_bar_72 rfl rfl rfl ?_
        refine q_get (q0 := 0) (k := 1) (v := .ref (b 1)) (pc2 := 76) C hT4 f7 (wM_g0 ct b (set2 y 27 (fun _ => T3 (inR house 0 1) (inR len 0 100 ∧ inR lim 1 500) (inR house 0 1 ∧ y 1 house.toNatClampNeg < 4)))) rfl (by decide) rfl rfl dX4_bar_73 rfl ?_
        refine q_iload_n (pc2 := 77) C 2 dX4_bar_76 rfl rfl rfl ?_
        refine q_iald (q0 := 1) (f := (y 1)) (pc2 := 78) C house.toNatClampNeg (wM_g1 ct b (set2 y 27 (fun _ => T3 (inR house 0 1) (inR len 0 100 ∧ inR lim 1 500) (inR house 0 1 ∧ y 1 house.toNatClampNeg < 4)))) rfl (hH.2) (hH.1) (by decide) dX4_bar_77 rfl ?_
        refine q_iadd (v := nI (4 * house.toNatClampNeg + (y 1 house.toNatClampNeg).toNatClampNeg)) (pc2 := 79) C dX4_bar_78 (cellK (n := 4) hH.2 hK.2) rfl ?_
        refine q_iload_n (pc2 := 80) C 3 dX4_bar_79 rfl rfl rfl ?_
        refine q_iast (q0 := 2) (f := (y 2)) (ws' := (wM ct b (set2 (set2 y 27 (fun _ => T3 (inR house 0 1) (inR len 0 100 ∧ inR lim 1 500) (inR house 0 1 ∧ y 1 house.toNatClampNeg < 4))) 2 (upd (y 2) (4 * house.toNatClampNeg + (y 1 house.toNatClampNeg).toNatClampNeg) len)))) (pc2 := 81) C (4 * house.toNatClampNeg + (y 1 house.toNatClampNeg).toNatClampNeg) (wM_g2 ct b (set2 y 27 (fun _ => T3 (inR house 0 1) (inR len 0 100 ∧ inR lim 1 500) (inR house 0 1 ∧ y 1 house.toNatClampNeg < 4)))) rfl (rfl) (by omega) (by decide) (wM_a2 ct b (set2 y 27 (fun _ => T3 (inR house 0 1) (inR len 0 100 ∧ inR lim 1 500) (inR house 0 1 ∧ y 1 house.toNatClampNeg < 4))) (upd (y 2) (4 * house.toNatClampNeg + (y 1 house.toNatClampNeg).toNatClampNeg) len)) dX4_bar_80 rfl ?_
        refine q_aload_n (pc2 := 82) C 1 dX4_bar_81 rfl rfl rfl ?_
        refine q_get (q0 := 0) (k := 3) (v := .ref (b 3)) (pc2 := 85) C hT4 f16 (wM_g0 ct b (set2 (set2 y 27 (fun _ => T3 (inR house 0 1) (inR len 0 100 ∧ inR lim 1 500) (inR house 0 1 ∧ y 1 house.toNatClampNeg < 4))) 2 (upd (y 2) (4 * house.toNatClampNeg + (y 1 house.toNatClampNeg).toNatClampNeg) len))) rfl (by decide) rfl rfl dX4_bar_82 rfl ?_
        refine q_iconst (v := 4) (pc2 := 86) C dX4_bar_85 (by decide) rfl ?_
        refine q_iload_n (pc2 := 87) C 2 dX4_bar_86 rfl rfl rfl ?_
        refine q_imul (pc2 := 88) C dX4_bar_87 rfl rfl ?_
        refine q_aload_n (pc2 := 89) C 1 dX4_bar_88 rfl rfl rfl ?_
        refine q_get (q0 := 0) (k := 1) (v := .ref (b 1)) (pc2 := 92) C hT4 f7 (wM_g0 ct b (set2 (set2 y 27 (fun _ => T3 (inR house 0 1) (inR len 0 100 ∧ inR lim 1 500) (inR house 0 1 ∧ y 1 house.toNatClampNeg < 4))) 2 (upd (y 2) (4 * house.toNatClampNeg + (y 1 house.toNatClampNeg).toNatClampNeg) len))) rfl (by decide) rfl rfl dX4_bar_89 rfl ?_
        refine q_iload_n (pc2 := 93) C 2 dX4_bar_92 rfl rfl rfl ?_
        refine q_iald (q0 := 1) (f := (y 1)) (pc2 := 94) C house.toNatClampNeg (wM_g1 ct b (set2 (set2 y 27 (fun _ => T3 (inR house 0 1) (inR len 0 100 ∧ inR lim 1 500) (inR house 0 1 ∧ y 1 house.toNatClampNeg < 4))) 2 (upd (y 2) (4 * house.toNatClampNeg + (y 1 house.toNatClampNeg).toNatClampNeg) len))) rfl (hH.2) (hH.1) (by decide) dX4_bar_93 rfl ?_
        refine q_iadd (v := nI (4 * house.toNatClampNeg + (y 1 house.toNatClampNeg).toNatClampNeg)) (pc2 := 95) C dX4_bar_94 (cellK (n := 4) hH.2 hK.2) rfl ?_
        refine q_iload_n (pc2 := 96) C 4 dX4_bar_95 rfl rfl rfl ?_
        refine q_iast (q0 := 3) (f := (y 3)) (ws' := (wM ct b (set2 (set2 (set2 y 27 (fun _ => T3 (inR house 0 1) (inR len 0 100 ∧ inR lim 1 500) (inR house 0 1 ∧ y 1 house.toNatClampNeg < 4))) 2 (upd (y 2) (4 * house.toNatClampNeg + (y 1 house.toNatClampNeg).toNatClampNeg) len)) 3 (upd (y 3) (4 * house.toNatClampNeg + (y 1 house.toNatClampNeg).toNatClampNeg) lim)))) (pc2 := 97) C (4 * house.toNatClampNeg + (y 1 house.toNatClampNeg).toNatClampNeg) (wM_g3 ct b (set2 (set2 y 27 (fun _ => T3 (inR house 0 1) (inR len 0 100 ∧ inR lim 1 500) (inR house 0 1 ∧ y 1 house.toNatClampNeg < 4))) 2 (upd (y 2) (4 * house.toNatClampNeg + (y 1 house.toNatClampNeg).toNatClampNeg) len))) rfl (rfl) (by omega) (by decide) (wM_a3 ct b (set2 (set2 y 27 (fun _ => T3 (inR house 0 1) (inR len 0 100 ∧ inR lim 1 500) (inR house 0 1 ∧ y 1 house.toNatClampNeg < 4))) 2 (upd (y 2) (4 * house.toNatClampNeg + (y 1 house.toNatClampNeg).toNatClampNeg) len)) (upd (y 3) (4 * house.toNatClampNeg + (y 1 house.toNatClampNeg).toNatClampNeg) lim)) dX4_bar_96 rfl ?_
        refine q_aload_n (pc2 := 98) C 1 dX4_bar_97 rfl rfl rfl ?_
        refine q_get (q0 := 0) (k := 1) (v := .ref (b 1)) (pc2 := 101) C hT4 f7 (wM_g0 ct b (set2 (set2 (set2 y 27 (fun _ => T3 (inR house 0 1) (inR len 0 100 ∧ inR lim 1 500) (inR house 0 1 ∧ y 1 house.toNatClampNeg < 4))) 2 (upd (y 2) (4 * house.toNatClampNeg + (y 1 house.toNatClampNeg).toNatClampNeg) len)) 3 (upd (y 3) (4 * house.toNatClampNeg + (y 1 house.toNatClampNeg).toNatClampNeg) lim))) rfl (by decide) rfl rfl dX4_bar_98 rfl ?_
        refine q_iload_n (pc2 := 102) C 2 dX4_bar_101 rfl rfl rfl ?_
        refine q_dup2 (pc2 := 103) C dX4_bar_102 rfl rfl rfl ?_
        refine q_iald (q0 := 1) (f := (y 1)) (pc2 := 104) C house.toNatClampNeg (wM_g1 ct b (set2 (set2 (set2 y 27 (fun _ => T3 (inR house 0 1) (inR len 0 100 ∧ inR lim 1 500) (inR house 0 1 ∧ y 1 house.toNatClampNeg < 4))) 2 (upd (y 2) (4 * house.toNatClampNeg + (y 1 house.toNatClampNeg).toNatClampNeg) len)) 3 (upd (y 3) (4 * house.toNatClampNeg + (y 1 house.toNatClampNeg).toNatClampNeg) lim))) rfl (hH.2) (hH.1) (by decide) dX4_bar_103 rfl ?_
        refine q_iconst (v := 1) (pc2 := 105) C dX4_bar_104 (by decide) rfl ?_
        refine q_iadd (pc2 := 106) C dX4_bar_105 rfl rfl ?_
        refine q_iast (q0 := 1) (f := (y 1)) (ws' := (wM ct b (set2 (set2 (set2 (set2 y 27 (fun _ => T3 (inR house 0 1) (inR len 0 100 ∧ inR lim 1 500) (inR house 0 1 ∧ y 1 house.toNatClampNeg < 4))) 2 (upd (y 2) (4 * house.toNatClampNeg + (y 1 house.toNatClampNeg).toNatClampNeg) len)) 3 (upd (y 3) (4 * house.toNatClampNeg + (y 1 house.toNatClampNeg).toNatClampNeg) lim)) 1 (upd (y 1) house.toNatClampNeg (((y 1) house.toNatClampNeg) + 1))))) (pc2 := 107) C house.toNatClampNeg (wM_g1 ct b (set2 (set2 (set2 y 27 (fun _ => T3 (inR house 0 1) (inR len 0 100 ∧ inR lim 1 500) (inR house 0 1 ∧ y 1 house.toNatClampNeg < 4))) 2 (upd (y 2) (4 * house.toNatClampNeg + (y 1 house.toNatClampNeg).toNatClampNeg) len)) 3 (upd (y 3) (4 * house.toNatClampNeg + (y 1 house.toNatClampNeg).toNatClampNeg) lim))) rfl (hH.2) (hH.1) (by decide) (wM_a1 ct b (set2 (set2 (set2 y 27 (fun _ => T3 (inR house 0 1) (inR len 0 100 ∧ inR lim 1 500) (inR house 0 1 ∧ y 1 house.toNatClampNeg < 4))) 2 (upd (y 2) (4 * house.toNatClampNeg + (y 1 house.toNatClampNeg).toNatClampNeg) len)) 3 (upd (y 3) (4 * house.toNatClampNeg + (y 1 house.toNatClampNeg).toNatClampNeg) lim)) (upd (y 1) house.toNatClampNeg (((y 1) house.toNatClampNeg) + 1))) dX4_bar_106 rfl ?_
        refine q_aload_n (pc2 := 108) C 1 dX4_bar_107 rfl rfl rfl ?_
        refine q_get (q0 := 0) (k := 1) (v := .ref (b 1)) (pc2 := 111) C hT4 f7 (wM_g0 ct b (set2 (set2 (set2 (set2 y 27 (fun _ => T3 (inR house 0 1) (inR len 0 100 ∧ inR lim 1 500) (inR house 0 1 ∧ y 1 house.toNatClampNeg < 4))) 2 (upd (y 2) (4 * house.toNatClampNeg + (y 1 house.toNatClampNeg).toNatClampNeg) len)) 3 (upd (y 3) (4 * house.toNatClampNeg + (y 1 house.toNatClampNeg).toNatClampNeg) lim)) 1 (upd (y 1) house.toNatClampNeg (((y 1) house.toNatClampNeg) + 1)))) rfl (by decide) rfl rfl dX4_bar_108 rfl ?_
        refine q_iload_n (pc2 := 112) C 2 dX4_bar_111 rfl rfl rfl ?_
        refine q_iald (q0 := 1) (f := (upd (y 1) house.toNatClampNeg (((y 1) house.toNatClampNeg) + 1))) (pc2 := 113) C house.toNatClampNeg (wM_g1 ct b (set2 (set2 (set2 (set2 y 27 (fun _ => T3 (inR house 0 1) (inR len 0 100 ∧ inR lim 1 500) (inR house 0 1 ∧ y 1 house.toNatClampNeg < 4))) 2 (upd (y 2) (4 * house.toNatClampNeg + (y 1 house.toNatClampNeg).toNatClampNeg) len)) 3 (upd (y 3) (4 * house.toNatClampNeg + (y 1 house.toNatClampNeg).toNatClampNeg) lim)) 1 (upd (y 1) house.toNatClampNeg (((y 1) house.toNatClampNeg) + 1)))) rfl (hH.2) (hH.1) (by decide) dX4_bar_112 rfl ?_
        refine q_eqi (y := (y 1 house.toNatClampNeg + 1)) (upd_s) ?_
        refine q_iconst (v := 1) (pc2 := 114) C dX4_bar_113 (by decide) rfl ?_
        refine q_isub (pc2 := 115) C dX4_bar_114 rfl rfl ?_
        exact q_zret C hQ rfl (rfl) (Nat.zero_le _) (Nat.zero_le _) dX4_bar_115 ⟨by rw [if_pos ht], by rw [if_pos ht]⟩
      · skip
        have ht0 : ¬ T3 (inR house 0 1) (inR len 0 100 ∧ inR lim 1 500) (inR house 0 1 ∧ y 1 house.toNatClampNeg < 4) = 0 := b2_eq.mp c60
        refine q_iconst (v := 0) (pc2 := 64) C dX4_bar_63 (by decide) rfl ?_
        exact q_zret C hQ rfl (rfl) (Nat.zero_le _) (Nat.zero_le _) dX4_bar_64 ⟨by rw [if_neg ht0], by rw [if_neg ht0]⟩
    refine q_iload (pc2 := 39) C 0 dX4_bar_37 rfl rfl ?_
    refine q_if_eq (tgt := 56) (pc2 := 42) C dX4_bar_39 (by decide) rfl (fun c39 => ?_) (fun c39 => ?_)
    · skip
      refine q_iconst (v := 0) (pc2 := 57) C dX4_bar_56 (by decide) rfl ?_
      refine q_eqi (y := (b2 (inR house 0 1 ∧ y 1 house.toNatClampNeg < 4))) ((b2_f (fun z : inR house 0 1 ∧ y 1 house.toNatClampNeg < 4 => absurd z.1 (b2_eq.mp c39))).symm) ?_
      exact hj57
    · skip
      have hH := idx01 (b2_ne.mp c39)
      refine q_aload_n (pc2 := 43) C 1 dX4_bar_42 rfl rfl rfl ?_
      refine q_get (q0 := 0) (k := 1) (v := .ref (b 1)) (pc2 := 46) C hT4 f7 (wM_g0 ct b y) rfl (by decide) rfl rfl dX4_bar_43 rfl ?_
      refine q_iload_n (pc2 := 47) C 2 dX4_bar_46 rfl rfl rfl ?_
      refine q_iald (q0 := 1) (f := (y 1)) (pc2 := 48) C house.toNatClampNeg (wM_g1 ct b y) rfl (hH.2) (hH.1) (by decide) dX4_bar_47 rfl ?_
      refine q_iconst (v := 4) (pc2 := 49) C dX4_bar_48 (by decide) rfl ?_
      refine q_icmp_ge (tgt := 56) (pc2 := 52) C dX4_bar_49 (by decide) rfl (fun c49 => ?_) (fun c49 => ?_)
      · skip
        refine q_iconst (v := 0) (pc2 := 57) C dX4_bar_56 (by decide) rfl ?_
        refine q_eqi (y := (b2 (inR house 0 1 ∧ y 1 house.toNatClampNeg < 4))) ((b2_f (fun z : inR house 0 1 ∧ y 1 house.toNatClampNeg < 4 => absurd z.2 (Int32.not_lt.mpr c49))).symm) ?_
        exact hj57
      · skip
        refine q_iconst (v := 1) (pc2 := 53) C dX4_bar_52 (by decide) rfl ?_
        refine q_goto (pc2 := 57) C dX4_bar_53 (by decide) ?_
        refine q_eqi (y := (b2 (inR house 0 1 ∧ y 1 house.toNatClampNeg < 4))) ((b2_t (c := inR house 0 1 ∧ y 1 house.toNatClampNeg < 4) ⟨b2_ne.mp c39, Int32.not_le.mp c49⟩).symm) ?_
        exact hj57
  refine q_iload_n (pc2 := 12) C 3 dX4_bar_11 rfl rfl rfl ?_
  refine q_iconst (v := 0) (pc2 := 13) C dX4_bar_12 (by decide) rfl ?_
  refine q_bipush (v := 100) (pc2 := 15) C dX4_bar_13 (by decide) rfl ?_
  refine q_cS (pc2 := 18) (As := [.int len, .int 0, .int 100]) (st := [.int (b2 (inR house 0 1)), .ref (b 30)]) (st2 := [.int (b2 (inR len 0 100)), .int (b2 (inR house 0 1)), .ref (b 30)]) (w2 := (wM ct b y)) (c2 := 0) (s2 := 0) C (c_X4_isIn l D ct len 0 100) (va_cwS 3 C.w gX4_bar_X4_isIn rfl rfl rfl (by decide +kernel) ⟨Nat.le_of_ble_eq_true rfl, Nat.le_of_ble_eq_true rfl⟩) [] [0, 1, 2, 3, 4, 5, 6, 7, 8, 9, 10, 11, 12, 13, 14, 15, 16, 17, 18, 19, 20, 21] [0, 1, 2, 3, 4, 5, 6, 7, 8, 9, 10, 11, 12, 13, 14, 15, 16, 17, 18, 19, 20, 21] rfl rfl (by decide) (by decide) (by decide) rfl (by decide) dX4_bar_15 rfl rfl (Nat.le_of_ble_eq_true rfl) ⟨Nat.zero_le _, Nat.zero_le _⟩ rfl rfl rfl rfl ?_
  refine q_if_eq (tgt := 36) (pc2 := 21) C dX4_bar_18 (by decide) rfl (fun c18 => ?_) (fun c18 => ?_)
  · skip
    refine q_iconst (v := 0) (pc2 := 37) C dX4_bar_36 (by decide) rfl ?_
    refine q_eqi (y := (b2 (inR len 0 100 ∧ inR lim 1 500))) ((b2_f (fun z : inR len 0 100 ∧ inR lim 1 500 => absurd z.1 (b2_eq.mp c18))).symm) ?_
    exact hj37
  · skip
    refine q_iload_n (pc2 := 22) C 4 dX4_bar_21 rfl rfl rfl ?_
    refine q_iconst (v := 1) (pc2 := 23) C dX4_bar_22 (by decide) rfl ?_
    refine q_sipush (v := 500) (pc2 := 26) C dX4_bar_23 (by decide) rfl ?_
    refine q_cS (pc2 := 29) (As := [.int lim, .int 1, .int 500]) (st := [.int (b2 (inR house 0 1)), .ref (b 30)]) (st2 := [.int (b2 (inR lim 1 500)), .int (b2 (inR house 0 1)), .ref (b 30)]) (w2 := (wM ct b y)) (c2 := 0) (s2 := 0) C (c_X4_isIn l D ct lim 1 500) (va_cwS 3 C.w gX4_bar_X4_isIn rfl rfl rfl (by decide +kernel) ⟨Nat.le_of_ble_eq_true rfl, Nat.le_of_ble_eq_true rfl⟩) [] [0, 1, 2, 3, 4, 5, 6, 7, 8, 9, 10, 11, 12, 13, 14, 15, 16, 17, 18, 19, 20, 21] [0, 1, 2, 3, 4, 5, 6, 7, 8, 9, 10, 11, 12, 13, 14, 15, 16, 17, 18, 19, 20, 21] rfl rfl (by decide) (by decide) (by decide) rfl (by decide) dX4_bar_26 rfl rfl (Nat.le_of_ble_eq_true rfl) ⟨Nat.zero_le _, Nat.zero_le _⟩ rfl rfl rfl rfl ?_
    refine q_if_eq (tgt := 36) (pc2 := 32) C dX4_bar_29 (by decide) rfl (fun c29 => ?_) (fun c29 => ?_)
    · skip
      refine q_iconst (v := 0) (pc2 := 37) C dX4_bar_36 (by decide) rfl ?_
      refine q_eqi (y := (b2 (inR len 0 100 ∧ inR lim 1 500))) ((b2_f (fun z : inR len 0 100 ∧ inR lim 1 500 => absurd z.2 (b2_eq.mp c29))).symm) ?_
      exact hj37
    · skip
      refine q_iconst (v := 1) (pc2 := 33) C dX4_bar_32 (by decide) rfl ?_
      refine q_goto (pc2 := 37) C dX4_bar_33 (by decide) ?_
      refine q_eqi (y := (b2 (inR len 0 100 ∧ inR lim 1 500))) ((b2_t (c := inR len 0 100 ∧ inR lim 1 500) ⟨b2_ne.mp c18, b2_ne.mp c29⟩).symm) ?_
      exact hj37

set_option maxHeartbeats 4000000 in
set_option maxRecDepth 100000 in
theorem c_X4_lamp (l : Launch) (D : va_G) (ct : Nat → ClassId) (b : Nat → Nat) (y : Nat → Nat → Int32) (n : Nat) (hn : y 4 0 = nI n) (hn10 : n ≤ 10) (kind col : Int32) : qM l yX4_lamp wsX4_lamp ({ frames := 1, cells := 0, slots := 0, locals := 22 }) D ct [.ref (b 30), .int kind, .int col] (wM ct b y) (qD (some (.int (if T2 (inR kind 0 3 ∧ inR col 0 20) (y 4 0 < 10) = 0 then y 4 0 + 1 - 1 else 0))) (wM ct b (if T2 (inR kind 0 3 ∧ inR col 0 20) (y 4 0 < 10) = 0 then (set2 (set2 (set2 (set2 (set2 (set2 (set2 y 27 (fun _ => T2 (inR kind 0 3 ∧ inR col 0 20) (y 4 0 < 10))) 5 (upd (y 5) n kind)) 6 (upd (y 6) n col)) 7 (upd (y 7) n (-1))) 9 (upd (y 9) n (-1))) 10 (upd (y 10) n (-1))) 4 (fun _ => y 4 0 + 1)) else (set2 y 27 (fun _ => T2 (inR kind 0 3 ∧ inR col 0 20) (y 4 0 < 10)))))) 0 0 := by
  refine q_start (ret := some .int) (lv := [(0, .ref (b 30)), (1, .int kind), (2, .int col)]) (by decide +kernel) rfl (Nat.le_of_ble_eq_true rfl) rfl ?_
  intro p e s m args below meth c A Q C hQ hnm
  have hT4 : ∀ w ∈ u_ws RX4 TX4 28, w ∈ wsX4_lamp := by decide +kernel
  have f19 : (Cond.fieldLink RX4 19 "PlotPatchModel" "kind" "[I").before args s = true := C.w _ (by decide +kernel)
  have f78 : (Cond.fieldLink RX4 78 "PlotPatchModel" "lamps" "I").before args s = true := C.w _ (by decide +kernel)
  have f22 : (Cond.fieldLink RX4 22 "PlotPatchModel" "colour" "[I").before args s = true := C.w _ (by decide +kernel)
  have f25 : (Cond.fieldLink RX4 25 "PlotPatchModel" "bar" "[I").before args s = true := C.w _ (by decide +kernel)
  have f31 : (Cond.fieldLink RX4 31 "PlotPatchModel" "first" "[I").before args s = true := C.w _ (by decide +kernel)
  have f34 : (Cond.fieldLink RX4 34 "PlotPatchModel" "circuit" "[I").before args s = true := C.w _ (by decide +kernel)
  refine q_aload_n (pc2 := 1) C 0 dX4_lamp_0 rfl rfl rfl ?_
  have hj25 : Cf p l e ({ frames := 1, cells := 0, slots := 0, locals := 22 }) s m args below meth c D A 3 0 0 Q 25 [(0, .ref (b 30)), (1, .int kind), (2, .int col)] [.int (b2 (inR kind 0 3 ∧ inR col 0 20)), .ref (b 30)] (wM ct b y) := by
    have hj39 : Cf p l e ({ frames := 1, cells := 0, slots := 0, locals := 22 }) s m args below meth c D A 3 0 0 Q 39 [(0, .ref (b 30)), (1, .int kind), (2, .int col)] [.int (b2 (y 4 0 < 10)), .int (b2 (inR kind 0 3 ∧ inR col 0 20)), .ref (b 30)] (wM ct b y) := by
      refine q_cV (pc2 := 42) (As := [.int (b2 (inR kind 0 3 ∧ inR col 0 20)), .int (b2 (y 4 0 < 10))]) (st := []) (st2 := [.int (b2 (T2 (inR kind 0 3 ∧ inR col 0 20) (y 4 0 < 10) = 0))]) (q0 := 0) (w2 := (wM ct b (set2 y 27 (fun _ => T2 (inR kind 0 3 ∧ inR col 0 20) (y 4 0 < 10))))) (c2 := 0) (s2 := 0) C (c_X4_mayBoth l D ct b y (b2 (inR kind 0 3 ∧ inR col 0 20)) (b2 (y 4 0 < 10))) (cwV 2 C.w gX4_lamp_X4_mayBoth rfl rfl rfl (by decide +kernel) ⟨Nat.le_of_ble_eq_true rfl, Nat.le_of_ble_eq_true rfl⟩) rfl rfl [0, 1, 2, 3, 4, 5, 6, 7, 8, 9, 10, 11, 12, 13, 14, 15, 16, 17, 18, 19, 20, 21] [] [0, 1, 2, 3, 4, 5, 6, 7, 8, 9, 10, 11, 12, 13, 14, 15, 16, 17, 18, 19, 20, 21] rfl rfl (by decide) (by decide) (by decide) rfl (by decide) dX4_lamp_39 rfl rfl (Nat.le_of_ble_eq_true rfl) ⟨Nat.zero_le _, Nat.zero_le _⟩ rfl rfl rfl rfl ?_
      refine q_if_ne (tgt := 47) (pc2 := 45) C dX4_lamp_42 (by decide) rfl (fun c42 => ?_) (fun c42 => ?_)
      · skip
        have ht : T2 (inR kind 0 3 ∧ inR col 0 20) (y 4 0 < 10) = 0 := b2_ne.mp c42
        obtain ⟨p1, p2⟩ := t2_0 ht
        have hn9 : n < 10 := (nI_ltI (by omega) (by decide)).mp (show nI n < nI 10 by rw [← hn]; exact p2)
        refine q_aload_n (pc2 := 48) C 0 dX4_lamp_47 rfl rfl rfl ?_
        refine q_get (q0 := 0) (k := 5) (v := .ref (b 5)) (pc2 := 51) C hT4 f19 (wM_g0 ct b (set2 y 27 (fun _ => T2 (inR kind 0 3 ∧ inR col 0 20) (y 4 0 < 10)))) rfl (by decide) rfl rfl dX4_lamp_48 rfl ?_
        refine q_aload_n (pc2 := 52) C 0 dX4_lamp_51 rfl rfl rfl ?_
        refine q_get (q0 := 0) (k := 4) (v := .int (y 4 0)) (pc2 := 55) C hT4 f78 (wM_g0 ct b (set2 y 27 (fun _ => T2 (inR kind 0 3 ∧ inR col 0 20) (y 4 0 < 10)))) rfl (by decide) rfl rfl dX4_lamp_52 rfl ?_
        refine q_iload_n (pc2 := 56) C 1 dX4_lamp_55 rfl rfl rfl ?_
        refine q_iast (q0 := 4) (f := (y 5)) (ws' := (wM ct b (set2 (set2 y 27 (fun _ => T2 (inR kind 0 3 ∧ inR col 0 20) (y 4 0 < 10))) 5 (upd (y 5) n kind)))) (pc2 := 57) C n (wM_g4 ct b (set2 y 27 (fun _ => T2 (inR kind 0 3 ∧ inR col 0 20) (y 4 0 < 10)))) rfl (hn) (by omega) (by decide) (wM_a4 ct b (set2 y 27 (fun _ => T2 (inR kind 0 3 ∧ inR col 0 20) (y 4 0 < 10))) (upd (y 5) n kind)) dX4_lamp_56 rfl ?_
        refine q_aload_n (pc2 := 58) C 0 dX4_lamp_57 rfl rfl rfl ?_
        refine q_get (q0 := 0) (k := 6) (v := .ref (b 6)) (pc2 := 61) C hT4 f22 (wM_g0 ct b (set2 (set2 y 27 (fun _ => T2 (inR kind 0 3 ∧ inR col 0 20) (y 4 0 < 10))) 5 (upd (y 5) n kind))) rfl (by decide) rfl rfl dX4_lamp_58 rfl ?_
        refine q_aload_n (pc2 := 62) C 0 dX4_lamp_61 rfl rfl rfl ?_
        refine q_get (q0 := 0) (k := 4) (v := .int (y 4 0)) (pc2 := 65) C hT4 f78 (wM_g0 ct b (set2 (set2 y 27 (fun _ => T2 (inR kind 0 3 ∧ inR col 0 20) (y 4 0 < 10))) 5 (upd (y 5) n kind))) rfl (by decide) rfl rfl dX4_lamp_62 rfl ?_
        refine q_iload_n (pc2 := 66) C 2 dX4_lamp_65 rfl rfl rfl ?_
        refine q_iast (q0 := 5) (f := (y 6)) (ws' := (wM ct b (set2 (set2 (set2 y 27 (fun _ => T2 (inR kind 0 3 ∧ inR col 0 20) (y 4 0 < 10))) 5 (upd (y 5) n kind)) 6 (upd (y 6) n col)))) (pc2 := 67) C n (wM_g5 ct b (set2 (set2 y 27 (fun _ => T2 (inR kind 0 3 ∧ inR col 0 20) (y 4 0 < 10))) 5 (upd (y 5) n kind))) rfl (hn) (by omega) (by decide) (wM_a5 ct b (set2 (set2 y 27 (fun _ => T2 (inR kind 0 3 ∧ inR col 0 20) (y 4 0 < 10))) 5 (upd (y 5) n kind)) (upd (y 6) n col)) dX4_lamp_66 rfl ?_
        refine q_aload_n (pc2 := 68) C 0 dX4_lamp_67 rfl rfl rfl ?_
        refine q_get (q0 := 0) (k := 7) (v := .ref (b 7)) (pc2 := 71) C hT4 f25 (wM_g0 ct b (set2 (set2 (set2 y 27 (fun _ => T2 (inR kind 0 3 ∧ inR col 0 20) (y 4 0 < 10))) 5 (upd (y 5) n kind)) 6 (upd (y 6) n col))) rfl (by decide) rfl rfl dX4_lamp_68 rfl ?_
        refine q_aload_n (pc2 := 72) C 0 dX4_lamp_71 rfl rfl rfl ?_
        refine q_get (q0 := 0) (k := 4) (v := .int (y 4 0)) (pc2 := 75) C hT4 f78 (wM_g0 ct b (set2 (set2 (set2 y 27 (fun _ => T2 (inR kind 0 3 ∧ inR col 0 20) (y 4 0 < 10))) 5 (upd (y 5) n kind)) 6 (upd (y 6) n col))) rfl (by decide) rfl rfl dX4_lamp_72 rfl ?_
        refine q_iconst (v := (-1)) (pc2 := 76) C dX4_lamp_75 (by decide) rfl ?_
        refine q_iast (q0 := 6) (f := (y 7)) (ws' := (wM ct b (set2 (set2 (set2 (set2 y 27 (fun _ => T2 (inR kind 0 3 ∧ inR col 0 20) (y 4 0 < 10))) 5 (upd (y 5) n kind)) 6 (upd (y 6) n col)) 7 (upd (y 7) n (-1))))) (pc2 := 77) C n (wM_g6 ct b (set2 (set2 (set2 y 27 (fun _ => T2 (inR kind 0 3 ∧ inR col 0 20) (y 4 0 < 10))) 5 (upd (y 5) n kind)) 6 (upd (y 6) n col))) rfl (hn) (by omega) (by decide) (wM_a6 ct b (set2 (set2 (set2 y 27 (fun _ => T2 (inR kind 0 3 ∧ inR col 0 20) (y 4 0 < 10))) 5 (upd (y 5) n kind)) 6 (upd (y 6) n col)) (upd (y 7) n (-1))) dX4_lamp_76 rfl ?_
        refine q_aload_n (pc2 := 78) C 0 dX4_lamp_77 rfl rfl rfl ?_
        refine q_get (q0 := 0) (k := 9) (v := .ref (b 9)) (pc2 := 81) C hT4 f31 (wM_g0 ct b (set2 (set2 (set2 (set2 y 27 (fun _ => T2 (inR kind 0 3 ∧ inR col 0 20) (y 4 0 < 10))) 5 (upd (y 5) n kind)) 6 (upd (y 6) n col)) 7 (upd (y 7) n (-1)))) rfl (by decide) rfl rfl dX4_lamp_78 rfl ?_
        refine q_aload_n (pc2 := 82) C 0 dX4_lamp_81 rfl rfl rfl ?_
        refine q_get (q0 := 0) (k := 4) (v := .int (y 4 0)) (pc2 := 85) C hT4 f78 (wM_g0 ct b (set2 (set2 (set2 (set2 y 27 (fun _ => T2 (inR kind 0 3 ∧ inR col 0 20) (y 4 0 < 10))) 5 (upd (y 5) n kind)) 6 (upd (y 6) n col)) 7 (upd (y 7) n (-1)))) rfl (by decide) rfl rfl dX4_lamp_82 rfl ?_
        refine q_iconst (v := (-1)) (pc2 := 86) C dX4_lamp_85 (by decide) rfl ?_
        refine q_iast (q0 := 8) (f := (y 9)) (ws' := (wM ct b (set2 (set2 (set2 (set2 (set2 y 27 (fun _ => T2 (inR kind 0 3 ∧ inR col 0 20) (y 4 0 < 10))) 5 (upd (y 5) n kind)) 6 (upd (y 6) n col)) 7 (upd (y 7) n (-1))) 9 (upd (y 9) n (-1))))) (pc2 := 87) C n (wM_g8 ct b (set2 (set2 (set2 (set2 y 27 (fun _ => T2 (inR kind 0 3 ∧ inR col 0 20) (y 4 0 < 10))) 5 (upd (y 5) n kind)) 6 (upd (y 6) n col)) 7 (upd (y 7) n (-1)))) rfl (hn) (by omega) (by decide) (wM_a8 ct b (set2 (set2 (set2 (set2 y 27 (fun _ => T2 (inR kind 0 3 ∧ inR col 0 20) (y 4 0 < 10))) 5 (upd (y 5) n kind)) 6 (upd (y 6) n col)) 7 (upd (y 7) n (-1))) (upd (y 9) n (-1))) dX4_lamp_86 rfl ?_
        refine q_aload_n (pc2 := 88) C 0 dX4_lamp_87 rfl rfl rfl ?_
        refine q_get (q0 := 0) (k := 10) (v := .ref (b 10)) (pc2 := 91) C hT4 f34 (wM_g0 ct b (set2 (set2 (set2 (set2 (set2 y 27 (fun _ => T2 (inR kind 0 3 ∧ inR col 0 20) (y 4 0 < 10))) 5 (upd (y 5) n kind)) 6 (upd (y 6) n col)) 7 (upd (y 7) n (-1))) 9 (upd (y 9) n (-1)))) rfl (by decide) rfl rfl dX4_lamp_88 rfl ?_
        refine q_aload_n (pc2 := 92) C 0 dX4_lamp_91 rfl rfl rfl ?_
        refine q_get (q0 := 0) (k := 4) (v := .int (y 4 0)) (pc2 := 95) C hT4 f78 (wM_g0 ct b (set2 (set2 (set2 (set2 (set2 y 27 (fun _ => T2 (inR kind 0 3 ∧ inR col 0 20) (y 4 0 < 10))) 5 (upd (y 5) n kind)) 6 (upd (y 6) n col)) 7 (upd (y 7) n (-1))) 9 (upd (y 9) n (-1)))) rfl (by decide) rfl rfl dX4_lamp_92 rfl ?_
        refine q_iconst (v := (-1)) (pc2 := 96) C dX4_lamp_95 (by decide) rfl ?_
        refine q_iast (q0 := 9) (f := (y 10)) (ws' := (wM ct b (set2 (set2 (set2 (set2 (set2 (set2 y 27 (fun _ => T2 (inR kind 0 3 ∧ inR col 0 20) (y 4 0 < 10))) 5 (upd (y 5) n kind)) 6 (upd (y 6) n col)) 7 (upd (y 7) n (-1))) 9 (upd (y 9) n (-1))) 10 (upd (y 10) n (-1))))) (pc2 := 97) C n (wM_g9 ct b (set2 (set2 (set2 (set2 (set2 y 27 (fun _ => T2 (inR kind 0 3 ∧ inR col 0 20) (y 4 0 < 10))) 5 (upd (y 5) n kind)) 6 (upd (y 6) n col)) 7 (upd (y 7) n (-1))) 9 (upd (y 9) n (-1)))) rfl (hn) (by omega) (by decide) (wM_a9 ct b (set2 (set2 (set2 (set2 (set2 y 27 (fun _ => T2 (inR kind 0 3 ∧ inR col 0 20) (y 4 0 < 10))) 5 (upd (y 5) n kind)) 6 (upd (y 6) n col)) 7 (upd (y 7) n (-1))) 9 (upd (y 9) n (-1))) (upd (y 10) n (-1))) dX4_lamp_96 rfl ?_
        refine q_aload_n (pc2 := 98) C 0 dX4_lamp_97 rfl rfl rfl ?_
        refine q_dup (pc2 := 99) C dX4_lamp_98 rfl rfl ?_
        refine q_get (q0 := 0) (k := 4) (v := .int (y 4 0)) (pc2 := 102) C hT4 f78 (wM_g0 ct b (set2 (set2 (set2 (set2 (set2 (set2 y 27 (fun _ => T2 (inR kind 0 3 ∧ inR col 0 20) (y 4 0 < 10))) 5 (upd (y 5) n kind)) 6 (upd (y 6) n col)) 7 (upd (y 7) n (-1))) 9 (upd (y 9) n (-1))) 10 (upd (y 10) n (-1)))) rfl (by decide) rfl rfl dX4_lamp_99 rfl ?_
        refine q_iconst (v := 1) (pc2 := 103) C dX4_lamp_102 (by decide) rfl ?_
        refine q_iadd (pc2 := 104) C dX4_lamp_103 rfl rfl ?_
        refine q_put (q0 := 0) (k := 4) (ty := .int) (ws' := (wM ct b (set2 (set2 (set2 (set2 (set2 (set2 (set2 y 27 (fun _ => T2 (inR kind 0 3 ∧ inR col 0 20) (y 4 0 < 10))) 5 (upd (y 5) n kind)) 6 (upd (y 6) n col)) 7 (upd (y 7) n (-1))) 9 (upd (y 9) n (-1))) 10 (upd (y 10) n (-1))) 4 (fun _ => ((y 4 0) + 1))))) (pc2 := 107) C hT4 tyX4_ok nmX4 f78 (wM_g0 ct b (set2 (set2 (set2 (set2 (set2 (set2 y 27 (fun _ => T2 (inR kind 0 3 ∧ inR col 0 20) (y 4 0 < 10))) 5 (upd (y 5) n kind)) 6 (upd (y 6) n col)) 7 (upd (y 7) n (-1))) 9 (upd (y 9) n (-1))) 10 (upd (y 10) n (-1)))) rfl (by decide) rfl rfl (by decide +kernel) rfl rfl (Nat.le_of_ble_eq_true rfl) (wM_s0_4 ct b (set2 (set2 (set2 (set2 (set2 (set2 y 27 (fun _ => T2 (inR kind 0 3 ∧ inR col 0 20) (y 4 0 < 10))) 5 (upd (y 5) n kind)) 6 (upd (y 6) n col)) 7 (upd (y 7) n (-1))) 9 (upd (y 9) n (-1))) 10 (upd (y 10) n (-1))) ((y 4 0) + 1)) dX4_lamp_104 rfl ?_
        refine q_aload_n (pc2 := 108) C 0 dX4_lamp_107 rfl rfl rfl ?_
        refine q_get (q0 := 0) (k := 4) (v := .int ((y 4 0) + 1)) (pc2 := 111) C hT4 f78 (wM_g0 ct b (set2 (set2 (set2 (set2 (set2 (set2 (set2 y 27 (fun _ => T2 (inR kind 0 3 ∧ inR col 0 20) (y 4 0 < 10))) 5 (upd (y 5) n kind)) 6 (upd (y 6) n col)) 7 (upd (y 7) n (-1))) 9 (upd (y 9) n (-1))) 10 (upd (y 10) n (-1))) 4 (fun _ => ((y 4 0) + 1)))) rfl (by decide) rfl rfl dX4_lamp_108 rfl ?_
        refine q_iconst (v := 1) (pc2 := 112) C dX4_lamp_111 (by decide) rfl ?_
        refine q_isub (pc2 := 113) C dX4_lamp_112 rfl rfl ?_
        exact q_zret C hQ rfl (rfl) (Nat.zero_le _) (Nat.zero_le _) dX4_lamp_113 ⟨by rw [if_pos ht], by rw [if_pos ht]⟩
      · skip
        have ht0 : ¬ T2 (inR kind 0 3 ∧ inR col 0 20) (y 4 0 < 10) = 0 := b2_eq.mp c42
        refine q_iconst (v := 0) (pc2 := 46) C dX4_lamp_45 (by decide) rfl ?_
        exact q_zret C hQ rfl (rfl) (Nat.zero_le _) (Nat.zero_le _) dX4_lamp_46 ⟨by rw [if_neg ht0], by rw [if_neg ht0]⟩
    refine q_aload_n (pc2 := 26) C 0 dX4_lamp_25 rfl rfl rfl ?_
    refine q_get (q0 := 0) (k := 4) (v := .int (y 4 0)) (pc2 := 29) C hT4 f78 (wM_g0 ct b y) rfl (by decide) rfl rfl dX4_lamp_26 rfl ?_
    refine q_bipush (v := 10) (pc2 := 31) C dX4_lamp_29 (by decide) rfl ?_
    refine q_icmp_ge (tgt := 38) (pc2 := 34) C dX4_lamp_31 (by decide) rfl (fun c31 => ?_) (fun c31 => ?_)
    · skip
      refine q_iconst (v := 0) (pc2 := 39) C dX4_lamp_38 (by decide) rfl ?_
      refine q_eqi (y := (b2 (y 4 0 < 10))) ((b2_f (fun z : y 4 0 < 10 => absurd z (Int32.not_lt.mpr c31))).symm) ?_
      exact hj39
    · skip
      refine q_iconst (v := 1) (pc2 := 35) C dX4_lamp_34 (by decide) rfl ?_
      refine q_goto (pc2 := 39) C dX4_lamp_35 (by decide) ?_
      refine q_eqi (y := (b2 (y 4 0 < 10))) ((b2_t (c := y 4 0 < 10) (Int32.not_le.mp c31)).symm) ?_
      exact hj39
  refine q_iload_n (pc2 := 2) C 1 dX4_lamp_1 rfl rfl rfl ?_
  refine q_iconst (v := 0) (pc2 := 3) C dX4_lamp_2 (by decide) rfl ?_
  refine q_iconst (v := 3) (pc2 := 4) C dX4_lamp_3 (by decide) rfl ?_
  refine q_cS (pc2 := 7) (As := [.int kind, .int 0, .int 3]) (st := [.ref (b 30)]) (st2 := [.int (b2 (inR kind 0 3)), .ref (b 30)]) (w2 := (wM ct b y)) (c2 := 0) (s2 := 0) C (c_X4_isIn l D ct kind 0 3) (va_cwS 3 C.w gX4_lamp_X4_isIn rfl rfl rfl (by decide +kernel) ⟨Nat.le_of_ble_eq_true rfl, Nat.le_of_ble_eq_true rfl⟩) [] [0, 1, 2, 3, 4, 5, 6, 7, 8, 9, 10, 11, 12, 13, 14, 15, 16, 17, 18, 19, 20, 21] [0, 1, 2, 3, 4, 5, 6, 7, 8, 9, 10, 11, 12, 13, 14, 15, 16, 17, 18, 19, 20, 21] rfl rfl (by decide) (by decide) (by decide) rfl (by decide) dX4_lamp_4 rfl rfl (Nat.le_of_ble_eq_true rfl) ⟨Nat.zero_le _, Nat.zero_le _⟩ rfl rfl rfl rfl ?_
  refine q_if_eq (tgt := 24) (pc2 := 10) C dX4_lamp_7 (by decide) rfl (fun c7 => ?_) (fun c7 => ?_)
  · skip
    refine q_iconst (v := 0) (pc2 := 25) C dX4_lamp_24 (by decide) rfl ?_
    refine q_eqi (y := (b2 (inR kind 0 3 ∧ inR col 0 20))) ((b2_f (fun z : inR kind 0 3 ∧ inR col 0 20 => absurd z.1 (b2_eq.mp c7))).symm) ?_
    exact hj25
  · skip
    refine q_iload_n (pc2 := 11) C 2 dX4_lamp_10 rfl rfl rfl ?_
    refine q_iconst (v := 0) (pc2 := 12) C dX4_lamp_11 (by decide) rfl ?_
    refine q_bipush (v := 20) (pc2 := 14) C dX4_lamp_12 (by decide) rfl ?_
    refine q_cS (pc2 := 17) (As := [.int col, .int 0, .int 20]) (st := [.ref (b 30)]) (st2 := [.int (b2 (inR col 0 20)), .ref (b 30)]) (w2 := (wM ct b y)) (c2 := 0) (s2 := 0) C (c_X4_isIn l D ct col 0 20) (va_cwS 3 C.w gX4_lamp_X4_isIn rfl rfl rfl (by decide +kernel) ⟨Nat.le_of_ble_eq_true rfl, Nat.le_of_ble_eq_true rfl⟩) [] [0, 1, 2, 3, 4, 5, 6, 7, 8, 9, 10, 11, 12, 13, 14, 15, 16, 17, 18, 19, 20, 21] [0, 1, 2, 3, 4, 5, 6, 7, 8, 9, 10, 11, 12, 13, 14, 15, 16, 17, 18, 19, 20, 21] rfl rfl (by decide) (by decide) (by decide) rfl (by decide) dX4_lamp_14 rfl rfl (Nat.le_of_ble_eq_true rfl) ⟨Nat.zero_le _, Nat.zero_le _⟩ rfl rfl rfl rfl ?_
    refine q_if_eq (tgt := 24) (pc2 := 20) C dX4_lamp_17 (by decide) rfl (fun c17 => ?_) (fun c17 => ?_)
    · skip
      refine q_iconst (v := 0) (pc2 := 25) C dX4_lamp_24 (by decide) rfl ?_
      refine q_eqi (y := (b2 (inR kind 0 3 ∧ inR col 0 20))) ((b2_f (fun z : inR kind 0 3 ∧ inR col 0 20 => absurd z.2 (b2_eq.mp c17))).symm) ?_
      exact hj25
    · skip
      refine q_iconst (v := 1) (pc2 := 21) C dX4_lamp_20 (by decide) rfl ?_
      refine q_goto (pc2 := 25) C dX4_lamp_21 (by decide) ?_
      refine q_eqi (y := (b2 (inR kind 0 3 ∧ inR col 0 20))) ((b2_t (c := inR kind 0 3 ∧ inR col 0 20) ⟨b2_ne.mp c7, b2_ne.mp c17⟩).symm) ?_
      exact hj25

set_option maxHeartbeats 4000000 in
set_option maxRecDepth 100000 in
theorem c_X4_hang (l : Launch) (D : va_G) (ct : Nat → ClassId) (b : Nat → Nat) (y : Nat → Nat → Int32) (n : Nat) (hn : y 4 0 = nI n) (hn10 : n ≤ 10) (h : Nat) (hh : y 0 0 = nI h) (hlt : h < 2) (kb : Nat) (hkb : y 1 h = nI kb) (hkb4 : kb ≤ 4) (lm bar place : Int32) : qM l yX4_hang wsX4_hang ({ frames := 3, cells := 0, slots := 0, locals := 69 }) D ct [.ref (b 30), .int lm, .int bar, .int place] (wM ct b y) (qD (some (.int (if T2 (inR lm 0 (y 4 0 - 1) ∧ inR bar 0 (y 1 h - 1) ∧ inR place 0 (y 2 (4 * h + bar.toNatClampNeg))) ((inR lm 0 (y 4 0 - 1) ∧ inR bar 0 (y 1 h - 1) ∧ inR place 0 (y 2 (4 * h + bar.toNatClampNeg))) ∧ canM y n h lm bar place) = 0 then wOnM (set2 (set2 (set2 y 27 (fun _ => T2 (inR lm 0 (y 4 0 - 1) ∧ inR bar 0 (y 1 h - 1) ∧ inR place 0 (y 2 (4 * h + bar.toNatClampNeg))) ((inR lm 0 (y 4 0 - 1) ∧ inR bar 0 (y 1 h - 1) ∧ inR place 0 (y 2 (4 * h + bar.toNatClampNeg))) ∧ canM y n h lm bar place))) 7 (upd (y 7) lm.toNatClampNeg bar)) 8 (upd (y 8) lm.toNatClampNeg place)) n bar (-1) else 0))) (wM ct b (if T2 (inR lm 0 (y 4 0 - 1) ∧ inR bar 0 (y 1 h - 1) ∧ inR place 0 (y 2 (4 * h + bar.toNatClampNeg))) ((inR lm 0 (y 4 0 - 1) ∧ inR bar 0 (y 1 h - 1) ∧ inR place 0 (y 2 (4 * h + bar.toNatClampNeg))) ∧ canM y n h lm bar place) = 0 then (set2 (set2 (set2 y 27 (fun _ => T2 (inR lm 0 (y 4 0 - 1) ∧ inR bar 0 (y 1 h - 1) ∧ inR place 0 (y 2 (4 * h + bar.toNatClampNeg))) ((inR lm 0 (y 4 0 - 1) ∧ inR bar 0 (y 1 h - 1) ∧ inR place 0 (y 2 (4 * h + bar.toNatClampNeg))) ∧ canM y n h lm bar place))) 7 (upd (y 7) lm.toNatClampNeg bar)) 8 (upd (y 8) lm.toNatClampNeg place)) else (set2 y 27 (fun _ => T2 (inR lm 0 (y 4 0 - 1) ∧ inR bar 0 (y 1 h - 1) ∧ inR place 0 (y 2 (4 * h + bar.toNatClampNeg))) ((inR lm 0 (y 4 0 - 1) ∧ inR bar 0 (y 1 h - 1) ∧ inR place 0 (y 2 (4 * h + bar.toNatClampNeg))) ∧ canM y n h lm bar place)))))) 0 0 := by
  refine q_start (ret := some .int) (lv := [(0, .ref (b 30)), (1, .int lm), (2, .int bar), (3, .int place)]) (by decide +kernel) rfl (Nat.le_of_ble_eq_true rfl) rfl ?_
  intro p e s m args below meth c A Q C hQ hnm
  have hT4 : ∀ w ∈ u_ws RX4 TX4 28, w ∈ wsX4_hang := by decide +kernel
  have f25 : (Cond.fieldLink RX4 25 "PlotPatchModel" "bar" "[I").before args s = true := C.w _ (by decide +kernel)
  have f28 : (Cond.fieldLink RX4 28 "PlotPatchModel" "place" "[I").before args s = true := C.w _ (by decide +kernel)
  have f13 : (Cond.fieldLink RX4 13 "PlotPatchModel" "length" "[I").before args s = true := C.w _ (by decide +kernel)
  have f85 : (Cond.fieldLink RX4 85 "PlotPatchModel" "house" "I").before args s = true := C.w _ (by decide +kernel)
  have hj42 : Cf p l e ({ frames := 3, cells := 0, slots := 0, locals := 69 }) s m args below meth c D A 5 0 0 Q 42 [(0, .ref (b 30)), (1, .int lm), (2, .int bar), (3, .int place)] [.int (b2 (inR lm 0 (y 4 0 - 1) ∧ inR bar 0 (y 1 h - 1) ∧ inR place 0 (y 2 (4 * h + bar.toNatClampNeg))))] (wM ct b y) := by
    refine q_istore (lv' := [(4, .int (b2 (inR lm 0 (y 4 0 - 1) ∧ inR bar 0 (y 1 h - 1) ∧ inR place 0 (y 2 (4 * h + bar.toNatClampNeg))))), (0, .ref (b 30)), (1, .int lm), (2, .int bar), (3, .int place)]) (pc2 := 44) C dX4_hang_42 (by decide) rfl rfl ?_
    refine q_aload_n (pc2 := 45) C 1 dX4_hang_44 rfl rfl rfl ?_
    refine q_iload (pc2 := 47) C 0 dX4_hang_45 rfl rfl ?_
    have hj67 : Cf p l e ({ frames := 3, cells := 0, slots := 0, locals := 69 }) s m args below meth c D A 5 0 0 Q 67 [(4, .int (b2 (inR lm 0 (y 4 0 - 1) ∧ inR bar 0 (y 1 h - 1) ∧ inR place 0 (y 2 (4 * h + bar.toNatClampNeg))))), (0, .ref (b 30)), (1, .int lm), (2, .int bar), (3, .int place)] [.int (b2 ((inR lm 0 (y 4 0 - 1) ∧ inR bar 0 (y 1 h - 1) ∧ inR place 0 (y 2 (4 * h + bar.toNatClampNeg))) ∧ canM y n h lm bar place)), .int (b2 (inR lm 0 (y 4 0 - 1) ∧ inR bar 0 (y 1 h - 1) ∧ inR place 0 (y 2 (4 * h + bar.toNatClampNeg)))), .ref (b 30)] (wM ct b y) := by
      refine q_cV (pc2 := 70) (As := [.int (b2 (inR lm 0 (y 4 0 - 1) ∧ inR bar 0 (y 1 h - 1) ∧ inR place 0 (y 2 (4 * h + bar.toNatClampNeg)))), .int (b2 ((inR lm 0 (y 4 0 - 1) ∧ inR bar 0 (y 1 h - 1) ∧ inR place 0 (y 2 (4 * h + bar.toNatClampNeg))) ∧ canM y n h lm bar place))]) (st := []) (st2 := [.int (b2 (T2 (inR lm 0 (y 4 0 - 1) ∧ inR bar 0 (y 1 h - 1) ∧ inR place 0 (y 2 (4 * h + bar.toNatClampNeg))) ((inR lm 0 (y 4 0 - 1) ∧ inR bar 0 (y 1 h - 1) ∧ inR place 0 (y 2 (4 * h + bar.toNatClampNeg))) ∧ canM y n h lm bar place) = 0))]) (q0 := 0) (w2 := (wM ct b (set2 y 27 (fun _ => T2 (inR lm 0 (y 4 0 - 1) ∧ inR bar 0 (y 1 h - 1) ∧ inR place 0 (y 2 (4 * h + bar.toNatClampNeg))) ((inR lm 0 (y 4 0 - 1) ∧ inR bar 0 (y 1 h - 1) ∧ inR place 0 (y 2 (4 * h + bar.toNatClampNeg))) ∧ canM y n h lm bar place))))) (c2 := 0) (s2 := 0) C (c_X4_mayBoth l D ct b y (b2 (inR lm 0 (y 4 0 - 1) ∧ inR bar 0 (y 1 h - 1) ∧ inR place 0 (y 2 (4 * h + bar.toNatClampNeg)))) (b2 ((inR lm 0 (y 4 0 - 1) ∧ inR bar 0 (y 1 h - 1) ∧ inR place 0 (y 2 (4 * h + bar.toNatClampNeg))) ∧ canM y n h lm bar place))) (cwV 2 C.w gX4_hang_X4_mayBoth rfl rfl rfl (by decide +kernel) ⟨Nat.le_of_ble_eq_true rfl, Nat.le_of_ble_eq_true rfl⟩) rfl rfl [0, 1, 2, 3, 4, 5, 6, 7, 8, 9, 10, 11, 12, 13, 14, 15, 16, 17, 18, 19, 20, 21] [] [0, 1, 2, 3, 4, 5, 6, 7, 8, 9, 10, 11, 12, 13, 14, 15, 16, 17, 18, 19, 20, 21] rfl rfl (by decide) (by decide) (by decide) rfl (by decide) dX4_hang_67 rfl rfl (Nat.le_of_ble_eq_true rfl) ⟨Nat.zero_le _, Nat.zero_le _⟩ rfl rfl rfl rfl ?_
      refine q_if_ne (tgt := 75) (pc2 := 73) C dX4_hang_70 (by decide) rfl (fun c70 => ?_) (fun c70 => ?_)
      · skip
        have ht : T2 (inR lm 0 (y 4 0 - 1) ∧ inR bar 0 (y 1 h - 1) ∧ inR place 0 (y 2 (4 * h + bar.toNatClampNeg))) ((inR lm 0 (y 4 0 - 1) ∧ inR bar 0 (y 1 h - 1) ∧ inR place 0 (y 2 (4 * h + bar.toNatClampNeg))) ∧ canM y n h lm bar place) = 0 := b2_ne.mp c70
        obtain ⟨p1, p2⟩ := t2_0 ht
        have hL := idxN (k := n) (by have z := p1.1; rw [hn] at z; exact z) (by omega)
        refine q_aload_n (pc2 := 76) C 1 dX4_hang_75 rfl rfl rfl ?_
        refine q_get (q0 := 0) (k := 7) (v := .ref (b 7)) (pc2 := 79) C hT4 f25 (wM_g0 ct b (set2 y 27 (fun _ => T2 (inR lm 0 (y 4 0 - 1) ∧ inR bar 0 (y 1 h - 1) ∧ inR place 0 (y 2 (4 * h + bar.toNatClampNeg))) ((inR lm 0 (y 4 0 - 1) ∧ inR bar 0 (y 1 h - 1) ∧ inR place 0 (y 2 (4 * h + bar.toNatClampNeg))) ∧ canM y n h lm bar place)))) rfl (by decide) rfl rfl dX4_hang_76 rfl ?_
        refine q_iload_n (pc2 := 80) C 2 dX4_hang_79 rfl rfl rfl ?_
        refine q_iload_n (pc2 := 81) C 3 dX4_hang_80 rfl rfl rfl ?_
        refine q_iast (q0 := 6) (f := (y 7)) (ws' := (wM ct b (set2 (set2 y 27 (fun _ => T2 (inR lm 0 (y 4 0 - 1) ∧ inR bar 0 (y 1 h - 1) ∧ inR place 0 (y 2 (4 * h + bar.toNatClampNeg))) ((inR lm 0 (y 4 0 - 1) ∧ inR bar 0 (y 1 h - 1) ∧ inR place 0 (y 2 (4 * h + bar.toNatClampNeg))) ∧ canM y n h lm bar place))) 7 (upd (y 7) lm.toNatClampNeg bar)))) (pc2 := 82) C lm.toNatClampNeg (wM_g6 ct b (set2 y 27 (fun _ => T2 (inR lm 0 (y 4 0 - 1) ∧ inR bar 0 (y 1 h - 1) ∧ inR place 0 (y 2 (4 * h + bar.toNatClampNeg))) ((inR lm 0 (y 4 0 - 1) ∧ inR bar 0 (y 1 h - 1) ∧ inR place 0 (y 2 (4 * h + bar.toNatClampNeg))) ∧ canM y n h lm bar place)))) rfl (hL.2) (by have := hL.1; omega) (by decide) (wM_a6 ct b (set2 y 27 (fun _ => T2 (inR lm 0 (y 4 0 - 1) ∧ inR bar 0 (y 1 h - 1) ∧ inR place 0 (y 2 (4 * h + bar.toNatClampNeg))) ((inR lm 0 (y 4 0 - 1) ∧ inR bar 0 (y 1 h - 1) ∧ inR place 0 (y 2 (4 * h + bar.toNatClampNeg))) ∧ canM y n h lm bar place))) (upd (y 7) lm.toNatClampNeg bar)) dX4_hang_81 rfl ?_
        refine q_aload_n (pc2 := 83) C 1 dX4_hang_82 rfl rfl rfl ?_
        refine q_get (q0 := 0) (k := 8) (v := .ref (b 8)) (pc2 := 86) C hT4 f28 (wM_g0 ct b (set2 (set2 y 27 (fun _ => T2 (inR lm 0 (y 4 0 - 1) ∧ inR bar 0 (y 1 h - 1) ∧ inR place 0 (y 2 (4 * h + bar.toNatClampNeg))) ((inR lm 0 (y 4 0 - 1) ∧ inR bar 0 (y 1 h - 1) ∧ inR place 0 (y 2 (4 * h + bar.toNatClampNeg))) ∧ canM y n h lm bar place))) 7 (upd (y 7) lm.toNatClampNeg bar))) rfl (by decide) rfl rfl dX4_hang_83 rfl ?_
        refine q_iload_n (pc2 := 87) C 2 dX4_hang_86 rfl rfl rfl ?_
        refine q_iload_n (pc2 := 88) C 4 dX4_hang_87 rfl rfl rfl ?_
        refine q_iast (q0 := 7) (f := (y 8)) (ws' := (wM ct b (set2 (set2 (set2 y 27 (fun _ => T2 (inR lm 0 (y 4 0 - 1) ∧ inR bar 0 (y 1 h - 1) ∧ inR place 0 (y 2 (4 * h + bar.toNatClampNeg))) ((inR lm 0 (y 4 0 - 1) ∧ inR bar 0 (y 1 h - 1) ∧ inR place 0 (y 2 (4 * h + bar.toNatClampNeg))) ∧ canM y n h lm bar place))) 7 (upd (y 7) lm.toNatClampNeg bar)) 8 (upd (y 8) lm.toNatClampNeg place)))) (pc2 := 89) C lm.toNatClampNeg (wM_g7 ct b (set2 (set2 y 27 (fun _ => T2 (inR lm 0 (y 4 0 - 1) ∧ inR bar 0 (y 1 h - 1) ∧ inR place 0 (y 2 (4 * h + bar.toNatClampNeg))) ((inR lm 0 (y 4 0 - 1) ∧ inR bar 0 (y 1 h - 1) ∧ inR place 0 (y 2 (4 * h + bar.toNatClampNeg))) ∧ canM y n h lm bar place))) 7 (upd (y 7) lm.toNatClampNeg bar))) rfl (hL.2) (by have := hL.1; omega) (by decide) (wM_a7 ct b (set2 (set2 y 27 (fun _ => T2 (inR lm 0 (y 4 0 - 1) ∧ inR bar 0 (y 1 h - 1) ∧ inR place 0 (y 2 (4 * h + bar.toNatClampNeg))) ((inR lm 0 (y 4 0 - 1) ∧ inR bar 0 (y 1 h - 1) ∧ inR place 0 (y 2 (4 * h + bar.toNatClampNeg))) ∧ canM y n h lm bar place))) 7 (upd (y 7) lm.toNatClampNeg bar)) (upd (y 8) lm.toNatClampNeg place)) dX4_hang_88 rfl ?_
        refine q_aload_n (pc2 := 90) C 1 dX4_hang_89 rfl rfl rfl ?_
        refine q_iload_n (pc2 := 91) C 3 dX4_hang_90 rfl rfl rfl ?_
        refine q_iconst (v := (-1)) (pc2 := 92) C dX4_hang_91 (by decide) rfl ?_
        refine q_cV (pc2 := 95) (As := [.int bar, .int (-1)]) (st := []) (st2 := [.int (wOnM (set2 (set2 (set2 y 27 (fun _ => T2 (inR lm 0 (y 4 0 - 1) ∧ inR bar 0 (y 1 h - 1) ∧ inR place 0 (y 2 (4 * h + bar.toNatClampNeg))) ((inR lm 0 (y 4 0 - 1) ∧ inR bar 0 (y 1 h - 1) ∧ inR place 0 (y 2 (4 * h + bar.toNatClampNeg))) ∧ canM y n h lm bar place))) 7 (upd (y 7) lm.toNatClampNeg bar)) 8 (upd (y 8) lm.toNatClampNeg place)) n bar (-1))]) (q0 := 0) (w2 := (wM ct b (set2 (set2 (set2 y 27 (fun _ => T2 (inR lm 0 (y 4 0 - 1) ∧ inR bar 0 (y 1 h - 1) ∧ inR place 0 (y 2 (4 * h + bar.toNatClampNeg))) ((inR lm 0 (y 4 0 - 1) ∧ inR bar 0 (y 1 h - 1) ∧ inR place 0 (y 2 (4 * h + bar.toNatClampNeg))) ∧ canM y n h lm bar place))) 7 (upd (y 7) lm.toNatClampNeg bar)) 8 (upd (y 8) lm.toNatClampNeg place)))) (c2 := 0) (s2 := 0) C (c_X4_weightOn l D ct b (set2 (set2 (set2 y 27 (fun _ => T2 (inR lm 0 (y 4 0 - 1) ∧ inR bar 0 (y 1 h - 1) ∧ inR place 0 (y 2 (4 * h + bar.toNatClampNeg))) ((inR lm 0 (y 4 0 - 1) ∧ inR bar 0 (y 1 h - 1) ∧ inR place 0 (y 2 (4 * h + bar.toNatClampNeg))) ∧ canM y n h lm bar place))) 7 (upd (y 7) lm.toNatClampNeg bar)) 8 (upd (y 8) lm.toNatClampNeg place)) n hn hn10 bar (-1)) (cwV 2 C.w gX4_hang_X4_weightOn rfl rfl rfl (by decide +kernel) ⟨Nat.le_of_ble_eq_true rfl, Nat.le_of_ble_eq_true rfl⟩) rfl rfl [0, 1, 2, 3, 4, 5, 6, 7, 8, 9, 10, 11, 12, 13, 14, 15, 16, 17, 18, 19, 20, 21] [] [0, 1, 2, 3, 4, 5, 6, 7, 8, 9, 10, 11, 12, 13, 14, 15, 16, 17, 18, 19, 20, 21] rfl rfl (by decide) (by decide) (by decide) rfl (by decide) dX4_hang_92 rfl rfl (Nat.le_of_ble_eq_true rfl) ⟨Nat.zero_le _, Nat.zero_le _⟩ rfl rfl rfl rfl ?_
        exact q_zret C hQ rfl (rfl) (Nat.zero_le _) (Nat.zero_le _) dX4_hang_95 ⟨by rw [if_pos ht], by rw [if_pos ht]⟩
      · skip
        have ht0 : ¬ T2 (inR lm 0 (y 4 0 - 1) ∧ inR bar 0 (y 1 h - 1) ∧ inR place 0 (y 2 (4 * h + bar.toNatClampNeg))) ((inR lm 0 (y 4 0 - 1) ∧ inR bar 0 (y 1 h - 1) ∧ inR place 0 (y 2 (4 * h + bar.toNatClampNeg))) ∧ canM y n h lm bar place) = 0 := b2_eq.mp c70
        refine q_iconst (v := 0) (pc2 := 74) C dX4_hang_73 (by decide) rfl ?_
        exact q_zret C hQ rfl (rfl) (Nat.zero_le _) (Nat.zero_le _) dX4_hang_74 ⟨by rw [if_neg ht0], by rw [if_neg ht0]⟩
    refine q_iload (pc2 := 49) C 0 dX4_hang_47 rfl rfl ?_
    refine q_if_eq (tgt := 66) (pc2 := 52) C dX4_hang_49 (by decide) rfl (fun c49 => ?_) (fun c49 => ?_)
    · skip
      refine q_iconst (v := 0) (pc2 := 67) C dX4_hang_66 (by decide) rfl ?_
      refine q_eqi (y := (b2 ((inR lm 0 (y 4 0 - 1) ∧ inR bar 0 (y 1 h - 1) ∧ inR place 0 (y 2 (4 * h + bar.toNatClampNeg))) ∧ canM y n h lm bar place))) ((b2_f (fun z : (inR lm 0 (y 4 0 - 1) ∧ inR bar 0 (y 1 h - 1) ∧ inR place 0 (y 2 (4 * h + bar.toNatClampNeg))) ∧ canM y n h lm bar place => absurd z.1 (b2_eq.mp c49))).symm) ?_
      exact hj67
    · skip
      have q1 := b2_ne.mp c49
      have hL := idxN (k := n) (by have z := q1.1; rw [hn] at z; exact z) (by omega)
      have hBr := idxN (k := kb) (by have z := q1.2.1; rw [hkb] at z; exact z) (by omega)
      have hB4 : bar.toNatClampNeg < 4 := by omega
      refine q_aload_n (pc2 := 53) C 1 dX4_hang_52 rfl rfl rfl ?_
      refine q_iload_n (pc2 := 54) C 2 dX4_hang_53 rfl rfl rfl ?_
      refine q_iload_n (pc2 := 55) C 3 dX4_hang_54 rfl rfl rfl ?_
      refine q_iload_n (pc2 := 56) C 4 dX4_hang_55 rfl rfl rfl ?_
      refine q_cV (pc2 := 59) (As := [.int lm, .int bar, .int place]) (st := [.int (b2 (inR lm 0 (y 4 0 - 1) ∧ inR bar 0 (y 1 h - 1) ∧ inR place 0 (y 2 (4 * h + bar.toNatClampNeg)))), .ref (b 30)]) (st2 := [.int (b2 (canM y n h lm bar place)), .int (b2 (inR lm 0 (y 4 0 - 1) ∧ inR bar 0 (y 1 h - 1) ∧ inR place 0 (y 2 (4 * h + bar.toNatClampNeg)))), .ref (b 30)]) (q0 := 0) (w2 := (wM ct b y)) (c2 := 0) (s2 := 0) C (c_X4_canHang l D ct b y n hn hn10 h hh hlt lm bar place hL.1 hL.2 hB4 hBr.2) (cwV 3 C.w gX4_hang_X4_canHang rfl rfl rfl (by decide +kernel) ⟨Nat.le_of_ble_eq_true rfl, Nat.le_of_ble_eq_true rfl⟩) rfl rfl [0, 1, 2, 3, 4, 5, 6, 7, 8, 9, 10, 11, 12, 13, 14, 15, 16, 17, 18, 19, 20, 21] [] [0, 1, 2, 3, 4, 5, 6, 7, 8, 9, 10, 11, 12, 13, 14, 15, 16, 17, 18, 19, 20, 21] rfl rfl (by decide) (by decide) (by decide) rfl (by decide) dX4_hang_56 rfl rfl (Nat.le_of_ble_eq_true rfl) ⟨Nat.zero_le _, Nat.zero_le _⟩ rfl rfl rfl rfl ?_
      refine q_if_eq (tgt := 66) (pc2 := 62) C dX4_hang_59 (by decide) rfl (fun c59 => ?_) (fun c59 => ?_)
      · skip
        refine q_iconst (v := 0) (pc2 := 67) C dX4_hang_66 (by decide) rfl ?_
        refine q_eqi (y := (b2 ((inR lm 0 (y 4 0 - 1) ∧ inR bar 0 (y 1 h - 1) ∧ inR place 0 (y 2 (4 * h + bar.toNatClampNeg))) ∧ canM y n h lm bar place))) ((b2_f (fun z : (inR lm 0 (y 4 0 - 1) ∧ inR bar 0 (y 1 h - 1) ∧ inR place 0 (y 2 (4 * h + bar.toNatClampNeg))) ∧ canM y n h lm bar place => absurd z.2 (b2_eq.mp c59))).symm) ?_
        exact hj67
      · skip
        refine q_iconst (v := 1) (pc2 := 63) C dX4_hang_62 (by decide) rfl ?_
        refine q_goto (pc2 := 67) C dX4_hang_63 (by decide) ?_
        refine q_eqi (y := (b2 ((inR lm 0 (y 4 0 - 1) ∧ inR bar 0 (y 1 h - 1) ∧ inR place 0 (y 2 (4 * h + bar.toNatClampNeg))) ∧ canM y n h lm bar place))) ((b2_t (c := (inR lm 0 (y 4 0 - 1) ∧ inR bar 0 (y 1 h - 1) ∧ inR place 0 (y 2 (4 * h + bar.toNatClampNeg))) ∧ canM y n h lm bar place) ⟨b2_ne.mp c49, b2_ne.mp c59⟩).symm) ?_
        exact hj67
  refine q_aload_n (pc2 := 1) C 0 dX4_hang_0 rfl rfl rfl ?_
  refine q_iload_n (pc2 := 2) C 1 dX4_hang_1 rfl rfl rfl ?_
  refine q_cV (pc2 := 5) (As := [.int lm]) (st := []) (st2 := [.int (b2 (inR lm 0 (y 4 0 - 1)))]) (q0 := 0) (w2 := (wM ct b y)) (c2 := 0) (s2 := 0) C (c_X4_isLamp l D ct b y lm) (cwV 1 C.w gX4_hang_X4_isLamp rfl rfl rfl (by decide +kernel) ⟨Nat.le_of_ble_eq_true rfl, Nat.le_of_ble_eq_true rfl⟩) rfl rfl [0, 1, 2, 3, 4, 5, 6, 7, 8, 9, 10, 11, 12, 13, 14, 15, 16, 17, 18, 19, 20, 21] [] [0, 1, 2, 3, 4, 5, 6, 7, 8, 9, 10, 11, 12, 13, 14, 15, 16, 17, 18, 19, 20, 21] rfl rfl (by decide) (by decide) (by decide) rfl (by decide) dX4_hang_2 rfl rfl (Nat.le_of_ble_eq_true rfl) ⟨Nat.zero_le _, Nat.zero_le _⟩ rfl rfl rfl rfl ?_
  refine q_if_eq (tgt := 41) (pc2 := 8) C dX4_hang_5 (by decide) rfl (fun c5 => ?_) (fun c5 => ?_)
  · skip
    refine q_iconst (v := 0) (pc2 := 42) C dX4_hang_41 (by decide) rfl ?_
    refine q_eqi (y := (b2 (inR lm 0 (y 4 0 - 1) ∧ inR bar 0 (y 1 h - 1) ∧ inR place 0 (y 2 (4 * h + bar.toNatClampNeg))))) ((b2_f (fun z : inR lm 0 (y 4 0 - 1) ∧ inR bar 0 (y 1 h - 1) ∧ inR place 0 (y 2 (4 * h + bar.toNatClampNeg)) => absurd z.1 (b2_eq.mp c5))).symm) ?_
    exact hj42
  · skip
    refine q_aload_n (pc2 := 9) C 0 dX4_hang_8 rfl rfl rfl ?_
    refine q_iload_n (pc2 := 10) C 2 dX4_hang_9 rfl rfl rfl ?_
    refine q_cV (pc2 := 13) (As := [.int bar]) (st := []) (st2 := [.int (b2 (inR bar 0 (y 1 h - 1)))]) (q0 := 0) (w2 := (wM ct b y)) (c2 := 0) (s2 := 0) C (c_X4_isBar l D ct b y h hh hlt bar) (cwV 1 C.w gX4_hang_X4_isBar rfl rfl rfl (by decide +kernel) ⟨Nat.le_of_ble_eq_true rfl, Nat.le_of_ble_eq_true rfl⟩) rfl rfl [0, 1, 2, 3, 4, 5, 6, 7, 8, 9, 10, 11, 12, 13, 14, 15, 16, 17, 18, 19, 20, 21] [] [0, 1, 2, 3, 4, 5, 6, 7, 8, 9, 10, 11, 12, 13, 14, 15, 16, 17, 18, 19, 20, 21] rfl rfl (by decide) (by decide) (by decide) rfl (by decide) dX4_hang_10 rfl rfl (Nat.le_of_ble_eq_true rfl) ⟨Nat.zero_le _, Nat.zero_le _⟩ rfl rfl rfl rfl ?_
    refine q_if_eq (tgt := 41) (pc2 := 16) C dX4_hang_13 (by decide) rfl (fun c13 => ?_) (fun c13 => ?_)
    · skip
      refine q_iconst (v := 0) (pc2 := 42) C dX4_hang_41 (by decide) rfl ?_
      refine q_eqi (y := (b2 (inR lm 0 (y 4 0 - 1) ∧ inR bar 0 (y 1 h - 1) ∧ inR place 0 (y 2 (4 * h + bar.toNatClampNeg))))) ((b2_f (fun z : inR lm 0 (y 4 0 - 1) ∧ inR bar 0 (y 1 h - 1) ∧ inR place 0 (y 2 (4 * h + bar.toNatClampNeg)) => absurd z.2.1 (b2_eq.mp c13))).symm) ?_
      exact hj42
    · skip
      have hBr := idxN (k := kb) (by have z := b2_ne.mp c13; rw [hkb] at z; exact z) (by omega)
      have hB4 : bar.toNatClampNeg < 4 := by omega
      refine q_iload_n (pc2 := 17) C 3 dX4_hang_16 rfl rfl rfl ?_
      refine q_iconst (v := 0) (pc2 := 18) C dX4_hang_17 (by decide) rfl ?_
      refine q_aload_n (pc2 := 19) C 0 dX4_hang_18 rfl rfl rfl ?_
      refine q_get (q0 := 0) (k := 2) (v := .ref (b 2)) (pc2 := 22) C hT4 f13 (wM_g0 ct b y) rfl (by decide) rfl rfl dX4_hang_19 rfl ?_
      refine q_iconst (v := 4) (pc2 := 23) C dX4_hang_22 (by decide) rfl ?_
      refine q_aload_n (pc2 := 24) C 0 dX4_hang_23 rfl rfl rfl ?_
      refine q_get (q0 := 0) (k := 0) (v := .int (y 0 0)) (pc2 := 27) C hT4 f85 (wM_g0 ct b y) rfl (by decide) rfl rfl dX4_hang_24 rfl ?_
      refine q_imul (pc2 := 28) C dX4_hang_27 rfl rfl ?_
      refine q_iload_n (pc2 := 29) C 2 dX4_hang_28 rfl rfl rfl ?_
      refine q_iadd (v := nI (4 * h + bar.toNatClampNeg)) (pc2 := 30) C dX4_hang_29 (cellK (n := 4) hh hBr.2) rfl ?_
      refine q_iald (q0 := 2) (f := (y 2)) (pc2 := 31) C (4 * h + bar.toNatClampNeg) (wM_g2 ct b y) rfl (rfl) (by omega) (by decide) dX4_hang_30 rfl ?_
      refine q_cS (pc2 := 34) (As := [.int place, .int 0, .int ((y 2) (4 * h + bar.toNatClampNeg))]) (st := []) (st2 := [.int (b2 (inR place 0 ((y 2) (4 * h + bar.toNatClampNeg))))]) (w2 := (wM ct b y)) (c2 := 0) (s2 := 0) C (c_X4_isIn l D ct place 0 ((y 2) (4 * h + bar.toNatClampNeg))) (va_cwS 3 C.w gX4_hang_X4_isIn rfl rfl rfl (by decide +kernel) ⟨Nat.le_of_ble_eq_true rfl, Nat.le_of_ble_eq_true rfl⟩) [] [0, 1, 2, 3, 4, 5, 6, 7, 8, 9, 10, 11, 12, 13, 14, 15, 16, 17, 18, 19, 20, 21] [0, 1, 2, 3, 4, 5, 6, 7, 8, 9, 10, 11, 12, 13, 14, 15, 16, 17, 18, 19, 20, 21] rfl rfl (by decide) (by decide) (by decide) rfl (by decide) dX4_hang_31 rfl rfl (Nat.le_of_ble_eq_true rfl) ⟨Nat.zero_le _, Nat.zero_le _⟩ rfl rfl rfl rfl ?_
      refine q_if_eq (tgt := 41) (pc2 := 37) C dX4_hang_34 (by decide) rfl (fun c34 => ?_) (fun c34 => ?_)
      · skip
        refine q_iconst (v := 0) (pc2 := 42) C dX4_hang_41 (by decide) rfl ?_
        refine q_eqi (y := (b2 (inR lm 0 (y 4 0 - 1) ∧ inR bar 0 (y 1 h - 1) ∧ inR place 0 (y 2 (4 * h + bar.toNatClampNeg))))) ((b2_f (fun z : inR lm 0 (y 4 0 - 1) ∧ inR bar 0 (y 1 h - 1) ∧ inR place 0 (y 2 (4 * h + bar.toNatClampNeg)) => absurd z.2.2 (b2_eq.mp c34))).symm) ?_
        exact hj42
      · skip
        refine q_iconst (v := 1) (pc2 := 38) C dX4_hang_37 (by decide) rfl ?_
        refine q_goto (pc2 := 42) C dX4_hang_38 (by decide) ?_
        refine q_eqi (y := (b2 (inR lm 0 (y 4 0 - 1) ∧ inR bar 0 (y 1 h - 1) ∧ inR place 0 (y 2 (4 * h + bar.toNatClampNeg))))) ((b2_t (c := inR lm 0 (y 4 0 - 1) ∧ inR bar 0 (y 1 h - 1) ∧ inR place 0 (y 2 (4 * h + bar.toNatClampNeg))) ⟨b2_ne.mp c5, b2_ne.mp c13, b2_ne.mp c34⟩).symm) ?_
        exact hj42

set_option maxHeartbeats 4000000 in
set_option maxRecDepth 100000 in
theorem c_X4_down (l : Launch) (D : va_G) (ct : Nat → ClassId) (b : Nat → Nat) (y : Nat → Nat → Int32) (n : Nat) (hn : y 4 0 = nI n) (hn10 : n ≤ 10) (lm : Int32) : qM l yX4_down wsX4_down ({ frames := 2, cells := 0, slots := 0, locals := 43 }) D ct [.ref (b 30), .int lm] (wM ct b y) (qD (some (.int (if T1 (inR lm 0 (y 4 0 - 1)) = 0 then b2 (y 7 lm.toNatClampNeg ≠ -1) else 0))) (wM ct b (if T1 (inR lm 0 (y 4 0 - 1)) = 0 then (set2 (set2 y 27 (fun _ => T1 (inR lm 0 (y 4 0 - 1)))) 7 (upd (y 7) lm.toNatClampNeg (-1))) else (set2 y 27 (fun _ => T1 (inR lm 0 (y 4 0 - 1))))))) 0 0 := by
  refine q_start (ret := some .boolean) (lv := [(0, .ref (b 30)), (1, .int lm)]) (by decide +kernel) rfl (Nat.le_of_ble_eq_true rfl) rfl ?_
  intro p e s m args below meth c A Q C hQ hnm
  have hT4 : ∀ w ∈ u_ws RX4 TX4 28, w ∈ wsX4_down := by decide +kernel
  have f25 : (Cond.fieldLink RX4 25 "PlotPatchModel" "bar" "[I").before args s = true := C.w _ (by decide +kernel)
  refine q_aload_n (pc2 := 1) C 0 dX4_down_0 rfl rfl rfl ?_
  refine q_aload_n (pc2 := 2) C 0 dX4_down_1 rfl rfl rfl ?_
  refine q_iload_n (pc2 := 3) C 1 dX4_down_2 rfl rfl rfl ?_
  refine q_cV (pc2 := 6) (As := [.int lm]) (st := [.ref (b 30)]) (st2 := [.int (b2 (inR lm 0 (y 4 0 - 1))), .ref (b 30)]) (q0 := 0) (w2 := (wM ct b y)) (c2 := 0) (s2 := 0) C (c_X4_isLamp l D ct b y lm) (cwV 1 C.w gX4_down_X4_isLamp rfl rfl rfl (by decide +kernel) ⟨Nat.le_of_ble_eq_true rfl, Nat.le_of_ble_eq_true rfl⟩) rfl rfl [0, 1, 2, 3, 4, 5, 6, 7, 8, 9, 10, 11, 12, 13, 14, 15, 16, 17, 18, 19, 20, 21] [] [0, 1, 2, 3, 4, 5, 6, 7, 8, 9, 10, 11, 12, 13, 14, 15, 16, 17, 18, 19, 20, 21] rfl rfl (by decide) (by decide) (by decide) rfl (by decide) dX4_down_3 rfl rfl (Nat.le_of_ble_eq_true rfl) ⟨Nat.zero_le _, Nat.zero_le _⟩ rfl rfl rfl rfl ?_
  refine q_cV (pc2 := 9) (As := [.int (b2 (inR lm 0 (y 4 0 - 1)))]) (st := []) (st2 := [.int (b2 (inR lm 0 (y 4 0 - 1)))]) (q0 := 0) (w2 := (wM ct b (set2 y 27 (fun _ => T1 (inR lm 0 (y 4 0 - 1)))))) (c2 := 0) (s2 := 0) C (c_X4_may l D ct b y (b2 (inR lm 0 (y 4 0 - 1))) (b2_nar _)) (cwV 1 C.w gX4_down_X4_may rfl rfl rfl (by decide +kernel) ⟨Nat.le_of_ble_eq_true rfl, Nat.le_of_ble_eq_true rfl⟩) rfl rfl [0, 1, 2, 3, 4, 5, 6, 7, 8, 9, 10, 11, 12, 13, 14, 15, 16, 17, 18, 19, 20, 21] [] [0, 1, 2, 3, 4, 5, 6, 7, 8, 9, 10, 11, 12, 13, 14, 15, 16, 17, 18, 19, 20, 21] rfl rfl (by decide) (by decide) (by decide) rfl (by decide) dX4_down_6 rfl rfl (Nat.le_of_ble_eq_true rfl) ⟨Nat.zero_le _, Nat.zero_le _⟩ rfl rfl rfl rfl ?_
  refine q_if_ne (tgt := 14) (pc2 := 12) C dX4_down_9 (by decide) rfl (fun c9 => ?_) (fun c9 => ?_)
  · skip
    have ht : T1 (inR lm 0 (y 4 0 - 1)) = 0 := if_neg c9
    have hP := b2_ne.mp c9
    have hL := idxN (k := n) (by have z := hP; rw [hn] at z; exact z) (by omega)
    have hj29 : Cf p l e ({ frames := 2, cells := 0, slots := 0, locals := 43 }) s m args below meth c D A 3 0 0 Q 29 [(0, .ref (b 30)), (1, .int lm)] [.int (b2 (y 7 lm.toNatClampNeg ≠ -1))] (wM ct b (set2 y 27 (fun _ => T1 (inR lm 0 (y 4 0 - 1))))) := by
      refine q_istore_n (lv' := [(2, .int (b2 (y 7 lm.toNatClampNeg ≠ -1))), (0, .ref (b 30)), (1, .int lm)]) (pc2 := 30) C dX4_down_29 rfl (by decide) rfl rfl ?_
      refine q_aload_n (pc2 := 31) C 1 dX4_down_30 rfl rfl rfl ?_
      refine q_get (q0 := 0) (k := 7) (v := .ref (b 7)) (pc2 := 34) C hT4 f25 (wM_g0 ct b (set2 y 27 (fun _ => T1 (inR lm 0 (y 4 0 - 1))))) rfl (by decide) rfl rfl dX4_down_31 rfl ?_
      refine q_iload_n (pc2 := 35) C 2 dX4_down_34 rfl rfl rfl ?_
      refine q_iconst (v := (-1)) (pc2 := 36) C dX4_down_35 (by decide) rfl ?_
      refine q_iast (q0 := 6) (f := (y 7)) (ws' := (wM ct b (set2 (set2 y 27 (fun _ => T1 (inR lm 0 (y 4 0 - 1)))) 7 (upd (y 7) lm.toNatClampNeg (-1))))) (pc2 := 37) C lm.toNatClampNeg (wM_g6 ct b (set2 y 27 (fun _ => T1 (inR lm 0 (y 4 0 - 1))))) rfl (hL.2) (by have := hL.1; omega) (by decide) (wM_a6 ct b (set2 y 27 (fun _ => T1 (inR lm 0 (y 4 0 - 1)))) (upd (y 7) lm.toNatClampNeg (-1))) dX4_down_36 rfl ?_
      refine q_iload_n (pc2 := 38) C 0 dX4_down_37 rfl rfl rfl ?_
      exact q_zret C hQ rfl (b2_nar _) (Nat.zero_le _) (Nat.zero_le _) dX4_down_38 ⟨by rw [if_pos ht], by rw [if_pos ht]⟩
    refine q_aload_n (pc2 := 15) C 0 dX4_down_14 rfl rfl rfl ?_
    refine q_get (q0 := 0) (k := 7) (v := .ref (b 7)) (pc2 := 18) C hT4 f25 (wM_g0 ct b (set2 y 27 (fun _ => T1 (inR lm 0 (y 4 0 - 1))))) rfl (by decide) rfl rfl dX4_down_15 rfl ?_
    refine q_iload_n (pc2 := 19) C 1 dX4_down_18 rfl rfl rfl ?_
    refine q_iald (q0 := 6) (f := (y 7)) (pc2 := 20) C lm.toNatClampNeg (wM_g6 ct b (set2 y 27 (fun _ => T1 (inR lm 0 (y 4 0 - 1))))) rfl (hL.2) (by have := hL.1; omega) (by decide) dX4_down_19 rfl ?_
    refine q_iconst (v := (-1)) (pc2 := 21) C dX4_down_20 (by decide) rfl ?_
    refine q_icmp_eq (tgt := 28) (pc2 := 24) C dX4_down_21 (by decide) rfl (fun c21 => ?_) (fun c21 => ?_)
    · skip
      refine q_iconst (v := 0) (pc2 := 29) C dX4_down_28 (by decide) rfl ?_
      refine q_eqi (y := (b2 (y 7 lm.toNatClampNeg ≠ -1))) ((b2_f (fun z : y 7 lm.toNatClampNeg ≠ -1 => absurd z (fun z => z c21))).symm) ?_
      exact hj29
    · skip
      refine q_iconst (v := 1) (pc2 := 25) C dX4_down_24 (by decide) rfl ?_
      refine q_goto (pc2 := 29) C dX4_down_25 (by decide) ?_
      refine q_eqi (y := (b2 (y 7 lm.toNatClampNeg ≠ -1))) ((b2_t (c := y 7 lm.toNatClampNeg ≠ -1) (c21)).symm) ?_
      exact hj29
  · skip
    have ht0 : ¬ T1 (inR lm 0 (y 4 0 - 1)) = 0 := by rw [show T1 (inR lm 0 (y 4 0 - 1)) = 1 from if_pos c9]; decide
    refine q_iconst (v := 0) (pc2 := 13) C dX4_down_12 (by decide) rfl ?_
    exact q_zret C hQ rfl (rfl) (Nat.zero_le _) (Nat.zero_le _) dX4_down_13 ⟨by rw [if_neg ht0], by rw [if_neg ht0]⟩
