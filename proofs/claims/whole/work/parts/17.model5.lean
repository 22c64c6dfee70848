set_option maxHeartbeats 4000000 in
set_option maxRecDepth 100000 in
theorem k_X4_standIn_61 (l : Launch) (D : va_G) (ct : Nat → ClassId) (b : Nat → Nat) (y : Nat → Nat → Int32) (n : Nat) (hn : y 4 0 = nI n) (hn10 : n ≤ 10) (q : Nat) (hq : y 18 0 = nI q) (hq8 : q ≤ 8) (dead other : Int32) {p : Program} {e : Env} {s : State} {m : MethodId} {args : Array Value} {below : List Frame} {meth : Method} {c : Code} {A : Nat → Prop} {Q : State → Prop} (C : Cx p s m args c meth cX4_standIn 6 (some .int) wsX4_standIn yX4_standIn.cls D ct A) (hQ : qQ D (qD (some (.int (if T3 (inR dead 0 (y 4 0 - 1) ∧ inR other 0 (y 4 0 - 1)) (dead ≠ other) ((inR dead 0 (y 4 0 - 1) ∧ inR other 0 (y 4 0 - 1)) ∧ y 11 dead.toNatClampNeg ≠ 0 ∧ y 11 other.toNatClampNeg = 0) = 0 then (hov (y 22) dead.toNatClampNeg other.toNatClampNeg q).2 else 0))) (wM ct b (if T3 (inR dead 0 (y 4 0 - 1) ∧ inR other 0 (y 4 0 - 1)) (dead ≠ other) ((inR dead 0 (y 4 0 - 1) ∧ inR other 0 (y 4 0 - 1)) ∧ y 11 dead.toNatClampNeg ≠ 0 ∧ y 11 other.toNatClampNeg = 0) = 0 then (set2 (set2 y 27 (fun _ => T3 (inR dead 0 (y 4 0 - 1) ∧ inR other 0 (y 4 0 - 1)) (dead ≠ other) ((inR dead 0 (y 4 0 - 1) ∧ inR other 0 (y 4 0 - 1)) ∧ y 11 dead.toNatClampNeg ≠ 0 ∧ y 11 other.toNatClampNeg = 0))) 22 (hov (y 22) dead.toNatClampNeg other.toNatClampNeg q).1) else (set2 y 27 (fun _ => T3 (inR dead 0 (y 4 0 - 1) ∧ inR other 0 (y 4 0 - 1)) (dead ≠ other) ((inR dead 0 (y 4 0 - 1) ∧ inR other 0 (y 4 0 - 1)) ∧ y 11 dead.toNatClampNeg ≠ 0 ∧ y 11 other.toNatClampNeg = 0)))))) (wM ct b y) s args below 0 0 A Q) : Cf p l e ({ frames := 2, cells := 0, slots := 0, locals := 43 }) s m args below meth c D A 6 0 0 Q 61 [(3, .int (b2 (inR dead 0 (y 4 0 - 1) ∧ inR other 0 (y 4 0 - 1)))), (0, .ref (b 30)), (1, .int dead), (2, .int other)] [.int (b2 ((inR dead 0 (y 4 0 - 1) ∧ inR other 0 (y 4 0 - 1)) ∧ y 11 dead.toNatClampNeg ≠ 0 ∧ y 11 other.toNatClampNeg = 0)), .int (b2 (dead ≠ other)), .int (b2 (inR dead 0 (y 4 0 - 1) ∧ inR other 0 (y 4 0 - 1))), .ref (b 30)] (wM ct b y) := by
  have hT4 : ∀ w ∈ u_ws RX4 TX4 28, w ∈ wsX4_standIn := by decide +kernel
  have f88 : (Cond.fieldLink RX4 88 "PlotPatchModel" "cues" "I").before args s = true := C.w _ (by decide +kernel)
  have f68 : (Cond.fieldLink RX4 68 "PlotPatchModel" "named" "[I").before args s = true := C.w _ (by decide +kernel)
  have f37 : (Cond.fieldLink RX4 37 "PlotPatchModel" "isDead" "[Z").before args s = true := C.w _ (by decide +kernel)
  refine q_cV (pc2 := 64) (As := [.int (b2 (inR dead 0 (y 4 0 - 1) ∧ inR other 0 (y 4 0 - 1))), .int (b2 (dead ≠ other)), .int (b2 ((inR dead 0 (y 4 0 - 1) ∧ inR other 0 (y 4 0 - 1)) ∧ y 11 dead.toNatClampNeg ≠ 0 ∧ y 11 other.toNatClampNeg = 0))]) (st := []) (st2 := [.int (b2 (T3 (inR dead 0 (y 4 0 - 1) ∧ inR other 0 (y 4 0 - 1)) (dead ≠ other) ((inR dead 0 (y 4 0 - 1) ∧ inR other 0 (y 4 0 - 1)) ∧ y 11 dead.toNatClampNeg ≠ 0 ∧ y 11 other.toNatClampNeg = 0) = 0))]) (q0 := 0) (w2 := (wM ct b (set2 y 27 (fun _ => T3 (inR dead 0 (y 4 0 - 1) ∧ inR other 0 (y 4 0 - 1)) (dead ≠ other) ((inR dead 0 (y 4 0 - 1) ∧ inR other 0 (y 4 0 - 1)) ∧ y 11 dead.toNatClampNeg ≠ 0 ∧ y 11 other.toNatClampNeg = 0))))) (c2 := 0) (s2 := 0) C (c_X4_mayAll l D ct b y (b2 (inR dead 0 (y 4 0 - 1) ∧ inR other 0 (y 4 0 - 1))) (b2 (dead ≠ other)) (b2 ((inR dead 0 (y 4 0 - 1) ∧ inR other 0 (y 4 0 - 1)) ∧ y 11 dead.toNatClampNeg ≠ 0 ∧ y 11 other.toNatClampNeg = 0))) (cwV 3 C.w gX4_standIn_X4_mayAll rfl rfl rfl (by decide +kernel) ⟨Nat.le_of_ble_eq_true rfl, Nat.le_of_ble_eq_true rfl⟩) rfl rfl [0, 1, 2, 3, 4, 5, 6, 7, 8, 9, 10, 11, 12, 13, 14, 15, 16, 17, 18, 19, 20, 21] [] [0, 1, 2, 3, 4, 5, 6, 7, 8, 9, 10, 11, 12, 13, 14, 15, 16, 17, 18, 19, 20, 21] rfl rfl (by decide) (by decide) (by decide) rfl (by decide) dX4_standIn_61 rfl rfl (Nat.le_of_ble_eq_true rfl) ⟨Nat.zero_le _, Nat.zero_le _⟩ rfl rfl rfl rfl ?_
  refine q_if_ne (tgt := 69) (pc2 := 67) C dX4_standIn_64 (by decide) rfl (fun c64 => ?_) (fun c64 => ?_)
  · skip
    have ht : T3 (inR dead 0 (y 4 0 - 1) ∧ inR other 0 (y 4 0 - 1)) (dead ≠ other) ((inR dead 0 (y 4 0 - 1) ∧ inR other 0 (y 4 0 - 1)) ∧ y 11 dead.toNatClampNeg ≠ 0 ∧ y 11 other.toNatClampNeg = 0) = 0 := b2_ne.mp c64
    obtain ⟨p1, p2, p3⟩ := t3_0 ht
    have hDe := idxN (k := n) (by have z := p1.1; rw [hn] at z; exact z) (by omega)
    have hOt := idxN (k := n) (by have z := p1.2; rw [hn] at z; exact z) (by omega)
    refine q_iconst (v := 0) (pc2 := 70) C dX4_standIn_69 (by decide) rfl ?_
    refine q_istore (lv' := [(4, .int 0), (3, .int (b2 (inR dead 0 (y 4 0 - 1) ∧ inR other 0 (y 4 0 - 1)))), (0, .ref (b 30)), (1, .int dead), (2, .int other)]) (pc2 := 72) C dX4_standIn_70 (by decide) rfl rfl ?_
    refine q_iconst (v := 0) (pc2 := 73) C dX4_standIn_72 (by decide) rfl ?_
    refine q_istore (lv' := [(5, .int 0), (4, .int 0), (3, .int (b2 (inR dead 0 (y 4 0 - 1) ∧ inR other 0 (y 4 0 - 1)))), (0, .ref (b 30)), (1, .int dead), (2, .int other)]) (pc2 := 75) C dX4_standIn_73 (by decide) rfl rfl ?_
    refine q_lv (lv' := [(5, .int 0), (4, .int 0), (3, .int (b2 (inR dead 0 (y 4 0 - 1) ∧ inR other 0 (y 4 0 - 1)))), (0, .ref (b 30)), (1, .int dead), (2, .int other)]) [0, 1, 2, 3, 4, 5] rfl ?_
    refine q_eqw (ws' := (wM ct b (set2 (set2 y 27 (fun _ => T3 (inR dead 0 (y 4 0 - 1) ∧ inR other 0 (y 4 0 - 1)) (dead ≠ other) ((inR dead 0 (y 4 0 - 1) ∧ inR other 0 (y 4 0 - 1)) ∧ y 11 dead.toNatClampNeg ≠ 0 ∧ y 11 other.toNatClampNeg = 0))) 22 (hov (y 22) dead.toNatClampNeg other.toNatClampNeg 0).1))) (by rfl) ?_
    refine lp_up (P := fun i => Cf p l e ({ frames := 2, cells := 0, slots := 0, locals := 43 }) s m args below meth c D A 6 0 0 Q 75 [(5, .int (nI i)), (4, .int (hov (y 22) dead.toNatClampNeg other.toNatClampNeg i).2), (3, .int (b2 (inR dead 0 (y 4 0 - 1) ∧ inR other 0 (y 4 0 - 1)))), (0, .ref (b 30)), (1, .int dead), (2, .int other)] [] (wM ct b (set2 (set2 y 27 (fun _ => T3 (inR dead 0 (y 4 0 - 1) ∧ inR other 0 (y 4 0 - 1)) (dead ≠ other) ((inR dead 0 (y 4 0 - 1) ∧ inR other 0 (y 4 0 - 1)) ∧ y 11 dead.toNatClampNeg ≠ 0 ∧ y 11 other.toNatClampNeg = 0))) 22 (hov (y 22) dead.toNatClampNeg other.toNatClampNeg i).1))) (q) (fun i hi ihi => ?_) ?_
    · skip
      refine q_iload (pc2 := 77) C 0 dX4_standIn_75 rfl rfl ?_
      refine q_aload_n (pc2 := 78) C 3 dX4_standIn_77 rfl rfl rfl ?_
      refine q_get (q0 := 0) (k := 18) (v := .int (y 18 0)) (pc2 := 81) C hT4 f88 (wM_g0 ct b (set2 (set2 y 27 (fun _ => T3 (inR dead 0 (y 4 0 - 1) ∧ inR other 0 (y 4 0 - 1)) (dead ≠ other) ((inR dead 0 (y 4 0 - 1) ∧ inR other 0 (y 4 0 - 1)) ∧ y 11 dead.toNatClampNeg ≠ 0 ∧ y 11 other.toNatClampNeg = 0))) 22 (hov (y 22) dead.toNatClampNeg other.toNatClampNeg i).1)) rfl (by decide) rfl rfl dX4_standIn_78 rfl ?_
      refine q_icmp_ge (tgt := 146) (pc2 := 84) C dX4_standIn_81 (by decide) rfl (fun c81 => (q_absurd (a := q) (b := i) (show nI q ≤ nI i by rw [← hq]; exact c81) hi (by omega))) (fun _ => ?_)
      refine q_aload_n (pc2 := 85) C 3 dX4_standIn_84 rfl rfl rfl ?_
      refine q_get (q0 := 0) (k := 22) (v := .ref (b 22)) (pc2 := 88) C hT4 f68 (wM_g0 ct b (set2 (set2 y 27 (fun _ => T3 (inR dead 0 (y 4 0 - 1) ∧ inR other 0 (y 4 0 - 1)) (dead ≠ other) ((inR dead 0 (y 4 0 - 1) ∧ inR other 0 (y 4 0 - 1)) ∧ y 11 dead.toNatClampNeg ≠ 0 ∧ y 11 other.toNatClampNeg = 0))) 22 (hov (y 22) dead.toNatClampNeg other.toNatClampNeg i).1)) rfl (by decide) rfl rfl dX4_standIn_85 rfl ?_
      refine q_bipush (v := 10) (pc2 := 90) C dX4_standIn_88 (by decide) rfl ?_
      refine q_iload (pc2 := 92) C 0 dX4_standIn_90 rfl rfl ?_
      refine q_imul (pc2 := 93) C dX4_standIn_92 rfl rfl ?_
      refine q_iload_n (pc2 := 94) C 4 dX4_standIn_93 rfl rfl rfl ?_
      refine q_iadd (v := nI (10 * i + dead.toNatClampNeg)) (pc2 := 95) C dX4_standIn_94 (cellK (n := 10) rfl hDe.2) rfl ?_
      refine q_iald (q0 := 20) (f := (hov (y 22) dead.toNatClampNeg other.toNatClampNeg i).1) (pc2 := 96) C (10 * i + dead.toNatClampNeg) (wM_g20 ct b (set2 (set2 y 27 (fun _ => T3 (inR dead 0 (y 4 0 - 1) ∧ inR other 0 (y 4 0 - 1)) (dead ≠ other) ((inR dead 0 (y 4 0 - 1) ∧ inR other 0 (y 4 0 - 1)) ∧ y 11 dead.toNatClampNeg ≠ 0 ∧ y 11 other.toNatClampNeg = 0))) 22 (hov (y 22) dead.toNatClampNeg other.toNatClampNeg i).1)) rfl (rfl) (by have := hDe.1; have := hOt.1; omega) (by decide) dX4_standIn_95 rfl ?_
      refine q_iconst (v := (-1)) (pc2 := 97) C dX4_standIn_96 (by decide) rfl ?_
      refine q_icmp_eq (tgt := 140) (pc2 := 100) C dX4_standIn_97 (by decide) rfl (fun c97 => ?_) (fun c97 => ?_)
      · skip
        refine q_iinc (v := nI (i + 1)) (lv' := [(5, .int (nI (i + 1))), (4, .int (hov (y 22) dead.toNatClampNeg other.toNatClampNeg i).2), (3, .int (b2 (inR dead 0 (y 4 0 - 1) ∧ inR other 0 (y 4 0 - 1)))), (0, .ref (b 30)), (1, .int dead), (2, .int other)]) (pc2 := 143) C 0 dX4_standIn_140 rfl (nI_1 i) (by decide) rfl rfl ?_
        refine q_goto (pc2 := 75) C dX4_standIn_143 (by decide) ?_
        refine q_lv (lv' := [(5, .int (nI (i + 1))), (4, .int (hov (y 22) dead.toNatClampNeg other.toNatClampNeg i).2), (3, .int (b2 (inR dead 0 (y 4 0 - 1) ∧ inR other 0 (y 4 0 - 1)))), (0, .ref (b 30)), (1, .int dead), (2, .int other)]) [0, 1, 2, 3, 4, 5] rfl ?_
        refine q_eql (lv' := [(5, .int (nI (i + 1))), (4, .int (hov (y 22) dead.toNatClampNeg other.toNatClampNeg (i + 1)).2), (3, .int (b2 (inR dead 0 (y 4 0 - 1) ∧ inR other 0 (y 4 0 - 1)))), (0, .ref (b 30)), (1, .int dead), (2, .int other)]) (by simp only [hov]; rw [if_pos c97]) ?_
        refine q_eqw (ws' := (wM ct b (set2 (set2 y 27 (fun _ => T3 (inR dead 0 (y 4 0 - 1) ∧ inR other 0 (y 4 0 - 1)) (dead ≠ other) ((inR dead 0 (y 4 0 - 1) ∧ inR other 0 (y 4 0 - 1)) ∧ y 11 dead.toNatClampNeg ≠ 0 ∧ y 11 other.toNatClampNeg = 0))) 22 (hov (y 22) dead.toNatClampNeg other.toNatClampNeg (i + 1)).1))) (by simp only [hov]; rw [if_pos c97]) ?_
        exact ihi
      · skip
        refine q_aload_n (pc2 := 101) C 3 dX4_standIn_100 rfl rfl rfl ?_
        refine q_get (q0 := 0) (k := 22) (v := .ref (b 22)) (pc2 := 104) C hT4 f68 (wM_g0 ct b (set2 (set2 y 27 (fun _ => T3 (inR dead 0 (y 4 0 - 1) ∧ inR other 0 (y 4 0 - 1)) (dead ≠ other) ((inR dead 0 (y 4 0 - 1) ∧ inR other 0 (y 4 0 - 1)) ∧ y 11 dead.toNatClampNeg ≠ 0 ∧ y 11 other.toNatClampNeg = 0))) 22 (hov (y 22) dead.toNatClampNeg other.toNatClampNeg i).1)) rfl (by decide) rfl rfl dX4_standIn_101 rfl ?_
        refine q_bipush (v := 10) (pc2 := 106) C dX4_standIn_104 (by decide) rfl ?_
        refine q_iload (pc2 := 108) C 0 dX4_standIn_106 rfl rfl ?_
        refine q_imul (pc2 := 109) C dX4_standIn_108 rfl rfl ?_
        refine q_iload_n (pc2 := 110) C 5 dX4_standIn_109 rfl rfl rfl ?_
        refine q_iadd (v := nI (10 * i + other.toNatClampNeg)) (pc2 := 111) C dX4_standIn_110 (cellK (n := 10) rfl hOt.2) rfl ?_
        refine q_aload_n (pc2 := 112) C 3 dX4_standIn_111 rfl rfl rfl ?_
        refine q_get (q0 := 0) (k := 22) (v := .ref (b 22)) (pc2 := 115) C hT4 f68 (wM_g0 ct b (set2 (set2 y 27 (fun _ => T3 (inR dead 0 (y 4 0 - 1) ∧ inR other 0 (y 4 0 - 1)) (dead ≠ other) ((inR dead 0 (y 4 0 - 1) ∧ inR other 0 (y 4 0 - 1)) ∧ y 11 dead.toNatClampNeg ≠ 0 ∧ y 11 other.toNatClampNeg = 0))) 22 (hov (y 22) dead.toNatClampNeg other.toNatClampNeg i).1)) rfl (by decide) rfl rfl dX4_standIn_112 rfl ?_
        refine q_bipush (v := 10) (pc2 := 117) C dX4_standIn_115 (by decide) rfl ?_
        refine q_iload (pc2 := 119) C 0 dX4_standIn_117 rfl rfl ?_
        refine q_imul (pc2 := 120) C dX4_standIn_119 rfl rfl ?_
        refine q_iload_n (pc2 := 121) C 4 dX4_standIn_120 rfl rfl rfl ?_
        refine q_iadd (v := nI (10 * i + dead.toNatClampNeg)) (pc2 := 122) C dX4_standIn_121 (cellK (n := 10) rfl hDe.2) rfl ?_
        refine q_iald (q0 := 20) (f := (hov (y 22) dead.toNatClampNeg other.toNatClampNeg i).1) (pc2 := 123) C (10 * i + dead.toNatClampNeg) (wM_g20 ct b (set2 (set2 y 27 (fun _ => T3 (inR dead 0 (y 4 0 - 1) ∧ inR other 0 (y 4 0 - 1)) (dead ≠ other) ((inR dead 0 (y 4 0 - 1) ∧ inR other 0 (y 4 0 - 1)) ∧ y 11 dead.toNatClampNeg ≠ 0 ∧ y 11 other.toNatClampNeg = 0))) 22 (hov (y 22) dead.toNatClampNeg other.toNatClampNeg i).1)) rfl (rfl) (by have := hDe.1; have := hOt.1; omega) (by decide) dX4_standIn_122 rfl ?_
        refine q_iast (q0 := 20) (f := (hov (y 22) dead.toNatClampNeg other.toNatClampNeg i).1) (ws' := (wM ct b (set2 (set2 y 27 (fun _ => T3 (inR dead 0 (y 4 0 - 1) ∧ inR other 0 (y 4 0 - 1)) (dead ≠ other) ((inR dead 0 (y 4 0 - 1) ∧ inR other 0 (y 4 0 - 1)) ∧ y 11 dead.toNatClampNeg ≠ 0 ∧ y 11 other.toNatClampNeg = 0))) 22 (upd (hov (y 22) dead.toNatClampNeg other.toNatClampNeg i).1 (10 * i + other.toNatClampNeg) ((hov (y 22) dead.toNatClampNeg other.toNatClampNeg i).1 (10 * i + dead.toNatClampNeg)))))) (pc2 := 124) C (10 * i + other.toNatClampNeg) (wM_g20 ct b (set2 (set2 y 27 (fun _ => T3 (inR dead 0 (y 4 0 - 1) ∧ inR other 0 (y 4 0 - 1)) (dead ≠ other) ((inR dead 0 (y 4 0 - 1) ∧ inR other 0 (y 4 0 - 1)) ∧ y 11 dead.toNatClampNeg ≠ 0 ∧ y 11 other.toNatClampNeg = 0))) 22 (hov (y 22) dead.toNatClampNeg other.toNatClampNeg i).1)) rfl (rfl) (by have := hDe.1; have := hOt.1; omega) (by decide) (wM_a20 ct b (set2 (set2 y 27 (fun _ => T3 (inR dead 0 (y 4 0 - 1) ∧ inR other 0 (y 4 0 - 1)) (dead ≠ other) ((inR dead 0 (y 4 0 - 1) ∧ inR other 0 (y 4 0 - 1)) ∧ y 11 dead.toNatClampNeg ≠ 0 ∧ y 11 other.toNatClampNeg = 0))) 22 (hov (y 22) dead.toNatClampNeg other.toNatClampNeg i).1) (upd (hov (y 22) dead.toNatClampNeg other.toNatClampNeg i).1 (10 * i + other.toNatClampNeg) ((hov (y 22) dead.toNatClampNeg other.toNatClampNeg i).1 (10 * i + dead.toNatClampNeg)))) dX4_standIn_123 rfl ?_
        refine q_aload_n (pc2 := 125) C 3 dX4_standIn_124 rfl rfl rfl ?_
        refine q_get (q0 := 0) (k := 22) (v := .ref (b 22)) (pc2 := 128) C hT4 f68 (wM_g0 ct b (set2 (set2 y 27 (fun _ => T3 (inR dead 0 (y 4 0 - 1) ∧ inR other 0 (y 4 0 - 1)) (dead ≠ other) ((inR dead 0 (y 4 0 - 1) ∧ inR other 0 (y 4 0 - 1)) ∧ y 11 dead.toNatClampNeg ≠ 0 ∧ y 11 other.toNatClampNeg = 0))) 22 (upd (hov (y 22) dead.toNatClampNeg other.toNatClampNeg i).1 (10 * i + other.toNatClampNeg) ((hov (y 22) dead.toNatClampNeg other.toNatClampNeg i).1 (10 * i + dead.toNatClampNeg))))) rfl (by decide) rfl rfl dX4_standIn_125 rfl ?_
        refine q_bipush (v := 10) (pc2 := 130) C dX4_standIn_128 (by decide) rfl ?_
        refine q_iload (pc2 := 132) C 0 dX4_standIn_130 rfl rfl ?_
        refine q_imul (pc2 := 133) C dX4_standIn_132 rfl rfl ?_
        refine q_iload_n (pc2 := 134) C 4 dX4_standIn_133 rfl rfl rfl ?_
        refine q_iadd (v := nI (10 * i + dead.toNatClampNeg)) (pc2 := 135) C dX4_standIn_134 (cellK (n := 10) rfl hDe.2) rfl ?_
        refine q_iconst (v := (-1)) (pc2 := 136) C dX4_standIn_135 (by decide) rfl ?_
        refine q_iast (q0 := 20) (f := (upd (hov (y 22) dead.toNatClampNeg other.toNatClampNeg i).1 (10 * i + other.toNatClampNeg) ((hov (y 22) dead.toNatClampNeg other.toNatClampNeg i).1 (10 * i + dead.toNatClampNeg)))) (ws' := (wM ct b (set2 (set2 y 27 (fun _ => T3 (inR dead 0 (y 4 0 - 1) ∧ inR other 0 (y 4 0 - 1)) (dead ≠ other) ((inR dead 0 (y 4 0 - 1) ∧ inR other 0 (y 4 0 - 1)) ∧ y 11 dead.toNatClampNeg ≠ 0 ∧ y 11 other.toNatClampNeg = 0))) 22 (upd (upd (hov (y 22) dead.toNatClampNeg other.toNatClampNeg i).1 (10 * i + other.toNatClampNeg) ((hov (y 22) dead.toNatClampNeg other.toNatClampNeg i).1 (10 * i + dead.toNatClampNeg))) (10 * i + dead.toNatClampNeg) (-1))))) (pc2 := 137) C (10 * i + dead.toNatClampNeg) (wM_g20 ct b (set2 (set2 y 27 (fun _ => T3 (inR dead 0 (y 4 0 - 1) ∧ inR other 0 (y 4 0 - 1)) (dead ≠ other) ((inR dead 0 (y 4 0 - 1) ∧ inR other 0 (y 4 0 - 1)) ∧ y 11 dead.toNatClampNeg ≠ 0 ∧ y 11 other.toNatClampNeg = 0))) 22 (upd (hov (y 22) dead.toNatClampNeg other.toNatClampNeg i).1 (10 * i + other.toNatClampNeg) ((hov (y 22) dead.toNatClampNeg other.toNatClampNeg i).1 (10 * i + dead.toNatClampNeg))))) rfl (rfl) (by have := hDe.1; have := hOt.1; omega) (by decide) (wM_a20 ct b (set2 (set2 y 27 (fun _ => T3 (inR dead 0 (y 4 0 - 1) ∧ inR other 0 (y 4 0 - 1)) (dead ≠ other) ((inR dead 0 (y 4 0 - 1) ∧ inR other 0 (y 4 0 - 1)) ∧ y 11 dead.toNatClampNeg ≠ 0 ∧ y 11 other.toNatClampNeg = 0))) 22 (upd (hov (y 22) dead.toNatClampNeg other.toNatClampNeg i).1 (10 * i + other.toNatClampNeg) ((hov (y 22) dead.toNatClampNeg other.toNatClampNeg i).1 (10 * i + dead.toNatClampNeg)))) (upd (upd (hov (y 22) dead.toNatClampNeg other.toNatClampNeg i).1 (10 * i + other.toNatClampNeg) ((hov (y 22) dead.toNatClampNeg other.toNatClampNeg i).1 (10 * i + dead.toNatClampNeg))) (10 * i + dead.toNatClampNeg) (-1))) dX4_standIn_136 rfl ?_
        refine q_iinc (v := ((hov (y 22) dead.toNatClampNeg other.toNatClampNeg i).2 + 1)) (lv' := [(4, .int ((hov (y 22) dead.toNatClampNeg other.toNatClampNeg i).2 + 1)), (5, .int (nI i)), (3, .int (b2 (inR dead 0 (y 4 0 - 1) ∧ inR other 0 (y 4 0 - 1)))), (0, .ref (b 30)), (1, .int dead), (2, .int other)]) (pc2 := 140) C 1 dX4_standIn_137 rfl (rfl) (by decide) rfl rfl ?_
        refine q_iinc (v := nI (i + 1)) (lv' := [(5, .int (nI (i + 1))), (4, .int ((hov (y 22) dead.toNatClampNeg other.toNatClampNeg i).2 + 1)), (3, .int (b2 (inR dead 0 (y 4 0 - 1) ∧ inR other 0 (y 4 0 - 1)))), (0, .ref (b 30)), (1, .int dead), (2, .int other)]) (pc2 := 143) C 1 dX4_standIn_140 rfl (nI_1 i) (by decide) rfl rfl ?_
        refine q_goto (pc2 := 75) C dX4_standIn_143 (by decide) ?_
        refine q_lv (lv' := [(5, .int (nI (i + 1))), (4, .int ((hov (y 22) dead.toNatClampNeg other.toNatClampNeg i).2 + 1)), (3, .int (b2 (inR dead 0 (y 4 0 - 1) ∧ inR other 0 (y 4 0 - 1)))), (0, .ref (b 30)), (1, .int dead), (2, .int other)]) [0, 1, 2, 3, 4, 5] rfl ?_
        refine q_eql (lv' := [(5, .int (nI (i + 1))), (4, .int (hov (y 22) dead.toNatClampNeg other.toNatClampNeg (i + 1)).2), (3, .int (b2 (inR dead 0 (y 4 0 - 1) ∧ inR other 0 (y 4 0 - 1)))), (0, .ref (b 30)), (1, .int dead), (2, .int other)]) (by simp only [hov]; rw [if_neg c97]) ?_
        refine q_eqw (ws' := (wM ct b (set2 (set2 y 27 (fun _ => T3 (inR dead 0 (y 4 0 - 1) ∧ inR other 0 (y 4 0 - 1)) (dead ≠ other) ((inR dead 0 (y 4 0 - 1) ∧ inR other 0 (y 4 0 - 1)) ∧ y 11 dead.toNatClampNeg ≠ 0 ∧ y 11 other.toNatClampNeg = 0))) 22 (hov (y 22) dead.toNatClampNeg other.toNatClampNeg (i + 1)).1))) (by simp only [hov]; rw [if_neg c97]) ?_
        exact ihi
    · skip
      refine q_iload (pc2 := 77) C 0 dX4_standIn_75 rfl rfl ?_
      refine q_aload_n (pc2 := 78) C 3 dX4_standIn_77 rfl rfl rfl ?_
      refine q_get (q0 := 0) (k := 18) (v := .int (y 18 0)) (pc2 := 81) C hT4 f88 (wM_g0 ct b (set2 (set2 y 27 (fun _ => T3 (inR dead 0 (y 4 0 - 1) ∧ inR other 0 (y 4 0 - 1)) (dead ≠ other) ((inR dead 0 (y 4 0 - 1) ∧ inR other 0 (y 4 0 - 1)) ∧ y 11 dead.toNatClampNeg ≠ 0 ∧ y 11 other.toNatClampNeg = 0))) 22 (hov (y 22) dead.toNatClampNeg other.toNatClampNeg q).1)) rfl (by decide) rfl rfl dX4_standIn_78 rfl ?_
      refine q_icmp_ge (tgt := 146) (pc2 := 84) C dX4_standIn_81 (by decide) rfl (fun _ => ?_) (fun c81 => (absurd (show (y 18 0) ≤ nI q by rw [hq]; exact nI_le (Nat.le_refl q) (by omega)) c81))
      refine q_iload (pc2 := 148) C 1 dX4_standIn_146 rfl rfl ?_
      exact q_zret C hQ rfl (rfl) (Nat.zero_le _) (Nat.zero_le _) dX4_standIn_148 ⟨by rw [if_pos ht], by rw [if_pos ht]⟩
  · skip
    have ht0 : ¬ T3 (inR dead 0 (y 4 0 - 1) ∧ inR other 0 (y 4 0 - 1)) (dead ≠ other) ((inR dead 0 (y 4 0 - 1) ∧ inR other 0 (y 4 0 - 1)) ∧ y 11 dead.toNatClampNeg ≠ 0 ∧ y 11 other.toNatClampNeg = 0) = 0 := b2_eq.mp c64
    refine q_iconst (v := 0) (pc2 := 68) C dX4_standIn_67 (by decide) rfl ?_
    exact q_zret C hQ rfl (rfl) (Nat.zero_le _) (Nat.zero_le _) dX4_standIn_68 ⟨by rw [if_neg ht0], by rw [if_neg ht0]⟩

set_option maxHeartbeats 4000000 in
set_option maxRecDepth 100000 in
theorem c_X4_standIn (l : Launch) (D : va_G) (ct : Nat → ClassId) (b : Nat → Nat) (y : Nat → Nat → Int32) (n : Nat) (hn : y 4 0 = nI n) (hn10 : n ≤ 10) (q : Nat) (hq : y 18 0 = nI q) (hq8 : q ≤ 8) (dead other : Int32) : qM l yX4_standIn wsX4_standIn ({ frames := 2, cells := 0, slots := 0, locals := 43 }) D ct [.ref (b 30), .int dead, .int other] (wM ct b y) (qD (some (.int (if T3 (inR dead 0 (y 4 0 - 1) ∧ inR other 0 (y 4 0 - 1)) (dead ≠ other) ((inR dead 0 (y 4 0 - 1) ∧ inR other 0 (y 4 0 - 1)) ∧ y 11 dead.toNatClampNeg ≠ 0 ∧ y 11 other.toNatClampNeg = 0) = 0 then (hov (y 22) dead.toNatClampNeg other.toNatClampNeg q).2 else 0))) (wM ct b (if T3 (inR dead 0 (y 4 0 - 1) ∧ inR other 0 (y 4 0 - 1)) (dead ≠ other) ((inR dead 0 (y 4 0 - 1) ∧ inR other 0 (y 4 0 - 1)) ∧ y 11 dead.toNatClampNeg ≠ 0 ∧ y 11 other.toNatClampNeg = 0) = 0 then (set2 (set2 y 27 (fun _ => T3 (inR dead 0 (y 4 0 - 1) ∧ inR other 0 (y 4 0 - 1)) (dead ≠ other) ((inR dead 0 (y 4 0 - 1) ∧ inR other 0 (y 4 0 - 1)) ∧ y 11 dead.toNatClampNeg ≠ 0 ∧ y 11 other.toNatClampNeg = 0))) 22 (hov (y 22) dead.toNatClampNeg other.toNatClampNeg q).1) else (set2 y 27 (fun _ => T3 (inR dead 0 (y 4 0 - 1) ∧ inR other 0 (y 4 0 - 1)) (dead ≠ other) ((inR dead 0 (y 4 0 - 1) ∧ inR other 0 (y 4 0 - 1)) ∧ y 11 dead.toNatClampNeg ≠ 0 ∧ y 11 other.toNatClampNeg = 0)))))) 0 0 := by
  refine q_start (ret := some .int) (lv := [(0, .ref (b 30)), (1, .int dead), (2, .int other)]) (by decide +kernel) rfl (Nat.le_of_ble_eq_true rfl) rfl ?_
  intro p e s m args below meth c A Q C hQ hnm
  have hT4 : ∀ w ∈ u_ws RX4 TX4 28, w ∈ wsX4_standIn := by decide +kernel
  have f88 : (Cond.fieldLink RX4 88 "PlotPatchModel" "cues" "I").before args s = true := C.w _ (by decide +kernel)
  have f68 : (Cond.fieldLink RX4 68 "PlotPatchModel" "named" "[I").before args s = true := C.w _ (by decide +kernel)
  have f37 : (Cond.fieldLink RX4 37 "PlotPatchModel" "isDead" "[Z").before args s = true := C.w _ (by decide +kernel)
  have hj21 : Cf p l e ({ frames := 2, cells := 0, slots := 0, locals := 43 }) s m args below meth c D A 6 0 0 Q 21 [(0, .ref (b 30)), (1, .int dead), (2, .int other)] [.int (b2 (inR dead 0 (y 4 0 - 1) ∧ inR other 0 (y 4 0 - 1)))] (wM ct b y) := by
    refine q_istore_n (lv' := [(3, .int (b2 (inR dead 0 (y 4 0 - 1) ∧ inR other 0 (y 4 0 - 1)))), (0, .ref (b 30)), (1, .int dead), (2, .int other)]) (pc2 := 22) C dX4_standIn_21 rfl (by decide) rfl rfl ?_
    refine q_aload_n (pc2 := 23) C 1 dX4_standIn_22 rfl rfl rfl ?_
    refine q_iload_n (pc2 := 24) C 0 dX4_standIn_23 rfl rfl rfl ?_
    have hj34 : Cf p l e ({ frames := 2, cells := 0, slots := 0, locals := 43 }) s m args below meth c D A 6 0 0 Q 34 [(3, .int (b2 (inR dead 0 (y 4 0 - 1) ∧ inR other 0 (y 4 0 - 1)))), (0, .ref (b 30)), (1, .int dead), (2, .int other)] [.int (b2 (dead ≠ other)), .int (b2 (inR dead 0 (y 4 0 - 1) ∧ inR other 0 (y 4 0 - 1))), .ref (b 30)] (wM ct b y) := by
      have hj61 : Cf p l e ({ frames := 2, cells := 0, slots := 0, locals := 43 }) s m args below meth c D A 6 0 0 Q 61 [(3, .int (b2 (inR dead 0 (y 4 0 - 1) ∧ inR other 0 (y 4 0 - 1)))), (0, .ref (b 30)), (1, .int dead), (2, .int other)] [.int (b2 ((inR dead 0 (y 4 0 - 1) ∧ inR other 0 (y 4 0 - 1)) ∧ y 11 dead.toNatClampNeg ≠ 0 ∧ y 11 other.toNatClampNeg = 0)), .int (b2 (dead ≠ other)), .int (b2 (inR dead 0 (y 4 0 - 1) ∧ inR other 0 (y 4 0 - 1))), .ref (b 30)] (wM ct b y) := k_X4_standIn_61 l D ct b y n hn hn10 q hq hq8 dead other C hQ
      refine q_iload_n (pc2 := 35) C 0 dX4_standIn_34 rfl rfl rfl ?_
      refine q_if_eq (tgt := 60) (pc2 := 38) C dX4_standIn_35 (by decide) rfl (fun c35 => ?_) (fun c35 => ?_)
      · skip
        refine q_iconst (v := 0) (pc2 := 61) C dX4_standIn_60 (by decide) rfl ?_
        refine q_eqi (y := (b2 ((inR dead 0 (y 4 0 - 1) ∧ inR other 0 (y 4 0 - 1)) ∧ y 11 dead.toNatClampNeg ≠ 0 ∧ y 11 other.toNatClampNeg = 0))) ((b2_f (fun z : (inR dead 0 (y 4 0 - 1) ∧ inR other 0 (y 4 0 - 1)) ∧ y 11 dead.toNatClampNeg ≠ 0 ∧ y 11 other.toNatClampNeg = 0 => absurd z.1 (b2_eq.mp c35))).symm) ?_
        exact hj61
      · skip
        have q1 := b2_ne.mp c35
        have hDe := idxN (k := n) (by have z := q1.1; rw [hn] at z; exact z) (by omega)
        have hOt := idxN (k := n) (by have z := q1.2; rw [hn] at z; exact z) (by omega)
        refine q_aload_n (pc2 := 39) C 1 dX4_standIn_38 rfl rfl rfl ?_
        refine q_get (q0 := 0) (k := 11) (v := .ref (b 11)) (pc2 := 42) C hT4 f37 (wM_g0 ct b y) rfl (by decide) rfl rfl dX4_standIn_39 rfl ?_
        refine q_iload_n (pc2 := 43) C 2 dX4_standIn_42 rfl rfl rfl ?_
        refine q_zald (q0 := 10) (f := (y 11)) (pc2 := 44) C dead.toNatClampNeg (wM_g10 ct b y) rfl (hDe.2) (by have := hDe.1; omega) (by decide) dX4_standIn_43 rfl ?_
        refine q_if_eq (tgt := 60) (pc2 := 47) C dX4_standIn_44 (by decide) rfl (fun c44 => ?_) (fun c44 => ?_)
        · skip
          refine q_iconst (v := 0) (pc2 := 61) C dX4_standIn_60 (by decide) rfl ?_
          refine q_eqi (y := (b2 ((inR dead 0 (y 4 0 - 1) ∧ inR other 0 (y 4 0 - 1)) ∧ y 11 dead.toNatClampNeg ≠ 0 ∧ y 11 other.toNatClampNeg = 0))) ((b2_f (fun z : (inR dead 0 (y 4 0 - 1) ∧ inR other 0 (y 4 0 - 1)) ∧ y 11 dead.toNatClampNeg ≠ 0 ∧ y 11 other.toNatClampNeg = 0 => absurd z.2.1 (fun z => z c44))).symm) ?_
          exact hj61
        · skip
          refine q_aload_n (pc2 := 48) C 1 dX4_standIn_47 rfl rfl rfl ?_
          refine q_get (q0 := 0) (k := 11) (v := .ref (b 11)) (pc2 := 51) C hT4 f37 (wM_g0 ct b y) rfl (by decide) rfl rfl dX4_standIn_48 rfl ?_
          refine q_iload_n (pc2 := 52) C 3 dX4_standIn_51 rfl rfl rfl ?_
          refine q_zald (q0 := 10) (f := (y 11)) (pc2 := 53) C other.toNatClampNeg (wM_g10 ct b y) rfl (hOt.2) (by have := hOt.1; omega) (by decide) dX4_standIn_52 rfl ?_
          refine q_if_ne (tgt := 60) (pc2 := 56) C dX4_standIn_53 (by decide) rfl (fun c53 => ?_) (fun c53 => ?_)
          · skip
            refine q_iconst (v := 0) (pc2 := 61) C dX4_standIn_60 (by decide) rfl ?_
            refine q_eqi (y := (b2 ((inR dead 0 (y 4 0 - 1) ∧ inR other 0 (y 4 0 - 1)) ∧ y 11 dead.toNatClampNeg ≠ 0 ∧ y 11 other.toNatClampNeg = 0))) ((b2_f (fun z : (inR dead 0 (y 4 0 - 1) ∧ inR other 0 (y 4 0 - 1)) ∧ y 11 dead.toNatClampNeg ≠ 0 ∧ y 11 other.toNatClampNeg = 0 => absurd z.2.2 (c53))).symm) ?_
            exact hj61
          · skip
            refine q_iconst (v := 1) (pc2 := 57) C dX4_standIn_56 (by decide) rfl ?_
            refine q_goto (pc2 := 61) C dX4_standIn_57 (by decide) ?_
            refine q_eqi (y := (b2 ((inR dead 0 (y 4 0 - 1) ∧ inR other 0 (y 4 0 - 1)) ∧ y 11 dead.toNatClampNeg ≠ 0 ∧ y 11 other.toNatClampNeg = 0))) ((b2_t (c := (inR dead 0 (y 4 0 - 1) ∧ inR other 0 (y 4 0 - 1)) ∧ y 11 dead.toNatClampNeg ≠ 0 ∧ y 11 other.toNatClampNeg = 0) ⟨b2_ne.mp c35, c44, c53⟩).symm) ?_
            exact hj61
    refine q_iload_n (pc2 := 25) C 2 dX4_standIn_24 rfl rfl rfl ?_
    refine q_iload_n (pc2 := 26) C 3 dX4_standIn_25 rfl rfl rfl ?_
    refine q_icmp_eq (tgt := 33) (pc2 := 29) C dX4_standIn_26 (by decide) rfl (fun c26 => ?_) (fun c26 => ?_)
    · skip
      refine q_iconst (v := 0) (pc2 := 34) C dX4_standIn_33 (by decide) rfl ?_
      refine q_eqi (y := (b2 (dead ≠ other))) ((b2_f (fun z : dead ≠ other => absurd z (fun z => z c26))).symm) ?_
      exact hj34
    · skip
      refine q_iconst (v := 1) (pc2 := 30) C dX4_standIn_29 (by decide) rfl ?_
      refine q_goto (pc2 := 34) C dX4_standIn_30 (by decide) ?_
      refine q_eqi (y := (b2 (dead ≠ other))) ((b2_t (c := dead ≠ other) (c26)).symm) ?_
      exact hj34
  refine q_aload_n (pc2 := 1) C 0 dX4_standIn_0 rfl rfl rfl ?_
  refine q_iload_n (pc2 := 2) C 1 dX4_standIn_1 rfl rfl rfl ?_
  refine q_cV (pc2 := 5) (As := [.int dead]) (st := []) (st2 := [.int (b2 (inR dead 0 (y 4 0 - 1)))]) (q0 := 0) (w2 := (wM ct b y)) (c2 := 0) (s2 := 0) C (c_X4_isLamp l D ct b y dead) (cwV 1 C.w gX4_standIn_X4_isLamp rfl rfl rfl (by decide +kernel) ⟨Nat.le_of_ble_eq_true rfl, Nat.le_of_ble_eq_true rfl⟩) rfl rfl [0, 1, 2, 3, 4, 5, 6, 7, 8, 9, 10, 11, 12, 13, 14, 15, 16, 17, 18, 19, 20, 21] [] [0, 1, 2, 3, 4, 5, 6, 7, 8, 9, 10, 11, 12, 13, 14, 15, 16, 17, 18, 19, 20, 21] rfl rfl (by decide) (by decide) (by decide) rfl (by decide) dX4_standIn_2 rfl rfl (Nat.le_of_ble_eq_true rfl) ⟨Nat.zero_le _, Nat.zero_le _⟩ rfl rfl rfl rfl ?_
  refine q_if_eq (tgt := 20) (pc2 := 8) C dX4_standIn_5 (by decide) rfl (fun c5 => ?_) (fun c5 => ?_)
  · skip
    refine q_iconst (v := 0) (pc2 := 21) C dX4_standIn_20 (by decide) rfl ?_
    refine q_eqi (y := (b2 (inR dead 0 (y 4 0 - 1) ∧ inR other 0 (y 4 0 - 1)))) ((b2_f (fun z : inR dead 0 (y 4 0 - 1) ∧ inR other 0 (y 4 0 - 1) => absurd z.1 (b2_eq.mp c5))).symm) ?_
    exact hj21
  · skip
    refine q_aload_n (pc2 := 9) C 0 dX4_standIn_8 rfl rfl rfl ?_
    refine q_iload_n (pc2 := 10) C 2 dX4_standIn_9 rfl rfl rfl ?_
    refine q_cV (pc2 := 13) (As := [.int other]) (st := []) (st2 := [.int (b2 (inR other 0 (y 4 0 - 1)))]) (q0 := 0) (w2 := (wM ct b y)) (c2 := 0) (s2 := 0) C (c_X4_isLamp l D ct b y other) (cwV 1 C.w gX4_standIn_X4_isLamp rfl rfl rfl (by decide +kernel) ⟨Nat.le_of_ble_eq_true rfl, Nat.le_of_ble_eq_true rfl⟩) rfl rfl [0, 1, 2, 3, 4, 5, 6, 7, 8, 9, 10, 11, 12, 13, 14, 15, 16, 17, 18, 19, 20, 21] [] [0, 1, 2, 3, 4, 5, 6, 7, 8, 9, 10, 11, 12, 13, 14, 15, 16, 17, 18, 19, 20, 21] rfl rfl (by decide) (by decide) (by decide) rfl (by decide) dX4_standIn_10 rfl rfl (Nat.le_of_ble_eq_true rfl) ⟨Nat.zero_le _, Nat.zero_le _⟩ rfl rfl rfl rfl ?_
    refine q_if_eq (tgt := 20) (pc2 := 16) C dX4_standIn_13 (by decide) rfl (fun c13 => ?_) (fun c13 => ?_)
    · skip
      refine q_iconst (v := 0) (pc2 := 21) C dX4_standIn_20 (by decide) rfl ?_
      refine q_eqi (y := (b2 (inR dead 0 (y 4 0 - 1) ∧ inR other 0 (y 4 0 - 1)))) ((b2_f (fun z : inR dead 0 (y 4 0 - 1) ∧ inR other 0 (y 4 0 - 1) => absurd z.2 (b2_eq.mp c13))).symm) ?_
      exact hj21
    · skip
      refine q_iconst (v := 1) (pc2 := 17) C dX4_standIn_16 (by decide) rfl ?_
      refine q_goto (pc2 := 21) C dX4_standIn_17 (by decide) ?_
      refine q_eqi (y := (b2 (inR dead 0 (y 4 0 - 1) ∧ inR other 0 (y 4 0 - 1)))) ((b2_t (c := inR dead 0 (y 4 0 - 1) ∧ inR other 0 (y 4 0 - 1)) ⟨b2_ne.mp c5, b2_ne.mp c13⟩).symm) ?_
      exact hj21

set_option maxHeartbeats 4000000 in
set_option maxRecDepth 100000 in
theorem c_X4_colour (l : Launch) (D : va_G) (ct : Nat → ClassId) (b : Nat → Nat) (y : Nat → Nat → Int32) (n : Nat) (hn : y 4 0 = nI n) (hn10 : n ≤ 10) (lm col : Int32) : qM l yX4_colour wsX4_colour ({ frames := 2, cells := 0, slots := 0, locals := 43 }) D ct [.ref (b 30), .int lm, .int col] (wM ct b y) (qD (some (.int (if T2 (inR lm 0 (y 4 0 - 1)) (inR col 0 20) = 0 then y 6 lm.toNatClampNeg else 0))) (wM ct b (if T2 (inR lm 0 (y 4 0 - 1)) (inR col 0 20) = 0 then (set2 (set2 (set2 y 27 (fun _ => T2 (inR lm 0 (y 4 0 - 1)) (inR col 0 20))) 6 (upd (y 6) lm.toNatClampNeg col)) 12 (upd (y 12) lm.toNatClampNeg 0)) else (set2 y 27 (fun _ => T2 (inR lm 0 (y 4 0 - 1)) (inR col 0 20)))))) 0 0 := by
  refine q_start (ret := some .int) (lv := [(0, .ref (b 30)), (1, .int lm), (2, .int col)]) (by decide +kernel) rfl (Nat.le_of_ble_eq_true rfl) rfl ?_
  intro p e s m args below meth c A Q C hQ hnm
  have hT4 : ∀ w ∈ u_ws RX4 TX4 28, w ∈ wsX4_colour := by decide +kernel
  have f22 : (Cond.fieldLink RX4 22 "PlotPatchModel" "colour" "[I").before args s = true := C.w _ (by decide +kernel)
  have f41 : (Cond.fieldLink RX4 41 "PlotPatchModel" "burning" "[I").before args s = true := C.w _ (by decide +kernel)
  refine q_aload_n (pc2 := 1) C 0 dX4_colour_0 rfl rfl rfl ?_
  refine q_aload_n (pc2 := 2) C 0 dX4_colour_1 rfl rfl rfl ?_
  refine q_iload_n (pc2 := 3) C 1 dX4_colour_2 rfl rfl rfl ?_
  refine q_cV (pc2 := 6) (As := [.int lm]) (st := [.ref (b 30)]) (st2 := [.int (b2 (inR lm 0 (y 4 0 - 1))), .ref (b 30)]) (q0 := 0) (w2 := (wM ct b y)) (c2 := 0) (s2 := 0) C (c_X4_isLamp l D ct b y lm) (cwV 1 C.w gX4_colour_X4_isLamp rfl rfl rfl (by decide +kernel) ⟨Nat.le_of_ble_eq_true rfl, Nat.le_of_ble_eq_true rfl⟩) rfl rfl [0, 1, 2, 3, 4, 5, 6, 7, 8, 9, 10, 11, 12, 13, 14, 15, 16, 17, 18, 19, 20, 21] [] [0, 1, 2, 3, 4, 5, 6, 7, 8, 9, 10, 11, 12, 13, 14, 15, 16, 17, 18, 19, 20, 21] rfl rfl (by decide) (by decide) (by decide) rfl (by decide) dX4_colour_3 rfl rfl (Nat.le_of_ble_eq_true rfl) ⟨Nat.zero_le _, Nat.zero_le _⟩ rfl rfl rfl rfl ?_
  refine q_iload_n (pc2 := 7) C 2 dX4_colour_6 rfl rfl rfl ?_
  refine q_iconst (v := 0) (pc2 := 8) C dX4_colour_7 (by decide) rfl ?_
  refine q_bipush (v := 20) (pc2 := 10) C dX4_colour_8 (by decide) rfl ?_
  refine q_cS (pc2 := 13) (As := [.int col, .int 0, .int 20]) (st := [.int (b2 (inR lm 0 (y 4 0 - 1))), .ref (b 30)]) (st2 := [.int (b2 (inR col 0 20)), .int (b2 (inR lm 0 (y 4 0 - 1))), .ref (b 30)]) (w2 := (wM ct b y)) (c2 := 0) (s2 := 0) C (c_X4_isIn l D ct col 0 20) (va_cwS 3 C.w gX4_colour_X4_isIn rfl rfl rfl (by decide +kernel) ⟨Nat.le_of_ble_eq_true rfl, Nat.le_of_ble_eq_true rfl⟩) [] [0, 1, 2, 3, 4, 5, 6, 7, 8, 9, 10, 11, 12, 13, 14, 15, 16, 17, 18, 19, 20, 21] [0, 1, 2, 3, 4, 5, 6, 7, 8, 9, 10, 11, 12, 13, 14, 15, 16, 17, 18, 19, 20, 21] rfl rfl (by decide) (by decide) (by decide) rfl (by decide) dX4_colour_10 rfl rfl (Nat.le_of_ble_eq_true rfl) ⟨Nat.zero_le _, Nat.zero_le _⟩ rfl rfl rfl rfl ?_
  refine q_cV (pc2 := 16) (As := [.int (b2 (inR lm 0 (y 4 0 - 1))), .int (b2 (inR col 0 20))]) (st := []) (st2 := [.int (b2 (T2 (inR lm 0 (y 4 0 - 1)) (inR col 0 20) = 0))]) (q0 := 0) (w2 := (wM ct b (set2 y 27 (fun _ => T2 (inR lm 0 (y 4 0 - 1)) (inR col 0 20))))) (c2 := 0) (s2 := 0) C (c_X4_mayBoth l D ct b y (b2 (inR lm 0 (y 4 0 - 1))) (b2 (inR col 0 20))) (cwV 2 C.w gX4_colour_X4_mayBoth rfl rfl rfl (by decide +kernel) ⟨Nat.le_of_ble_eq_true rfl, Nat.le_of_ble_eq_true rfl⟩) rfl rfl [0, 1, 2, 3, 4, 5, 6, 7, 8, 9, 10, 11, 12, 13, 14, 15, 16, 17, 18, 19, 20, 21] [] [0, 1, 2, 3, 4, 5, 6, 7, 8, 9, 10, 11, 12, 13, 14, 15, 16, 17, 18, 19, 20, 21] rfl rfl (by decide) (by decide) (by decide) rfl (by decide) dX4_colour_13 rfl rfl (Nat.le_of_ble_eq_true rfl) ⟨Nat.zero_le _, Nat.zero_le _⟩ rfl rfl rfl rfl ?_
  refine q_if_ne (tgt := 21) (pc2 := 19) C dX4_colour_16 (by decide) rfl (fun c16 => ?_) (fun c16 => ?_)
  · skip
    have ht : T2 (inR lm 0 (y 4 0 - 1)) (inR col 0 20) = 0 := b2_ne.mp c16
    obtain ⟨p1, p2⟩ := t2_0 ht
    have hL := idxN (k := n) (by have z := p1; rw [hn] at z; exact z) (by omega)
    refine q_aload_n (pc2 := 22) C 0 dX4_colour_21 rfl rfl rfl ?_
    refine q_get (q0 := 0) (k := 6) (v := .ref (b 6)) (pc2 := 25) C hT4 f22 (wM_g0 ct b (set2 y 27 (fun _ => T2 (inR lm 0 (y 4 0 - 1)) (inR col 0 20)))) rfl (by decide) rfl rfl dX4_colour_22 rfl ?_
    refine q_iload_n (pc2 := 26) C 1 dX4_colour_25 rfl rfl rfl ?_
    refine q_iald (q0 := 5) (f := (y 6)) (pc2 := 27) C lm.toNatClampNeg (wM_g5 ct b (set2 y 27 (fun _ => T2 (inR lm 0 (y 4 0 - 1)) (inR col 0 20)))) rfl (hL.2) (by have := hL.1; omega) (by decide) dX4_colour_26 rfl ?_
    refine q_istore_n (lv' := [(3, .int ((y 6) lm.toNatClampNeg)), (0, .ref (b 30)), (1, .int lm), (2, .int col)]) (pc2 := 28) C dX4_colour_27 rfl (by decide) rfl rfl ?_
    refine q_aload_n (pc2 := 29) C 1 dX4_colour_28 rfl rfl rfl ?_
    refine q_get (q0 := 0) (k := 6) (v := .ref (b 6)) (pc2 := 32) C hT4 f22 (wM_g0 ct b (set2 y 27 (fun _ => T2 (inR lm 0 (y 4 0 - 1)) (inR col 0 20)))) rfl (by decide) rfl rfl dX4_colour_29 rfl ?_
    refine q_iload_n (pc2 := 33) C 2 dX4_colour_32 rfl rfl rfl ?_
    refine q_iload_n (pc2 := 34) C 3 dX4_colour_33 rfl rfl rfl ?_
    refine q_iast (q0 := 5) (f := (y 6)) (ws' := (wM ct b (set2 (set2 y 27 (fun _ => T2 (inR lm 0 (y 4 0 - 1)) (inR col 0 20))) 6 (upd (y 6) lm.toNatClampNeg col)))) (pc2 := 35) C lm.toNatClampNeg (wM_g5 ct b (set2 y 27 (fun _ => T2 (inR lm 0 (y 4 0 - 1)) (inR col 0 20)))) rfl (hL.2) (by have := hL.1; omega) (by decide) (wM_a5 ct b (set2 y 27 (fun _ => T2 (inR lm 0 (y 4 0 - 1)) (inR col 0 20))) (upd (y 6) lm.toNatClampNeg col)) dX4_colour_34 rfl ?_
    refine q_aload_n (pc2 := 36) C 1 dX4_colour_35 rfl rfl rfl ?_
    refine q_get (q0 := 0) (k := 12) (v := .ref (b 12)) (pc2 := 39) C hT4 f41 (wM_g0 ct b (set2 (set2 y 27 (fun _ => T2 (inR lm 0 (y 4 0 - 1)) (inR col 0 20))) 6 (upd (y 6) lm.toNatClampNeg col))) rfl (by decide) rfl rfl dX4_colour_36 rfl ?_
    refine q_iload_n (pc2 := 40) C 2 dX4_colour_39 rfl rfl rfl ?_
    refine q_iconst (v := 0) (pc2 := 41) C dX4_colour_40 (by decide) rfl ?_
    refine q_iast (q0 := 11) (f := (y 12)) (ws' := (wM ct b (set2 (set2 (set2 y 27 (fun _ => T2 (inR lm 0 (y 4 0 - 1)) (inR col 0 20))) 6 (upd (y 6) lm.toNatClampNeg col)) 12 (upd (y 12) lm.toNatClampNeg 0)))) (pc2 := 42) C lm.toNatClampNeg (wM_g11 ct b (set2 (set2 y 27 (fun _ => T2 (inR lm 0 (y 4 0 - 1)) (inR col 0 20))) 6 (upd (y 6) lm.toNatClampNeg col))) rfl (hL.2) (by have := hL.1; omega) (by decide) (wM_a11 ct b (set2 (set2 y 27 (fun _ => T2 (inR lm 0 (y 4 0 - 1)) (inR col 0 20))) 6 (upd (y 6) lm.toNatClampNeg col)) (upd (y 12) lm.toNatClampNeg 0)) dX4_colour_41 rfl ?_
    refine q_iload_n (pc2 := 43) C 0 dX4_colour_42 rfl rfl rfl ?_
    exact q_zret C hQ rfl (rfl) (Nat.zero_le _) (Nat.zero_le _) dX4_colour_43 ⟨by rw [if_pos ht], by rw [if_pos ht]⟩
  · skip
    have ht0 : ¬ T2 (inR lm 0 (y 4 0 - 1)) (inR col 0 20) = 0 := b2_eq.mp c16
    refine q_iconst (v := 0) (pc2 := 20) C dX4_colour_19 (by decide) rfl ?_
    exact q_zret C hQ rfl (rfl) (Nat.zero_le _) (Nat.zero_le _) dX4_colour_20 ⟨by rw [if_neg ht0], by rw [if_neg ht0]⟩

def orf (f : Nat → Int32) : Nat → Int32
  | 0 => 0
  | k + 1 => orf f k ||| f k

set_option maxHeartbeats 4000000 in
set_option maxRecDepth 100000 in
theorem c_X4_burnt (l : Launch) (D : va_G) (ct : Nat → ClassId) (b : Nat → Nat) (y : Nat → Nat → Int32) (n : Nat) (hn : y 4 0 = nI n) (hn10 : n ≤ 10) : qM l yX4_burnt wsX4_burnt ({ frames := 0, cells := 0, slots := 0, locals := 0 }) D ct [.ref (b 30)] (wM ct b y) (qD (some (.int (orf (fun k => if 30 ≤ y 12 k then (1 <<< (nI k &&& 31) : Int32) else 0) n))) (wM ct b (set2 y 27 (fun _ => 0)))) 0 0 := by
  refine q_start (ret := some .int) (lv := [(0, .ref (b 30))]) (by decide +kernel) rfl (Nat.le_of_ble_eq_true rfl) rfl ?_
  intro p e s m args below meth c A Q C hQ hnm
  have hT4 : ∀ w ∈ u_ws RX4 TX4 28, w ∈ wsX4_burnt := by decide +kernel
  have f74 : (Cond.fieldLink RX4 74 "PlotPatchModel" "thrown" "I").before args s = true := C.w _ (by decide +kernel)
  have f78 : (Cond.fieldLink RX4 78 "PlotPatchModel" "lamps" "I").before args s = true := C.w _ (by decide +kernel)
  have f41 : (Cond.fieldLink RX4 41 "PlotPatchModel" "burning" "[I").before args s = true := C.w _ (by decide +kernel)
  refine q_aload_n (pc2 := 1) C 0 dX4_burnt_0 rfl rfl rfl ?_
  refine q_iconst (v := 0) (pc2 := 2) C dX4_burnt_1 (by decide) rfl ?_
  refine q_put (q0 := 0) (k := 27) (ty := .int) (ws' := (wM ct b (set2 y 27 (fun _ => 0)))) (pc2 := 5) C hT4 tyX4_ok nmX4 f74 (wM_g0 ct b y) rfl (by decide) rfl rfl (by decide +kernel) rfl rfl (Nat.le_of_ble_eq_true rfl) (wM_s0_27 ct b y 0) dX4_burnt_2 rfl ?_
  refine q_iconst (v := 0) (pc2 := 6) C dX4_burnt_5 (by decide) rfl ?_
  refine q_istore_n (lv' := [(1, .int 0), (0, .ref (b 30))]) (pc2 := 7) C dX4_burnt_6 rfl (by decide) rfl rfl ?_
  refine q_iconst (v := 0) (pc2 := 8) C dX4_burnt_7 (by decide) rfl ?_
  refine q_istore_n (lv' := [(2, .int 0), (1, .int 0), (0, .ref (b 30))]) (pc2 := 9) C dX4_burnt_8 rfl (by decide) rfl rfl ?_
  refine q_lv (lv' := [(2, .int 0), (1, .int 0), (0, .ref (b 30))]) [0, 1, 2] rfl ?_
  refine lp_up (P := fun i => Cf p l e ({ frames := 0, cells := 0, slots := 0, locals := 0 }) s m args below meth c D A 3 0 0 Q 9 [(2, .int (nI i)), (1, .int (orf (fun k => if 30 ≤ y 12 k then (1 <<< (nI k &&& 31) : Int32) else 0) i)), (0, .ref (b 30))] [] (wM ct b (set2 y 27 (fun _ => 0)))) (n) (fun i hi ihi => ?_) ?_
  · skip
    refine q_iload_n (pc2 := 10) C 0 dX4_burnt_9 rfl rfl rfl ?_
    refine q_aload_n (pc2 := 11) C 2 dX4_burnt_10 rfl rfl rfl ?_
    refine q_get (q0 := 0) (k := 4) (v := .int (y 4 0)) (pc2 := 14) C hT4 f78 (wM_g0 ct b (set2 y 27 (fun _ => 0))) rfl (by decide) rfl rfl dX4_burnt_11 rfl ?_
    refine q_icmp_ge (tgt := 44) (pc2 := 17) C dX4_burnt_14 (by decide) rfl (fun c14 => (q_absurd (a := n) (b := i) (show nI n ≤ nI i by rw [← hn]; exact c14) hi (by omega))) (fun _ => ?_)
    refine q_iload_n (pc2 := 18) C 1 dX4_burnt_17 rfl rfl rfl ?_
    refine q_aload_n (pc2 := 19) C 2 dX4_burnt_18 rfl rfl rfl ?_
    refine q_get (q0 := 0) (k := 12) (v := .ref (b 12)) (pc2 := 22) C hT4 f41 (wM_g0 ct b (set2 y 27 (fun _ => 0))) rfl (by decide) rfl rfl dX4_burnt_19 rfl ?_
    refine q_iload_n (pc2 := 23) C 0 dX4_burnt_22 rfl rfl rfl ?_
    refine q_iald (q0 := 11) (f := (y 12)) (pc2 := 24) C i (wM_g11 ct b (set2 y 27 (fun _ => 0))) rfl (rfl) (by omega) (by decide) dX4_burnt_23 rfl ?_
    refine q_bipush (v := 30) (pc2 := 26) C dX4_burnt_24 (by decide) rfl ?_
    refine q_icmp_lt (tgt := 35) (pc2 := 29) C dX4_burnt_26 (by decide) rfl (fun c26 => ?_) (fun c26 => ?_)
    · skip
      refine q_iconst (v := 0) (pc2 := 36) C dX4_burnt_35 (by decide) rfl ?_
      refine q_ior (pc2 := 37) C dX4_burnt_36 rfl rfl ?_
      refine q_istore_n (lv' := [(1, .int ((orf (fun k => if 30 ≤ y 12 k then (1 <<< (nI k &&& 31) : Int32) else 0) i) ||| 0)), (2, .int (nI i)), (0, .ref (b 30))]) (pc2 := 38) C dX4_burnt_37 rfl (by decide) rfl rfl ?_
      refine q_iinc (v := nI (i + 1)) (lv' := [(2, .int (nI (i + 1))), (1, .int ((orf (fun k => if 30 ≤ y 12 k then (1 <<< (nI k &&& 31) : Int32) else 0) i) ||| 0)), (0, .ref (b 30))]) (pc2 := 41) C 1 dX4_burnt_38 rfl (nI_1 i) (by decide) rfl rfl ?_
      refine q_goto (pc2 := 9) C dX4_burnt_41 (by decide) ?_
      refine q_lv (lv' := [(2, .int (nI (i + 1))), (1, .int ((orf (fun k => if 30 ≤ y 12 k then (1 <<< (nI k &&& 31) : Int32) else 0) i) ||| 0)), (0, .ref (b 30))]) [0, 1, 2] rfl ?_
      refine q_eql (lv' := [(2, .int (nI (i + 1))), (1, .int (orf (fun k => if 30 ≤ y 12 k then (1 <<< (nI k &&& 31) : Int32) else 0) (i + 1))), (0, .ref (b 30))]) (by simp only [orf]; rw [if_neg (Int32.not_le.mpr c26)]) ?_
      exact ihi
    · skip
      refine q_iconst (v := 1) (pc2 := 30) C dX4_burnt_29 (by decide) rfl ?_
      refine q_iload_n (pc2 := 31) C 0 dX4_burnt_30 rfl rfl rfl ?_
      refine q_ishl (pc2 := 32) C dX4_burnt_31 rfl rfl ?_
      refine q_goto (pc2 := 36) C dX4_burnt_32 (by decide) ?_
      refine q_ior (pc2 := 37) C dX4_burnt_36 rfl rfl ?_
      refine q_istore_n (lv' := [(1, .int ((orf (fun k => if 30 ≤ y 12 k then (1 <<< (nI k &&& 31) : Int32) else 0) i) ||| (1 <<< ((nI i) &&& 31)))), (2, .int (nI i)), (0, .ref (b 30))]) (pc2 := 38) C dX4_burnt_37 rfl (by decide) rfl rfl ?_
      refine q_iinc (v := nI (i + 1)) (lv' := [(2, .int (nI (i + 1))), (1, .int ((orf (fun k => if 30 ≤ y 12 k then (1 <<< (nI k &&& 31) : Int32) else 0) i) ||| (1 <<< ((nI i) &&& 31)))), (0, .ref (b 30))]) (pc2 := 41) C 1 dX4_burnt_38 rfl (nI_1 i) (by decide) rfl rfl ?_
      refine q_goto (pc2 := 9) C dX4_burnt_41 (by decide) ?_
      refine q_lv (lv' := [(2, .int (nI (i + 1))), (1, .int ((orf (fun k => if 30 ≤ y 12 k then (1 <<< (nI k &&& 31) : Int32) else 0) i) ||| (1 <<< ((nI i) &&& 31)))), (0, .ref (b 30))]) [0, 1, 2] rfl ?_
      refine q_eql (lv' := [(2, .int (nI (i + 1))), (1, .int (orf (fun k => if 30 ≤ y 12 k then (1 <<< (nI k &&& 31) : Int32) else 0) (i + 1))), (0, .ref (b 30))]) (by simp only [orf]; rw [if_pos (Int32.not_lt.mp c26)]) ?_
      exact ihi
  · skip
    refine q_iload_n (pc2 := 10) C 0 dX4_burnt_9 rfl rfl rfl ?_
    refine q_aload_n (pc2 := 11) C 2 dX4_burnt_10 rfl rfl rfl ?_
    refine q_get (q0 := 0) (k := 4) (v := .int (y 4 0)) (pc2 := 14) C hT4 f78 (wM_g0 ct b (set2 y 27 (fun _ => 0))) rfl (by decide) rfl rfl dX4_burnt_11 rfl ?_
    refine q_icmp_ge (tgt := 44) (pc2 := 17) C dX4_burnt_14 (by decide) rfl (fun _ => ?_) (fun c14 => (absurd (show (y 4 0) ≤ nI n by rw [hn]; exact nI_le (Nat.le_refl n) (by omega)) c14))
    refine q_iload_n (pc2 := 45) C 1 dX4_burnt_44 rfl rfl rfl ?_
    exact q_zret C hQ rfl (rfl) (Nat.zero_le _) (Nat.zero_le _) dX4_burnt_45 ⟨rfl, rfl⟩

set_option maxHeartbeats 4000000 in
set_option maxRecDepth 100000 in
theorem c_X4_rewind (l : Launch) (D : va_G) (ct : Nat → ClassId) (b : Nat → Nat) (y : Nat → Nat → Int32) (n : Nat) (hn : y 4 0 = nI n) (hn10 : n ≤ 10) : qM l yX4_rewind wsX4_rewind ({ frames := 0, cells := 0, slots := 0, locals := 0 }) D ct [.ref (b 30)] (wM ct b y) (qD (some (.int (y 23 0))) (wM ct b (set2 (set2 (set2 (set2 (set2 y 27 (fun _ => 0)) 23 (fun _ => 0)) 13 (fun j => if j < n then 0 else y 13 j)) 14 (fun j => if j < n then 0 else y 14 j)) 16 (fun j => if j < n then 0 else y 16 j)))) 0 0 := by
  refine q_start (ret := some .int) (lv := [(0, .ref (b 30))]) (by decide +kernel) rfl (Nat.le_of_ble_eq_true rfl) rfl ?_
  intro p e s m args below meth c A Q C hQ hnm
  have hT4 : ∀ w ∈ u_ws RX4 TX4 28, w ∈ wsX4_rewind := by decide +kernel
  have f74 : (Cond.fieldLink RX4 74 "PlotPatchModel" "thrown" "I").before args s = true := C.w _ (by decide +kernel)
  have f145 : (Cond.fieldLink RX4 145 "PlotPatchModel" "begun" "I").before args s = true := C.w _ (by decide +kernel)
  have f78 : (Cond.fieldLink RX4 78 "PlotPatchModel" "lamps" "I").before args s = true := C.w _ (by decide +kernel)
  have f44 : (Cond.fieldLink RX4 44 "PlotPatchModel" "from" "[I").before args s = true := C.w _ (by decide +kernel)
  have f47 : (Cond.fieldLink RX4 47 "PlotPatchModel" "to" "[I").before args s = true := C.w _ (by decide +kernel)
  have f53 : (Cond.fieldLink RX4 53 "PlotPatchModel" "fading" "[I").before args s = true := C.w _ (by decide +kernel)
  refine q_aload_n (pc2 := 1) C 0 dX4_rewind_0 rfl rfl rfl ?_
  refine q_iconst (v := 0) (pc2 := 2) C dX4_rewind_1 (by decide) rfl ?_
  refine q_put (q0 := 0) (k := 27) (ty := .int) (ws' := (wM ct b (set2 y 27 (fun _ => 0)))) (pc2 := 5) C hT4 tyX4_ok nmX4 f74 (wM_g0 ct b y) rfl (by decide) rfl rfl (by decide +kernel) rfl rfl (Nat.le_of_ble_eq_true rfl) (wM_s0_27 ct b y 0) dX4_rewind_2 rfl ?_
  refine q_aload_n (pc2 := 6) C 0 dX4_rewind_5 rfl rfl rfl ?_
  refine q_get (q0 := 0) (k := 23) (v := .int (y 23 0)) (pc2 := 9) C hT4 f145 (wM_g0 ct b (set2 y 27 (fun _ => 0))) rfl (by decide) rfl rfl dX4_rewind_6 rfl ?_
  refine q_istore_n (lv' := [(1, .int (y 23 0)), (0, .ref (b 30))]) (pc2 := 10) C dX4_rewind_9 rfl (by decide) rfl rfl ?_
  refine q_aload_n (pc2 := 11) C 1 dX4_rewind_10 rfl rfl rfl ?_
  refine q_iconst (v := 0) (pc2 := 12) C dX4_rewind_11 (by decide) rfl ?_
  refine q_put (q0 := 0) (k := 23) (ty := .int) (ws' := (wM ct b (set2 (set2 y 27 (fun _ => 0)) 23 (fun _ => 0)))) (pc2 := 15) C hT4 tyX4_ok nmX4 f145 (wM_g0 ct b (set2 y 27 (fun _ => 0))) rfl (by decide) rfl rfl (by decide +kernel) rfl rfl (Nat.le_of_ble_eq_true rfl) (wM_s0_23 ct b (set2 y 27 (fun _ => 0)) 0) dX4_rewind_12 rfl ?_
  refine q_iconst (v := 0) (pc2 := 16) C dX4_rewind_15 (by decide) rfl ?_
  refine q_istore_n (lv' := [(2, .int 0), (1, .int (y 23 0)), (0, .ref (b 30))]) (pc2 := 17) C dX4_rewind_16 rfl (by decide) rfl rfl ?_
  refine q_lv (lv' := [(2, .int 0), (1, .int (y 23 0)), (0, .ref (b 30))]) [0, 1, 2] rfl ?_
  refine q_eqw (ws' := (wM ct b (set2 (set2 (set2 (set2 (set2 y 27 (fun _ => 0)) 23 (fun _ => 0)) 13 (fun j => if j < 0 then 0 else y 13 j)) 14 (fun j => if j < 0 then 0 else y 14 j)) 16 (fun j => if j < 0 then 0 else y 16 j)))) (by simp only [Nat.not_lt_zero, if_false]; rfl) ?_
  refine lp_up (P := fun i => Cf p l e ({ frames := 0, cells := 0, slots := 0, locals := 0 }) s m args below meth c D A 3 0 0 Q 17 [(2, .int (nI i)), (1, .int (y 23 0)), (0, .ref (b 30))] [] (wM ct b (set2 (set2 (set2 (set2 (set2 y 27 (fun _ => 0)) 23 (fun _ => 0)) 13 (fun j => if j < i then 0 else y 13 j)) 14 (fun j => if j < i then 0 else y 14 j)) 16 (fun j => if j < i then 0 else y 16 j)))) (n) (fun i hi ihi => ?_) ?_
  · skip
    refine q_iload_n (pc2 := 18) C 0 dX4_rewind_17 rfl rfl rfl ?_
    refine q_aload_n (pc2 := 19) C 2 dX4_rewind_18 rfl rfl rfl ?_
    refine q_get (q0 := 0) (k := 4) (v := .int (y 4 0)) (pc2 := 22) C hT4 f78 (wM_g0 ct b (set2 (set2 (set2 (set2 (set2 y 27 (fun _ => 0)) 23 (fun _ => 0)) 13 (fun j => if j < i then 0 else y 13 j)) 14 (fun j => if j < i then 0 else y 14 j)) 16 (fun j => if j < i then 0 else y 16 j))) rfl (by decide) rfl rfl dX4_rewind_19 rfl ?_
    refine q_icmp_ge (tgt := 52) (pc2 := 25) C dX4_rewind_22 (by decide) rfl (fun c22 => (q_absurd (a := n) (b := i) (show nI n ≤ nI i by rw [← hn]; exact c22) hi (by omega))) (fun _ => ?_)
    refine q_aload_n (pc2 := 26) C 2 dX4_rewind_25 rfl rfl rfl ?_
    refine q_get (q0 := 0) (k := 13) (v := .ref (b 13)) (pc2 := 29) C hT4 f44 (wM_g0 ct b (set2 (set2 (set2 (set2 (set2 y 27 (fun _ => 0)) 23 (fun _ => 0)) 13 (fun j => if j < i then 0 else y 13 j)) 14 (fun j => if j < i then 0 else y 14 j)) 16 (fun j => if j < i then 0 else y 16 j))) rfl (by decide) rfl rfl dX4_rewind_26 rfl ?_
    refine q_iload_n (pc2 := 30) C 0 dX4_rewind_29 rfl rfl rfl ?_
    refine q_iconst (v := 0) (pc2 := 31) C dX4_rewind_30 (by decide) rfl ?_
    refine q_iast (q0 := 12) (f := (fun j => if j < i then 0 else y 13 j)) (ws' := (wM ct b (set2 (set2 (set2 (set2 (set2 y 27 (fun _ => 0)) 23 (fun _ => 0)) 13 (upd (fun j => if j < i then 0 else y 13 j) i 0)) 14 (fun j => if j < i then 0 else y 14 j)) 16 (fun j => if j < i then 0 else y 16 j)))) (pc2 := 32) C i (wM_g12 ct b (set2 (set2 (set2 (set2 (set2 y 27 (fun _ => 0)) 23 (fun _ => 0)) 13 (fun j => if j < i then 0 else y 13 j)) 14 (fun j => if j < i then 0 else y 14 j)) 16 (fun j => if j < i then 0 else y 16 j))) rfl (rfl) (by omega) (by decide) (wM_a12 ct b (set2 (set2 (set2 (set2 (set2 y 27 (fun _ => 0)) 23 (fun _ => 0)) 13 (fun j => if j < i then 0 else y 13 j)) 14 (fun j => if j < i then 0 else y 14 j)) 16 (fun j => if j < i then 0 else y 16 j)) (upd (fun j => if j < i then 0 else y 13 j) i 0)) dX4_rewind_31 rfl ?_
    refine q_aload_n (pc2 := 33) C 2 dX4_rewind_32 rfl rfl rfl ?_
    refine q_get (q0 := 0) (k := 14) (v := .ref (b 14)) (pc2 := 36) C hT4 f47 (wM_g0 ct b (set2 (set2 (set2 (set2 (set2 y 27 (fun _ => 0)) 23 (fun _ => 0)) 13 (upd (fun j => if j < i then 0 else y 13 j) i 0)) 14 (fun j => if j < i then 0 else y 14 j)) 16 (fun j => if j < i then 0 else y 16 j))) rfl (by decide) rfl rfl dX4_rewind_33 rfl ?_
    refine q_iload_n (pc2 := 37) C 0 dX4_rewind_36 rfl rfl rfl ?_
    refine q_iconst (v := 0) (pc2 := 38) C dX4_rewind_37 (by decide) rfl ?_
    refine q_iast (q0 := 13) (f := (fun j => if j < i then 0 else y 14 j)) (ws' := (wM ct b (set2 (set2 (set2 (set2 (set2 y 27 (fun _ => 0)) 23 (fun _ => 0)) 13 (upd (fun j => if j < i then 0 else y 13 j) i 0)) 14 (upd (fun j => if j < i then 0 else y 14 j) i 0)) 16 (fun j => if j < i then 0 else y 16 j)))) (pc2 := 39) C i (wM_g13 ct b (set2 (set2 (set2 (set2 (set2 y 27 (fun _ => 0)) 23 (fun _ => 0)) 13 (upd (fun j => if j < i then 0 else y 13 j) i 0)) 14 (fun j => if j < i then 0 else y 14 j)) 16 (fun j => if j < i then 0 else y 16 j))) rfl (rfl) (by omega) (by decide) (wM_a13 ct b (set2 (set2 (set2 (set2 (set2 y 27 (fun _ => 0)) 23 (fun _ => 0)) 13 (upd (fun j => if j < i then 0 else y 13 j) i 0)) 14 (fun j => if j < i then 0 else y 14 j)) 16 (fun j => if j < i then 0 else y 16 j)) (upd (fun j => if j < i then 0 else y 14 j) i 0)) dX4_rewind_38 rfl ?_
    refine q_aload_n (pc2 := 40) C 2 dX4_rewind_39 rfl rfl rfl ?_
    refine q_get (q0 := 0) (k := 16) (v := .ref (b 16)) (pc2 := 43) C hT4 f53 (wM_g0 ct b (set2 (set2 (set2 (set2 (set2 y 27 (fun _ => 0)) 23 (fun _ => 0)) 13 (upd (fun j => if j < i then 0 else y 13 j) i 0)) 14 (upd (fun j => if j < i then 0 else y 14 j) i 0)) 16 (fun j => if j < i then 0 else y 16 j))) rfl (by decide) rfl rfl dX4_rewind_40 rfl ?_
    refine q_iload_n (pc2 := 44) C 0 dX4_rewind_43 rfl rfl rfl ?_
    refine q_iconst (v := 0) (pc2 := 45) C dX4_rewind_44 (by decide) rfl ?_
    refine q_iast (q0 := 15) (f := (fun j => if j < i then 0 else y 16 j)) (ws' := (wM ct b (set2 (set2 (set2 (set2 (set2 y 27 (fun _ => 0)) 23 (fun _ => 0)) 13 (upd (fun j => if j < i then 0 else y 13 j) i 0)) 14 (upd (fun j => if j < i then 0 else y 14 j) i 0)) 16 (upd (fun j => if j < i then 0 else y 16 j) i 0)))) (pc2 := 46) C i (wM_g15 ct b (set2 (set2 (set2 (set2 (set2 y 27 (fun _ => 0)) 23 (fun _ => 0)) 13 (upd (fun j => if j < i then 0 else y 13 j) i 0)) 14 (upd (fun j => if j < i then 0 else y 14 j) i 0)) 16 (fun j => if j < i then 0 else y 16 j))) rfl (rfl) (by omega) (by decide) (wM_a15 ct b (set2 (set2 (set2 (set2 (set2 y 27 (fun _ => 0)) 23 (fun _ => 0)) 13 (upd (fun j => if j < i then 0 else y 13 j) i 0)) 14 (upd (fun j => if j < i then 0 else y 14 j) i 0)) 16 (fun j => if j < i then 0 else y 16 j)) (upd (fun j => if j < i then 0 else y 16 j) i 0)) dX4_rewind_45 rfl ?_
    refine q_iinc (v := nI (i + 1)) (lv' := [(2, .int (nI (i + 1))), (1, .int (y 23 0)), (0, .ref (b 30))]) (pc2 := 49) C 0 dX4_rewind_46 rfl (nI_1 i) (by decide) rfl rfl ?_
    refine q_goto (pc2 := 17) C dX4_rewind_49 (by decide) ?_
    refine q_lv (lv' := [(2, .int (nI (i + 1))), (1, .int (y 23 0)), (0, .ref (b 30))]) [0, 1, 2] rfl ?_
    refine q_eqw (ws' := (wM ct b (set2 (set2 (set2 (set2 (set2 y 27 (fun _ => 0)) 23 (fun _ => 0)) 13 (fun j => if j < (i + 1) then 0 else y 13 j)) 14 (fun j => if j < (i + 1) then 0 else y 14 j)) 16 (fun j => if j < (i + 1) then 0 else y 16 j)))) (by rw [fillc_lt 0 (y 13) i, fillc_lt 0 (y 14) i, fillc_lt 0 (y 16) i]) ?_
    exact ihi
  · skip
    refine q_iload_n (pc2 := 18) C 0 dX4_rewind_17 rfl rfl rfl ?_
    refine q_aload_n (pc2 := 19) C 2 dX4_rewind_18 rfl rfl rfl ?_
    refine q_get (q0 := 0) (k := 4) (v := .int (y 4 0)) (pc2 := 22) C hT4 f78 (wM_g0 ct b (set2 (set2 (set2 (set2 (set2 y 27 (fun _ => 0)) 23 (fun _ => 0)) 13 (fun j => if j < n then 0 else y 13 j)) 14 (fun j => if j < n then 0 else y 14 j)) 16 (fun j => if j < n then 0 else y 16 j))) rfl (by decide) rfl rfl dX4_rewind_19 rfl ?_
    refine q_icmp_ge (tgt := 52) (pc2 := 25) C dX4_rewind_22 (by decide) rfl (fun _ => ?_) (fun c22 => (absurd (show (y 4 0) ≤ nI n by rw [hn]; exact nI_le (Nat.le_refl n) (by omega)) c22))
    refine q_iload_n (pc2 := 53) C 1 dX4_rewind_52 rfl rfl rfl ?_
    exact q_zret C hQ rfl (rfl) (Nat.zero_le _) (Nat.zero_le _) dX4_rewind_53 ⟨rfl, rfl⟩
