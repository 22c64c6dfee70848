/-! the law's start: the object, six arrays, then the loop -/
def adL (a : Nat → Nat) (q1 q2 q3 q4 q5 q6 : Nat) : Nat → Nat := fun k => if k = 40 then q1 else if k = 41 then q2 else if k = 42 then q3 else if k = 43 then q4 else if k = 44 then q5 else if k = 45 then q6 else a k
theorem adL_w (ct : Nat → ClassId) (a : Nat → Nat) (q1 q2 q3 q4 q5 q6 : Nat) (x : Nat → Nat → Int32) (fc fb fp fq fn fl : Nat → Int32) : (((((wX ct a x ++ [(q1, .inl (ct 0, 8, .inl fc))]) ++ [(q2, .inl (ct 0, 8, .inl fb))]) ++ [(q3, .inl (ct 0, 40, .inl fp))]) ++ [(q4, .inl (ct 0, 12, .inl fq))]) ++ [(q5, .inl (ct 0, 20, .inl fn))]) ++ [(q6, .inl (ct 0, 32, .inl fl))] = wT ct (adL a q1 q2 q3 q4 q5 q6) x fc fb fp fq fn fl := rfl
set_option maxHeartbeats 4000000 in
set_option maxRecDepth 100000 in
theorem lw_body (l : Launch) (hl : l.stackTraces = false) {p : Program} {e : Env} {s : State} {m : MethodId} {args : Array Value} {below : List Frame} {meth : Method} {c : Code} {D : va_G} {ct : Nat → ClassId} {A : Nat → Prop} {Q : State → Prop} (C : Cx p s m args c meth cL_law 13 (some .boolean) wsL_law RL D ct A) {sb L0 : Nat} {xs : Nat → Int32} (hX : va_X sb L0 xs s s.heap) (hbl : sb < s.heap.size) (hbA : ¬ A sb) (hL : L0 ≤ 260)
    (kend : ∀ (cells slots : Nat) (lv : List (Nat × Value)) (ws : va_W), cells ≤ 676308 → slots ≤ 7072545 → Cf p l e room_1 s m args below meth c D A 13 cells slots Q 361 lv [] ws) : Cf p l e room_1 s m args below meth c D A 13 0 0 Q 0 [(0, .ref sb)] [] [] := by
  have hT3 : ∀ w ∈ u_ws RX3 TX3 7, w ∈ wsL_law := by decide +kernel
  have hAr : (Cond.arrayClass .int).before args s = true := C.w (.arrayClass .int) (by decide +kernel)
  refine q_new (pc2 := 3) (ci := 3) (fs := [(.int 0), .null, .null, .null, .null, .null, .null]) (c2 := 1) (s2 := 7) C hT3 tyX3_ok (C.w (.classLink RL 28 RX3) (by decide +kernel)) (C.w (.instantiable RX3 7) (by decide +kernel)) (C.w (.initialized RX3) (by decide +kernel)) rfl (fun j hj => by rcases (show j = 0 ∨ j = 1 ∨ j = 2 ∨ j = 3 ∨ j = 4 ∨ j = 5 ∨ j = 6 by omega) with rfl | rfl | rfl | rfl | rfl | rfl | rfl <;> rfl) (Nat.le_of_ble_eq_true rfl) (Nat.le_of_ble_eq_true rfl) dL_law_0 rfl rfl rfl (fun q0 => ?_)
  refine q_eqw (ws' := [(q0, .inr (3, [(.int 0), .null, .null, .null, .null, .null, .null]))]) rfl ?_
  refine q_dup (pc2 := 4) C dL_law_3 rfl rfl ?_
  refine q_cI (pc2 := 7) (st := [.ref q0]) (c2 := 26) (s2 := 300) C (c_X3_init l D ct q0) (cwI 0 C.w gL_law_X3_init rfl rfl rfl (C.w (.initialized RX3) (by decide +kernel)) (C.w (.methodLink RL 146 yX3_init) (by decide +kernel)) (C.w (.instanceMethod yX3_init) (by decide +kernel)) rfl (by decide +kernel) ⟨Nat.le_of_ble_eq_true rfl, Nat.le_of_ble_eq_true rfl⟩) [0] [] rfl rfl (by decide) (by decide) (by decide) dL_law_4 (Nat.le_of_ble_eq_true rfl) ⟨Nat.le_of_ble_eq_true rfl, Nat.le_of_ble_eq_true rfl⟩ rfl rfl rfl (fun r w1 hb => ?_)
  obtain ⟨hr9, a, ha, hw⟩ := hb
  subst ha; subst hw
  refine ⟨hr9, wX ct a x00, [0, 1, 2, 3, 4, 5, 6, 7, 8, 9, 10, 11, 12, 13, 14, 15, 16, 17, 18, 19, 20, 21, 22, 23, 24, 25], rfl, by decide, ?_⟩
  refine q_astore_n (lv' := [(1, .ref (a 30)), (0, .ref sb)]) (pc2 := 8) C dL_law_7 rfl (by decide) rfl rfl ?_
  refine q_bipush (v := nI 8) (pc2 := 10) C dL_law_8 (by decide) rfl ?_
  refine q_newa (atype := .int) (ty := .int) (n := nI 8) (pc2 := 12) (N' := 8) (x := (8, .inl (fun _ => 0))) (c2 := 27) (s2 := 308) C hAr rfl 0 rfl ra_int (fun _ => rfl) (by decide) (by decide) (Nat.le_of_ble_eq_true rfl) (Nat.le_of_ble_eq_true rfl) (Nat.le_of_ble_eq_true rfl) dL_law_10 rfl rfl rfl (fun q1 => ?_)
  refine q_astore_n (lv' := [(2, .ref q1), (1, .ref (a 30)), (0, .ref sb)]) (pc2 := 13) C dL_law_12 rfl (by decide) rfl rfl ?_
  refine q_bipush (v := nI 8) (pc2 := 15) C dL_law_13 (by decide) rfl ?_
  refine q_newa (atype := .int) (ty := .int) (n := nI 8) (pc2 := 17) (N' := 8) (x := (8, .inl (fun _ => 0))) (c2 := 28) (s2 := 316) C hAr rfl 0 rfl ra_int (fun _ => rfl) (by decide) (by decide) (Nat.le_of_ble_eq_true rfl) (Nat.le_of_ble_eq_true rfl) (Nat.le_of_ble_eq_true rfl) dL_law_15 rfl rfl rfl (fun q2 => ?_)
  refine q_astore_n (lv' := [(3, .ref q2), (2, .ref q1), (1, .ref (a 30)), (0, .ref sb)]) (pc2 := 18) C dL_law_17 rfl (by decide) rfl rfl ?_
  refine q_bipush (v := nI 40) (pc2 := 20) C dL_law_18 (by decide) rfl ?_
  refine q_newa (atype := .int) (ty := .int) (n := nI 40) (pc2 := 22) (N' := 40) (x := (40, .inl (fun _ => 0))) (c2 := 29) (s2 := 356) C hAr rfl 0 rfl ra_int (fun _ => rfl) (by decide) (by decide) (Nat.le_of_ble_eq_true rfl) (Nat.le_of_ble_eq_true rfl) (Nat.le_of_ble_eq_true rfl) dL_law_20 rfl rfl rfl (fun q3 => ?_)
  refine q_astore (lv' := [(4, .ref q3), (3, .ref q2), (2, .ref q1), (1, .ref (a 30)), (0, .ref sb)]) (pc2 := 24) C dL_law_22 (by decide) rfl rfl ?_
  refine q_bipush (v := nI 12) (pc2 := 26) C dL_law_24 (by decide) rfl ?_
  refine q_newa (atype := .int) (ty := .int) (n := nI 12) (pc2 := 28) (N' := 12) (x := (12, .inl (fun _ => 0))) (c2 := 30) (s2 := 368) C hAr rfl 0 rfl ra_int (fun _ => rfl) (by decide) (by decide) (Nat.le_of_ble_eq_true rfl) (Nat.le_of_ble_eq_true rfl) (Nat.le_of_ble_eq_true rfl) dL_law_26 rfl rfl rfl (fun q4 => ?_)
  refine q_astore (lv' := [(5, .ref q4), (4, .ref q3), (3, .ref q2), (2, .ref q1), (1, .ref (a 30)), (0, .ref sb)]) (pc2 := 30) C dL_law_28 (by decide) rfl rfl ?_
  refine q_bipush (v := nI 20) (pc2 := 32) C dL_law_30 (by decide) rfl ?_
  refine q_newa (atype := .int) (ty := .int) (n := nI 20) (pc2 := 34) (N' := 20) (x := (20, .inl (fun _ => 0))) (c2 := 31) (s2 := 388) C hAr rfl 0 rfl ra_int (fun _ => rfl) (by decide) (by decide) (Nat.le_of_ble_eq_true rfl) (Nat.le_of_ble_eq_true rfl) (Nat.le_of_ble_eq_true rfl) dL_law_32 rfl rfl rfl (fun q5 => ?_)
  refine q_astore (lv' := [(6, .ref q5), (5, .ref q4), (4, .ref q3), (3, .ref q2), (2, .ref q1), (1, .ref (a 30)), (0, .ref sb)]) (pc2 := 36) C dL_law_34 (by decide) rfl rfl ?_
  refine q_bipush (v := nI 32) (pc2 := 38) C dL_law_36 (by decide) rfl ?_
  refine q_newa (atype := .int) (ty := .int) (n := nI 32) (pc2 := 40) (N' := 32) (x := (32, .inl (fun _ => 0))) (c2 := 32) (s2 := 420) C hAr rfl 0 rfl ra_int (fun _ => rfl) (by decide) (by decide) (Nat.le_of_ble_eq_true rfl) (Nat.le_of_ble_eq_true rfl) (Nat.le_of_ble_eq_true rfl) dL_law_38 rfl rfl rfl (fun q6 => ?_)
  refine q_astore (lv' := [(7, .ref q6), (6, .ref q5), (5, .ref q4), (4, .ref q3), (3, .ref q2), (2, .ref q1), (1, .ref (a 30)), (0, .ref sb)]) (pc2 := 42) C dL_law_40 (by decide) rfl rfl ?_
  refine q_eqw (ws' := wT ct (adL a q1 q2 q3 q4 q5 q6) x00 (fun _ => 0) (fun _ => 0) (fun _ => 0) (fun _ => 0) (fun _ => 0) (fun _ => 0)) (adL_w ct a q1 q2 q3 q4 q5 q6 x00 (fun _ => 0) (fun _ => 0) (fun _ => 0) (fun _ => 0) (fun _ => 0) (fun _ => 0)) ?_
  refine q_eql (lv' := [(7, .ref ((adL a q1 q2 q3 q4 q5 q6) 45)), (6, .ref ((adL a q1 q2 q3 q4 q5 q6) 44)), (5, .ref ((adL a q1 q2 q3 q4 q5 q6) 43)), (4, .ref ((adL a q1 q2 q3 q4 q5 q6) 42)), (3, .ref ((adL a q1 q2 q3 q4 q5 q6) 41)), (2, .ref ((adL a q1 q2 q3 q4 q5 q6) 40)), (1, .ref ((adL a q1 q2 q3 q4 q5 q6) 30)), (0, .ref sb)]) rfl ?_
  generalize (adL a q1 q2 q3 q4 q5 q6) = a9
  refine q_iconst (v := nI 0) (pc2 := 43) C dL_law_42 (by decide) rfl ?_
  refine q_istore (lv' := [(8, .int (nI 0)), (7, .ref (a9 45)), (6, .ref (a9 44)), (5, .ref (a9 43)), (4, .ref (a9 42)), (3, .ref (a9 41)), (2, .ref (a9 40)), (1, .ref (a9 30)), (0, .ref sb)]) (pc2 := 45) C dL_law_43 (by decide) rfl rfl ?_
  refine q_eqw (ws' := (wT ct a9 x00 (fun _ => 0) (fun _ => 0) (fun _ => 0) (fun _ => 0) (fun k5 => if k5 < 0 then (-1 : Int32) else 0) (fun _ => 0))) (congrArg (fun z9 => wT ct a9 x00 (fun _ => 0) (fun _ => 0) (fun _ => 0) (fun _ => 0) z9 (fun _ => 0)) ((funext (fun k5 => (if_neg (Nat.not_lt_zero k5)).symm) : (fun _ : Nat => (0 : Int32)) = (fun k5 => if k5 < 0 then (-1 : Int32) else 0)))) ?_
  refine (lp_up (P := fun i6 => Cf p l e room_1 s m args below meth c D A 13 32 420 Q 45 [(8, .int (nI i6)), (7, .ref (a9 45)), (6, .ref (a9 44)), (5, .ref (a9 43)), (4, .ref (a9 42)), (3, .ref (a9 41)), (2, .ref (a9 40)), (1, .ref (a9 30)), (0, .ref sb)] [] (wT ct a9 x00 (fun _ => 0) (fun _ => 0) (fun _ => 0) (fun _ => 0) (fun k5 => if k5 < i6 then (-1 : Int32) else 0) (fun _ => 0))) 20 (fun i6 hi6 ihi6 => ?_) ?_ : Cf p l e room_1 s m args below meth c D A 13 32 420 Q 45 [(8, .int (nI 0)), (7, .ref (a9 45)), (6, .ref (a9 44)), (5, .ref (a9 43)), (4, .ref (a9 42)), (3, .ref (a9 41)), (2, .ref (a9 40)), (1, .ref (a9 30)), (0, .ref sb)] [] (wT ct a9 x00 (fun _ => 0) (fun _ => 0) (fun _ => 0) (fun _ => 0) (fun k5 => if k5 < 0 then (-1 : Int32) else 0) (fun _ => 0)))
  · skip
    refine q_iload (pc2 := 47) C 0 dL_law_45 rfl rfl ?_
    refine q_bipush (v := nI 20) (pc2 := 49) C dL_law_47 (by decide) rfl ?_
    refine q_icmp_ge (tgt := 64) (pc2 := 52) C dL_law_49 (by decide) rfl (fun h9 => absurd h9 (nI_ge (a := i6) (b := 20) (by omega) (by omega))) (fun _ => ?_)
    refine q_aload (pc2 := 54) C 2 dL_law_52 rfl rfl ?_
    refine q_iload (pc2 := 56) C 0 dL_law_54 rfl rfl ?_
    refine q_iconst (v := (-1)) (pc2 := 57) C dL_law_56 (by decide) rfl ?_
    refine q_iast (q0 := 30) (f := (fun k5 => if k5 < i6 then (-1 : Int32) else 0)) (ws' := (wT ct a9 x00 (fun _ => 0) (fun _ => 0) (fun _ => 0) (fun _ => 0) (upd (fun k5 => if k5 < i6 then (-1 : Int32) else 0) i6 (-1)) (fun _ => 0))) (pc2 := 58) C i6 (wT_g4 ct a9 x00 (fun _ => 0) (fun _ => 0) (fun _ => 0) (fun _ => 0) (fun k5 => if k5 < i6 then (-1 : Int32) else 0) (fun _ => 0)) rfl (rfl) (by omega) (by decide) (wT_a4 ct a9 x00 (fun _ => 0) (fun _ => 0) (fun _ => 0) (fun _ => 0) (fun k5 => if k5 < i6 then (-1 : Int32) else 0) (fun _ => 0) (upd (fun k5 => if k5 < i6 then (-1 : Int32) else 0) i6 (-1))) dL_law_57 rfl ?_
    refine q_iinc (v := nI (i6 + 1)) (lv' := [(8, .int (nI (i6 + 1))), (7, .ref (a9 45)), (6, .ref (a9 44)), (5, .ref (a9 43)), (4, .ref (a9 42)), (3, .ref (a9 41)), (2, .ref (a9 40)), (1, .ref (a9 30)), (0, .ref sb)]) (pc2 := 61) C 0 dL_law_58 rfl (show nI i6 + Int32.ofInt 1 = nI (i6 + 1) by rw [show Int32.ofInt 1 = nI 1 from by decide]; exact nI_add i6 1) (by decide) rfl rfl ?_
    refine q_goto (pc2 := 45) C dL_law_61 (by decide) ?_
    refine q_eqw (ws' := (wT ct a9 x00 (fun _ => 0) (fun _ => 0) (fun _ => 0) (fun _ => 0) (fun k5 => if k5 < (i6 + 1) then (-1 : Int32) else 0) (fun _ => 0))) (congrArg (fun z9 => wT ct a9 x00 (fun _ => 0) (fun _ => 0) (fun _ => 0) (fun _ => 0) z9 (fun _ => 0)) (fillc_lt (-1) (fun _ => 0) i6)) ?_
    exact ihi6
  · skip
    refine q_iload (pc2 := 47) C 0 dL_law_45 rfl rfl ?_
    refine q_bipush (v := nI 20) (pc2 := 49) C dL_law_47 (by decide) rfl ?_
    refine q_icmp_ge (tgt := 64) (pc2 := 52) C dL_law_49 (by decide) rfl (fun _ => ?_) (fun h9 => absurd (nI_le (a := 20) (b := 20) (by omega) (by omega)) h9)
    refine q_iconst (v := nI 0) (pc2 := 65) C dL_law_64 (by decide) rfl ?_
    refine q_istore (lv' := [(8, .int (nI 0)), (7, .ref (a9 45)), (6, .ref (a9 44)), (5, .ref (a9 43)), (4, .ref (a9 42)), (3, .ref (a9 41)), (2, .ref (a9 40)), (1, .ref (a9 30)), (0, .ref sb)]) (pc2 := 67) C dL_law_65 (by decide) rfl rfl ?_
    exact lw_loop l hl C hX hbl hbA hL kend 100 0 x00 (fun _ => 0) (fun _ => 0) (fun _ => 0) (fun _ => 0) fn00 (fun _ => 0) rfl ⟨0, 0, 0, 0, 0, (fun _ => 0), (fun _ => 0), (fun _ => 0), (fun _ => 0), (fun _ => 0), Nat.zero_le _, RR_0⟩
