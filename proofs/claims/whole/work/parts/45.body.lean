/-! the law's start: both objects, the out place, then the loop -/
set_option maxHeartbeats 4000000 in
set_option maxRecDepth 100000 in
theorem lw_body (l : Launch) (hl : l.stackTraces = false) {p : Program} {e : Env} {s : State} {m : MethodId} {args : Array Value} {below : List Frame} {meth : Method} {c : Code} {D : va_G} {ct : Nat → ClassId} {A : Nat → Prop} {Q : State → Prop} (C : Cx p s m args c meth cL_law 7 (some .boolean) wsL_law RL D ct A) {sb L : Nat} {xs : Nat → Int32} (hX : va_X sb L xs s s.heap) (hbl : sb < s.heap.size) (hbA : ¬ A sb) (hL : L ≤ 2048)
    (kend : ∀ (cells slots : Nat) (lv : List (Nat × Value)) (ws : va_W), cells ≤ 1088 → slots ≤ 8873 → Cf p l e room_1 s m args below meth c D A 7 cells slots Q 1479 lv [] ws) : Cf p l e room_1 s m args below meth c D A 7 0 0 Q 0 [(0, .ref sb)] [] [] := by
  have hT3 : ∀ w ∈ u_ws RX3 TX3 7, w ∈ wsL_law := by decide +kernel
  have hT4 : ∀ w ∈ u_ws RX4 TX4 28, w ∈ wsL_law := by decide +kernel
  refine q_new (pc2 := 3) (ci := 3) (fs := [(.int 0), .null, .null, .null, .null, .null, .null]) (c2 := 1) (s2 := 7) C hT3 tyX3_ok (C.w (.classLink RL 8 RX3) (by decide +kernel)) (C.w (.instantiable RX3 7) (by decide +kernel)) (C.w (.initialized RX3) (by decide +kernel)) rfl (fun j hj => by rcases (show j = 0 ∨ j = 1 ∨ j = 2 ∨ j = 3 ∨ j = 4 ∨ j = 5 ∨ j = 6 by omega) with rfl | rfl | rfl | rfl | rfl | rfl | rfl <;> rfl) (Nat.le_of_ble_eq_true rfl) (Nat.le_of_ble_eq_true rfl) dL_law_0 rfl rfl rfl (fun q0 => ?_)
  refine q_eqw (ws' := [(q0, .inr (3, [(.int 0), .null, .null, .null, .null, .null, .null]))]) rfl ?_
  refine q_dup (pc2 := 4) C dL_law_3 rfl rfl ?_
  refine q_cI (pc2 := 7) (st := [.ref q0]) (c2 := 26) (s2 := 300) C (c_X3_init l D ct q0) (cwI 0 C.w gL_law_X3_init rfl rfl rfl (C.w (.initialized RX3) (by decide +kernel)) (C.w (.methodLink RL 80 yX3_init) (by decide +kernel)) (C.w (.instanceMethod yX3_init) (by decide +kernel)) rfl (by decide +kernel) ⟨Nat.le_of_ble_eq_true rfl, Nat.le_of_ble_eq_true rfl⟩) [0] [] rfl rfl (by decide) (by decide) (by decide) dL_law_4 (Nat.le_of_ble_eq_true rfl) ⟨Nat.le_of_ble_eq_true rfl, Nat.le_of_ble_eq_true rfl⟩ rfl rfl rfl (fun r w1 hb => ?_)
  obtain ⟨hr9, a, ha, hw⟩ := hb
  subst ha; subst hw
  refine ⟨hr9, wX ct a x00, [0, 1, 2, 3, 4, 5, 6, 7, 8, 9, 10, 11, 12, 13, 14, 15, 16, 17, 18, 19, 20, 21, 22, 23, 24, 25], rfl, by decide, ?_⟩
  refine q_astore_n (lv' := [(1, .ref (a 30)), (0, .ref sb)]) (pc2 := 8) C dL_law_7 rfl (by decide) rfl rfl ?_
  refine q_new (pc2 := 11) (ci := 4) (fs := [(.int 0), .null, .null, .null, (.int 0), .null, .null, .null, .null, .null, .null, .null, .null, .null, .null, .null, .null, .null, (.int 0), .null, .null, .null, .null, (.int 0), (.int 0), (.int 0), .null, (.int 0)]) (c2 := 27) (s2 := 328) C hT4 tyX4_ok (C.w (.classLink RL 81 RX4) (by decide +kernel)) (C.w (.instantiable RX4 28) (by decide +kernel)) (C.w (.initialized RX4) (by decide +kernel)) rfl (fun j hj => by rcases (show j = 0 ∨ j = 1 ∨ j = 2 ∨ j = 3 ∨ j = 4 ∨ j = 5 ∨ j = 6 ∨ j = 7 ∨ j = 8 ∨ j = 9 ∨ j = 10 ∨ j = 11 ∨ j = 12 ∨ j = 13 ∨ j = 14 ∨ j = 15 ∨ j = 16 ∨ j = 17 ∨ j = 18 ∨ j = 19 ∨ j = 20 ∨ j = 21 ∨ j = 22 ∨ j = 23 ∨ j = 24 ∨ j = 25 ∨ j = 26 ∨ j = 27 by omega) with rfl | rfl | rfl | rfl | rfl | rfl | rfl | rfl | rfl | rfl | rfl | rfl | rfl | rfl | rfl | rfl | rfl | rfl | rfl | rfl | rfl | rfl | rfl | rfl | rfl | rfl | rfl | rfl <;> rfl) (Nat.le_of_ble_eq_true rfl) (Nat.le_of_ble_eq_true rfl) dL_law_8 rfl rfl rfl (fun q1 => ?_)
  refine q_dup (pc2 := 12) C dL_law_11 rfl rfl ?_
  refine q_cI (pc2 := 15) (st := [.ref q1]) (c2 := 48) (s2 := 590) C (c_X4_init l D ct q1) (cwI 0 C.w gL_law_X4_init rfl rfl rfl (C.w (.initialized RX4) (by decide +kernel)) (C.w (.methodLink RL 83 yX4_init) (by decide +kernel)) (C.w (.instanceMethod yX4_init) (by decide +kernel)) rfl (by decide +kernel) ⟨Nat.le_of_ble_eq_true rfl, Nat.le_of_ble_eq_true rfl⟩) [26] [0, 1, 2, 3, 4, 5, 6, 7, 8, 9, 10, 11, 12, 13, 14, 15, 16, 17, 18, 19, 20, 21, 22, 23, 24, 25] rfl rfl (by decide) (by decide) (by decide) dL_law_12 (Nat.le_of_ble_eq_true rfl) ⟨Nat.le_of_ble_eq_true rfl, Nat.le_of_ble_eq_true rfl⟩ rfl rfl rfl (fun r w1 hb => ?_)
  obtain ⟨hr8, b, hb0, hw⟩ := hb
  subst hb0; subst hw
  refine ⟨hr8, wX ct a x00 ++ wM ct b y00, [0, 1, 2, 3, 4, 5, 6, 7, 8, 9, 10, 11, 12, 13, 14, 15, 16, 17, 18, 19, 20, 21, 22, 23, 24, 25, 26, 27, 28, 29, 30, 31, 32, 33, 34, 35, 36, 37, 38, 39, 40, 41, 42, 43, 44, 45, 46, 47], rfl, by decide, ?_⟩
  refine q_astore_n (lv' := [(2, .ref (b 30)), (1, .ref (a 30)), (0, .ref sb)]) (pc2 := 16) C dL_law_15 rfl (by decide) rfl rfl ?_
  refine q_iconst (v := 1) (pc2 := 17) C dL_law_16 (by decide) rfl ?_
  refine q_newa (atype := .long) (ty := .long) (pc2 := 19) (N' := 1) (x := (1, .inr (.inl (fun _ => 0)))) (c2 := 49) (s2 := 591) C (C.w (.arrayClass .long) (by decide +kernel)) rfl 2 rfl ra_long (fun _ => rfl) (by decide) (by decide) (Nat.le_of_ble_eq_true rfl) (Nat.le_of_ble_eq_true rfl) (Nat.le_of_ble_eq_true rfl) dL_law_17 rfl rfl rfl (fun o => ?_)
  refine q_eqw (ws' := wL ct a b o (fun _ => 0) x00 y00) (List.append_assoc _ _ _) ?_
  refine q_astore_n (lv' := [(3, .ref o), (2, .ref (b 30)), (1, .ref (a 30)), (0, .ref sb)]) (pc2 := 20) C dL_law_19 rfl (by decide) rfl rfl ?_
  refine q_iconst (v := nI (4 * 0)) (pc2 := 21) C dL_law_20 (by decide) rfl ?_
  refine q_istore (lv' := [(4, .int (nI (4 * 0))), (3, .ref o), (2, .ref (b 30)), (1, .ref (a 30)), (0, .ref sb)]) (pc2 := 23) C dL_law_21 (by decide) rfl rfl ?_
  exact lw_loop l hl C hX hbl hbA hL kend 513 0 (fun _ => 0) x00 y00 (by omega) (by omega) ⟨0, 0, 0, 0, 0, Nat.zero_le _, RR_0⟩
