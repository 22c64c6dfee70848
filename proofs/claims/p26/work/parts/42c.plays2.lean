/-! plays: go -/
set_option maxHeartbeats 4000000 in
set_option maxRecDepth 100000 in
theorem c_L_plays_2 (l : Launch) (D : va_G) (ct : Nat → ClassId) (hl : l.stackTraces = false) (a : Nat → Nat) (x : Nat → Nat → Int32) (fc fb fp fq fn fl : Nat → Int32) (y : Int32) (M : Nat) (hM4 : M ≤ 10000) (r0 : RE M x fc fb fp fq fn fl) : qM l yL_plays wsL_plays ({ frames := 8, cells := 2, slots := 12, locals := 155 }) D ct [.ref (a 30), .int (nI 2), .int y, .ref (a 40), .ref (a 42), .ref (a 43), .ref (a 44), .ref (a 45)] (wT ct a x fc fb fp fq fn fl) (pR ct a (M + 50)) 2 12 := by
  refine q_start (ret := some .boolean) (lv := [(0, .ref (a 30)), (1, .int (nI 2)), (2, .int y), (3, .ref (a 40)), (4, .ref (a 42)), (5, .ref (a 43)), (6, .ref (a 44)), (7, .ref (a 45))]) (by decide +kernel) rfl (Nat.le_of_ble_eq_true rfl) rfl ?_
  intro p e s m args below meth c A Q C hQ hnm
  obtain ⟨n, h, q, b, t, kb, K, S, F, V, ht, r⟩ := r0
  obtain ⟨rh, rl, rr, rp, rc, rs, hbq⟩ := id r
  obtain ⟨hlt, hx4, hc0, hkbs, hlen⟩ := id rh
  obtain ⟨hn5, hx0, hc3, hlow, hall, hhigh⟩ := id rl
  obtain ⟨hq4, hx16, hc4, hcue, hfd, hnam, hnaz⟩ := id rc
  obtain ⟨hx22, hc5, hx21, hc7, hc6, hx23, hfl, hlvr, hlev⟩ := id rs
  obtain ⟨hkb2, hx5, hck⟩ := hkbs h hlt
  have hK : ∀ k, k < n → fp k = nI (K k) ∧ K k < 4 := fun k hk => ⟨(hlow k hk).2.1, (hlow k hk).1⟩
  have hb4 : b ≤ 4 := by omega
  have htB : t < 2 ^ 29 := by omega
  have hG : ∀ v z : Int32, Cf p l e ({ frames := 8, cells := 2, slots := 12, locals := 155 }) s m args below meth c D A 15 0 0 Q 49 [(9, .int z), (8, .int v), (0, .ref (a 30)), (1, .int (nI 2)), (2, .int y), (3, .ref (a 40)), (4, .ref (a 42)), (5, .ref (a 43)), (6, .ref (a 44)), (7, .ref (a 45))] [] (wT ct a x fc fb fp fq fn fl) := by
    intro v z
    refine q_iload_n (pc2 := 50) C 3 dL_plays_49 rfl rfl rfl ?_
    refine q_if_ne (tgt := 277) (pc2 := 53) C dL_plays_50 (by decide) rfl (fun _ => ?_) (fun h9 => absurd h9 (by decide))
    refine q_iload_n (pc2 := 278) C 3 dL_plays_277 rfl rfl rfl ?_
    refine q_iconst (v := nI 1) (pc2 := 279) C dL_plays_278 (by decide) rfl ?_
    refine q_icmp_ne (tgt := 431) (pc2 := 282) C dL_plays_279 (by decide) rfl (fun _ => ?_) (fun h9 => absurd h9 (by decide))
    refine q_iload_n (pc2 := 432) C 3 dL_plays_431 rfl rfl rfl ?_
    refine q_iconst (v := nI 2) (pc2 := 433) C dL_plays_432 (by decide) rfl ?_
    refine q_icmp_ne (tgt := 491) (pc2 := 436) C dL_plays_433 (by decide) rfl (fun h9 => absurd (by decide) h9) (fun _ => ?_)
    refine q_aload_n (pc2 := 437) C 5 dL_plays_436 rfl rfl rfl ?_
    refine q_iconst (v := nI 5) (pc2 := 438) C dL_plays_437 (by decide) rfl ?_
    refine q_iald (q0 := 26) (f := fc) (pc2 := 439) C 5 (wT_g0 ct a x fc fb fp fq fn fl) rfl (rfl) (by decide) (by decide) dL_plays_438 rfl ?_
    refine q_eqi (y := nI b) (hc5) ?_
    refine q_aload_n (pc2 := 440) C 5 dL_plays_439 rfl rfl rfl ?_
    refine q_iconst (v := nI 4) (pc2 := 441) C dL_plays_440 (by decide) rfl ?_
    refine q_iald (q0 := 26) (f := fc) (pc2 := 442) C 4 (wT_g0 ct a x fc fb fp fq fn fl) rfl (rfl) (by decide) (by decide) dL_plays_441 rfl ?_
    refine q_eqi (y := nI q) (hc4) ?_
    refine q_icmp_ge (tgt := 449) (pc2 := 445) C dL_plays_442 (by decide) rfl (fun c442 => ?_) (fun c442 => ?_)
    · skip
      have k442 : q ≤ b := (nI_leI (a := q) (b := b) (by omega) (by omega)).mp c442
      refine q_iconst (v := nI 0) (pc2 := 450) C dL_plays_449 (by decide) rfl ?_
      refine q_istore (lv' := [(10, .int (nI 0)), (9, .int z), (8, .int v), (0, .ref (a 30)), (1, .int (nI 2)), (2, .int y), (3, .ref (a 40)), (4, .ref (a 42)), (5, .ref (a 43)), (6, .ref (a 44)), (7, .ref (a 45))]) (pc2 := 452) C dL_plays_450 (by decide) rfl rfl ?_
      refine q_aload_n (pc2 := 453) C 6 dL_plays_452 rfl rfl rfl ?_
      refine q_aload (pc2 := 455) C 8 dL_plays_453 rfl rfl ?_
      refine q_aload (pc2 := 457) C 9 dL_plays_455 rfl rfl ?_
      refine q_aload (pc2 := 459) C 10 dL_plays_457 rfl rfl ?_
      refine q_NS_wT (pc2 := 462) (As := [.ref (a 40), .ref (a 43), .ref (a 44), .ref (a 45)]) (st := []) (st2 := [.int (nI ((bgR (fc 7) fq fn (q - b) b fl).1 - b))]) C (c_L_begins l D ct a fc fb fp fq fn fl b q hc5 hc4 hbq hq4) (va_cwS 4 C.w gL_plays_L_begins rfl rfl rfl (by decide +kernel) ⟨Nat.le_of_ble_eq_true rfl, Nat.le_of_ble_eq_true rfl⟩) dL_plays_459 rfl rfl (Nat.le_of_ble_eq_true rfl) ⟨Nat.zero_le _, Nat.zero_le _⟩ rfl rfl ?_
      refine q_pop (pc2 := 463) C dL_plays_462 rfl rfl ?_
      refine q_aload_n (pc2 := 464) C 3 dL_plays_463 rfl rfl rfl ?_
      obtain ⟨S9, r9⟩ := st_go r (by omega)
      have e8 : fixS x (bnS (q - b) b x) = x := by rw [show q - b = 0 by omega]; exact fixS_self x
      rw [e8] at r9
      refine q_Hno_wT (pc2 := 467) (As := [.ref (a 30)]) (st := []) (st2 := [.int (-101)]) (c2 := 1) (s2 := 6) C (c_L_goes l D ct a x _ _ _ (c_X3_go l hl D ct a x q hx16 (by omega) hfd b hx22 hbq)) (if_neg (by omega)) (by decide +kernel) (vx_cwSW 1 C.w gL_plays_L_goes rfl rfl rfl (by decide +kernel) ⟨Nat.le_of_ble_eq_true rfl, Nat.le_of_ble_eq_true rfl⟩) dL_plays_464 rfl rfl (Nat.le_of_ble_eq_true rfl) ⟨Nat.le_of_ble_eq_true rfl, Nat.le_of_ble_eq_true rfl⟩ rfl rfl (hcd1S _) rfl rfl ?_
      refine q_iload (pc2 := 469) C 0 dL_plays_467 rfl rfl ?_
      refine q_if_eq (tgt := 480) (pc2 := 472) C dL_plays_469 (by decide) rfl (fun _ => ?_) (fun h9 => absurd (by decide) h9)
      refine q_bipush (v := (-101)) (pc2 := 482) C dL_plays_480 (by decide) rfl ?_
      refine q_icmp_ne (tgt := 489) (pc2 := 485) C dL_plays_482 (by decide) rfl (fun h9 => absurd (by decide) h9) (fun _ => ?_)
      refine q_iconst (v := nI 1) (pc2 := 486) C dL_plays_485 (by decide) rfl ?_
      refine q_goto (pc2 := 490) C dL_plays_486 (by decide) ?_
      exact q_zret C hQ rfl (rfl) (by omega) (by omega) dL_plays_490 ⟨rfl, _, _, _, _, _, _, _, rfl, ⟨n, h, q, _, t, kb, K, _, F, V, Nat.le_trans ht (Nat.le_add_right M 50), r9⟩⟩
    · skip
      have k442 : b < q := (nI_ltI (a := b) (b := q) (by omega) (by omega)).mp (Int32.not_le.mp c442)
      refine q_iconst (v := nI 1) (pc2 := 446) C dL_plays_445 (by decide) rfl ?_
      refine q_goto (pc2 := 450) C dL_plays_446 (by decide) ?_
      refine q_istore (lv' := [(10, .int (nI 1)), (9, .int z), (8, .int v), (0, .ref (a 30)), (1, .int (nI 2)), (2, .int y), (3, .ref (a 40)), (4, .ref (a 42)), (5, .ref (a 43)), (6, .ref (a 44)), (7, .ref (a 45))]) (pc2 := 452) C dL_plays_450 (by decide) rfl rfl ?_
      refine q_aload_n (pc2 := 453) C 6 dL_plays_452 rfl rfl rfl ?_
      refine q_aload (pc2 := 455) C 8 dL_plays_453 rfl rfl ?_
      refine q_aload (pc2 := 457) C 9 dL_plays_455 rfl rfl ?_
      refine q_aload (pc2 := 459) C 10 dL_plays_457 rfl rfl ?_
      refine q_NS_wT (pc2 := 462) (As := [.ref (a 40), .ref (a 43), .ref (a 44), .ref (a 45)]) (st := []) (st2 := [.int (nI ((bgR (fc 7) fq fn (q - b) b fl).1 - b))]) C (c_L_begins l D ct a fc fb fp fq fn fl b q hc5 hc4 hbq hq4) (va_cwS 4 C.w gL_plays_L_begins rfl rfl rfl (by decide +kernel) ⟨Nat.le_of_ble_eq_true rfl, Nat.le_of_ble_eq_true rfl⟩) dL_plays_459 rfl rfl (Nat.le_of_ble_eq_true rfl) ⟨Nat.zero_le _, Nat.zero_le _⟩ rfl rfl ?_
      refine q_pop (pc2 := 463) C dL_plays_462 rfl rfl ?_
      refine q_aload_n (pc2 := 464) C 3 dL_plays_463 rfl rfl rfl ?_
      obtain ⟨S9, r9⟩ := st_go r (by omega)
      refine q_Hok_wT (pc2 := 467) (As := [.ref (a 30)]) (st := []) (st2 := [.int (bnS (q - b) b x 22 0)]) (x' := (fixS x (bnS (q - b) b x))) C (c_L_goes l D ct a x _ _ _ (c_X3_go l hl D ct a x q hx16 (by omega) hfd b hx22 hbq)) (if_pos (by omega)) (vx_cwSW 1 C.w gL_plays_L_goes rfl rfl rfl (by decide +kernel) ⟨Nat.le_of_ble_eq_true rfl, Nat.le_of_ble_eq_true rfl⟩) dL_plays_464 rfl rfl (Nat.le_of_ble_eq_true rfl) ⟨Nat.zero_le _, Nat.zero_le _⟩ rfl rfl ?_
      refine q_iload (pc2 := 469) C 0 dL_plays_467 rfl rfl ?_
      refine q_if_eq (tgt := 480) (pc2 := 472) C dL_plays_469 (by decide) rfl (fun h9 => absurd h9 (by decide)) (fun _ => ?_)
      refine q_aload_n (pc2 := 473) C 6 dL_plays_472 rfl rfl rfl ?_
      refine q_iconst (v := nI 5) (pc2 := 474) C dL_plays_473 (by decide) rfl ?_
      refine q_iald (q0 := 26) (f := (fcR fc (fc 7) b (bgR (fc 7) fq fn (q - b) b fl).1)) (pc2 := 475) C 5 (wT_g0 ct a (fixS x (bnS (q - b) b x)) (fcR fc (fc 7) b (bgR (fc 7) fq fn (q - b) b fl).1) fb fp fq fn (bgR (fc 7) fq fn (q - b) b fl).2) rfl (rfl) (by decide) (by decide) dL_plays_474 rfl ?_
      refine q_eqi (y := nI ((bgR (fc 7) fq fn (q - b) b fl).1)) (fcR_5) ?_
      refine q_iconst (v := nI 1) (pc2 := 476) C dL_plays_475 (by decide) rfl ?_
      refine q_isub (v := (nI (bgR (fc 7) fq fn (q - b) b fl).1 - 1)) (pc2 := 477) C dL_plays_476 (rfl) rfl ?_
      refine q_goto (pc2 := 482) C dL_plays_477 (by decide) ?_
      refine q_icmp_ne (tgt := 489) (pc2 := 485) C dL_plays_482 (by decide) rfl (fun h9 => absurd (by have e9 := r9.2.2.2.2.2.1.1; rw [fixS_eq] at e9; rw [← e9, Int32.add_sub_cancel]) h9) (fun _ => ?_)
      refine q_iconst (v := nI 1) (pc2 := 486) C dL_plays_485 (by decide) rfl ?_
      refine q_goto (pc2 := 490) C dL_plays_486 (by decide) ?_
      exact q_zret C hQ rfl (rfl) (Nat.zero_le _) (Nat.zero_le _) dL_plays_490 ⟨rfl, _, _, _, _, _, _, _, rfl, ⟨n, h, q, _, t, kb, K, _, F, V, Nat.le_trans ht (Nat.le_add_right M 50), r9⟩⟩
  refine q_iload_n (pc2 := 1) C 2 dL_plays_0 rfl rfl rfl ?_
  refine q_aload_n (pc2 := 2) C 3 dL_plays_1 rfl rfl rfl ?_
  refine q_iconst (v := nI 3) (pc2 := 3) C dL_plays_2 (by decide) rfl ?_
  refine q_iald (q0 := 26) (f := fc) (pc2 := 4) C 3 (wT_g0 ct a x fc fb fp fq fn fl) rfl (rfl) (by decide) (by decide) dL_plays_3 rfl ?_
  refine q_eqi (y := nI n) (hc3) ?_
  refine q_iconst (v := nI 1) (pc2 := 5) C dL_plays_4 (by decide) rfl ?_
  refine q_iadd (v := nI (n + 1)) (pc2 := 6) C dL_plays_5 (nI_add n 1) rfl ?_
  refine q_some (pc2 := 9) C (v := y) (n + 1) (by omega) (by omega) (va_cwS 2 C.w gL_plays_L_some rfl rfl rfl (by decide +kernel) ⟨Nat.le_of_ble_eq_true rfl, Nat.le_of_ble_eq_true rfl⟩) dL_plays_6 rfl ⟨Nat.le_of_ble_eq_true rfl, Nat.le_of_ble_eq_true rfl⟩ (Nat.le_of_ble_eq_true rfl) (fun m6 hm6 => ?_)
  have hj26 : ∀ e1 : Nat, (e1 ≤ 1) → Cf p l e ({ frames := 8, cells := 2, slots := 12, locals := 155 }) s m args below meth c D A 15 0 0 Q 26 [(0, .ref (a 30)), (1, .int (nI 2)), (2, .int y), (3, .ref (a 40)), (4, .ref (a 42)), (5, .ref (a 43)), (6, .ref (a 44)), (7, .ref (a 45))] [.int (nI e1), .int (nI m6)] (wT ct a x fc fb fp fq fn fl) := by
    intro e1 he1
    rcases pick_lamp hn5 hm6 he1 with ⟨i, hi, ei⟩ | hv
    · skip
      refine q_isub (v := nI i) (pc2 := 27) C dL_plays_26 (ei) rfl ?_
      refine q_istore (lv' := [(8, .int (nI i)), (0, .ref (a 30)), (1, .int (nI 2)), (2, .int y), (3, .ref (a 40)), (4, .ref (a 42)), (5, .ref (a 43)), (6, .ref (a 44)), (7, .ref (a 45))]) (pc2 := 29) C dL_plays_27 (by decide) rfl rfl ?_
      refine q_iload (pc2 := 31) C 0 dL_plays_29 rfl rfl ?_
      refine q_if_lt (tgt := 46) (pc2 := 34) C dL_plays_31 (by decide) rfl (fun h9 => absurd h9 (nI_nlt (a := i) (b := 0) (by omega) (by omega))) (fun _ => ?_)
      refine q_iload (pc2 := 36) C 0 dL_plays_34 rfl rfl ?_
      refine q_aload_n (pc2 := 37) C 4 dL_plays_36 rfl rfl rfl ?_
      refine q_iconst (v := nI 3) (pc2 := 38) C dL_plays_37 (by decide) rfl ?_
      refine q_iald (q0 := 26) (f := fc) (pc2 := 39) C 3 (wT_g0 ct a x fc fb fp fq fn fl) rfl (rfl) (by decide) (by decide) dL_plays_38 rfl ?_
      refine q_eqi (y := nI n) (hc3) ?_
      refine q_icmp_ge (tgt := 46) (pc2 := 42) C dL_plays_39 (by decide) rfl (fun h9 => absurd h9 (nI_ge (a := i) (b := n) (by omega) (by omega))) (fun _ => ?_)
      refine q_iconst (v := nI 1) (pc2 := 43) C dL_plays_42 (by decide) rfl ?_
      refine q_goto (pc2 := 47) C dL_plays_43 (by decide) ?_
      refine q_istore (lv' := [(9, .int (nI 1)), (8, .int (nI i)), (0, .ref (a 30)), (1, .int (nI 2)), (2, .int y), (3, .ref (a 40)), (4, .ref (a 42)), (5, .ref (a 43)), (6, .ref (a 44)), (7, .ref (a 45))]) (pc2 := 49) C dL_plays_47 (by decide) rfl rfl ?_
      exact hG _ _
    · skip
      refine q_isub (v := (nI m6 - nI e1)) (pc2 := 27) C dL_plays_26 (rfl) rfl ?_
      refine q_istore (lv' := [(8, .int (nI m6 - nI e1)), (0, .ref (a 30)), (1, .int (nI 2)), (2, .int y), (3, .ref (a 40)), (4, .ref (a 42)), (5, .ref (a 43)), (6, .ref (a 44)), (7, .ref (a 45))]) (pc2 := 29) C dL_plays_27 (by decide) rfl rfl ?_
      refine q_iload (pc2 := 31) C 0 dL_plays_29 rfl rfl ?_
      refine q_if_lt (tgt := 46) (pc2 := 34) C dL_plays_31 (by decide) rfl (fun c31 => ?_) (fun c31 => ?_)
      · skip
        refine q_iconst (v := nI 0) (pc2 := 47) C dL_plays_46 (by decide) rfl ?_
        refine q_istore (lv' := [(9, .int (nI 0)), (8, .int (nI m6 - nI e1)), (0, .ref (a 30)), (1, .int (nI 2)), (2, .int y), (3, .ref (a 40)), (4, .ref (a 42)), (5, .ref (a 43)), (6, .ref (a 44)), (7, .ref (a 45))]) (pc2 := 49) C dL_plays_47 (by decide) rfl rfl ?_
        exact hG _ _
      · skip
        refine q_iload (pc2 := 36) C 0 dL_plays_34 rfl rfl ?_
        refine q_aload_n (pc2 := 37) C 4 dL_plays_36 rfl rfl rfl ?_
        refine q_iconst (v := nI 3) (pc2 := 38) C dL_plays_37 (by decide) rfl ?_
        refine q_iald (q0 := 26) (f := fc) (pc2 := 39) C 3 (wT_g0 ct a x fc fb fp fq fn fl) rfl (rfl) (by decide) (by decide) dL_plays_38 rfl ?_
        refine q_eqi (y := nI n) (hc3) ?_
        refine q_icmp_ge (tgt := 46) (pc2 := 42) C dL_plays_39 (by decide) rfl (fun _ => ?_) (fun h9 => absurd (Int32.not_lt.mp (fun z9 => hv ⟨Int32.not_lt.mp c31, z9⟩)) h9)
        refine q_iconst (v := nI 0) (pc2 := 47) C dL_plays_46 (by decide) rfl ?_
        refine q_istore (lv' := [(9, .int (nI 0)), (8, .int (nI m6 - nI e1)), (0, .ref (a 30)), (1, .int (nI 2)), (2, .int y), (3, .ref (a 40)), (4, .ref (a 42)), (5, .ref (a 43)), (6, .ref (a 44)), (7, .ref (a 45))]) (pc2 := 49) C dL_plays_47 (by decide) rfl rfl ?_
        exact hG _ _
  refine q_iload_n (pc2 := 10) C 2 dL_plays_9 rfl rfl rfl ?_
  refine q_bipush (v := nI 11) (pc2 := 12) C dL_plays_10 (by decide) rfl ?_
  refine q_ishr (v := (y >>> (nI 11 &&& 31))) (pc2 := 13) C dL_plays_12 (rfl) rfl ?_
  refine q_bipush (v := nI 19) (pc2 := 15) C dL_plays_13 (by decide) rfl ?_
  refine q_some (pc2 := 18) C (v := (y >>> (nI 11 &&& 31))) 19 (by omega) (by omega) (va_cwS 2 C.w gL_plays_L_some rfl rfl rfl (by decide +kernel) ⟨Nat.le_of_ble_eq_true rfl, Nat.le_of_ble_eq_true rfl⟩) dL_plays_15 rfl ⟨Nat.le_of_ble_eq_true rfl, Nat.le_of_ble_eq_true rfl⟩ (Nat.le_of_ble_eq_true rfl) (fun m15 hm15 => ?_)
  refine q_if_ne (tgt := 25) (pc2 := 21) C dL_plays_18 (by decide) rfl (fun c18 => ?_) (fun c18 => ?_)
  · skip
    have k18 : m15 ≠ 0 := fun z => c18 ((nI_eq (a := m15) (b := 0) (by omega) (by omega)).mpr z)
    refine q_iconst (v := nI 0) (pc2 := 26) C dL_plays_25 (by decide) rfl ?_
    exact hj26 0 (by omega)
  · skip
    have k18 : m15 = 0 := (nI_eq (a := m15) (b := 0) (by omega) (by omega)).mp (c18)
    refine q_iconst (v := nI 1) (pc2 := 22) C dL_plays_21 (by decide) rfl ?_
    refine q_goto (pc2 := 26) C dL_plays_22 (by decide) ?_
    exact hj26 1 (by omega)

