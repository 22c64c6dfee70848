/-! rigs: a place -/
set_option maxHeartbeats 4000000 in
set_option maxRecDepth 100000 in
theorem c_L_rigs_2 (l : Launch) (D : va_G) (ct : Nat → ClassId) (hl : l.stackTraces = false) (a : Nat → Nat) (x : Nat → Nat → Int32) (fc fb fp fq fn fl : Nat → Int32) (y : Int32) (M : Nat) (r0 : RE M x fc fb fp fq fn fl) : qM l yL_rigs wsL_rigs ({ frames := 9, cells := 2, slots := 12, locals := 160 }) D ct [.ref (a 30), .int (nI 2), .int y, .ref (a 40), .ref (a 41), .ref (a 42)] (wT ct a x fc fb fp fq fn fl) (pR ct a (M + 50)) 2 12 := by
  refine q_start (ret := some .boolean) (lv := [(0, .ref (a 30)), (1, .int (nI 2)), (2, .int y), (3, .ref (a 40)), (4, .ref (a 41)), (5, .ref (a 42))]) (by decide +kernel) rfl (Nat.le_of_ble_eq_true rfl) rfl ?_
  intro p e s m args below meth c A Q C hQ hnm
  obtain ⟨n, h, q, b, t, kb, K, S, F, V, ht, r⟩ := r0
  obtain ⟨rh, rl, rr, rp, rc, rs, hbq⟩ := id r
  obtain ⟨hlt, hx4, hc0, hkbs, hlen⟩ := id rh
  obtain ⟨hn5, hx0, hc3, hlow, hall, hhigh⟩ := id rl
  obtain ⟨hq4, hx16, hc4, hcue, hfd, hnam, hnaz⟩ := id rc
  obtain ⟨hx22, hc5, hx21, hc7, hc6, hx23, hfl, hlvr, hlev⟩ := id rs
  obtain ⟨hkb2, hx5, hck⟩ := hkbs h hlt
  have hK : ∀ k, k < n → fp k = nI (K k) ∧ K k < 4 := fun k hk => ⟨(hlow k hk).2.1, (hlow k hk).1⟩
  have hb4 : b ≤ 4 := by omega
  have hA : ∀ i, i < n → Cf p l e ({ frames := 9, cells := 2, slots := 12, locals := 160 }) s m args below meth c D A 14 0 0 Q 49 [(7, .int (nI 1)), (6, .int (nI i)), (0, .ref (a 30)), (1, .int (nI 2)), (2, .int y), (3, .ref (a 40)), (4, .ref (a 41)), (5, .ref (a 42))] [] (wT ct a x fc fb fp fq fn fl) := by
    intro i hi
    refine q_iload_n (pc2 := 50) C 3 dL_rigs_49 rfl rfl rfl ?_
    refine q_if_ne (tgt := 267) (pc2 := 53) C dL_rigs_50 (by decide) rfl (fun _ => ?_) (fun h9 => absurd h9 (by decide))
    refine q_iload_n (pc2 := 268) C 3 dL_rigs_267 rfl rfl rfl ?_
    refine q_iconst (v := nI 1) (pc2 := 269) C dL_rigs_268 (by decide) rfl ?_
    refine q_icmp_ne (tgt := 448) (pc2 := 272) C dL_rigs_269 (by decide) rfl (fun _ => ?_) (fun h9 => absurd h9 (by decide))
    refine q_iload_n (pc2 := 449) C 3 dL_rigs_448 rfl rfl rfl ?_
    refine q_iconst (v := nI 2) (pc2 := 450) C dL_rigs_449 (by decide) rfl ?_
    refine q_icmp_ne (tgt := 628) (pc2 := 453) C dL_rigs_450 (by decide) rfl (fun h9 => absurd (by decide) h9) (fun _ => ?_)
    refine q_iload_n (pc2 := 454) C 4 dL_rigs_453 rfl rfl rfl ?_
    refine q_iconst (v := nI 3) (pc2 := 455) C dL_rigs_454 (by decide) rfl ?_
    refine q_ishr (v := (y >>> (nI 3 &&& 31))) (pc2 := 456) C dL_rigs_455 (rfl) rfl ?_
    refine q_iconst (v := nI 3) (pc2 := 457) C dL_rigs_456 (by decide) rfl ?_
    refine q_some (pc2 := 460) C (v := (y >>> (nI 3 &&& 31))) 3 (by omega) (by omega) (va_cwS 2 C.w gL_rigs_L_some rfl rfl rfl (by decide +kernel) ⟨Nat.le_of_ble_eq_true rfl, Nat.le_of_ble_eq_true rfl⟩) dL_rigs_457 rfl ⟨Nat.le_of_ble_eq_true rfl, Nat.le_of_ble_eq_true rfl⟩ (Nat.le_of_ble_eq_true rfl) (fun m457 hm457 => ?_)
    refine q_istore (lv' := [(8, .int (nI m457)), (7, .int (nI 1)), (6, .int (nI i)), (0, .ref (a 30)), (1, .int (nI 2)), (2, .int y), (3, .ref (a 40)), (4, .ref (a 41)), (5, .ref (a 42))]) (pc2 := 462) C dL_rigs_460 (by decide) rfl rfl ?_
    refine q_iload_n (pc2 := 463) C 5 dL_rigs_462 rfl rfl rfl ?_
    refine q_iconst (v := nI 5) (pc2 := 464) C dL_rigs_463 (by decide) rfl ?_
    refine q_ishr (v := (y >>> (nI 5 &&& 31))) (pc2 := 465) C dL_rigs_464 (rfl) rfl ?_
    refine q_bipush (v := nI 18) (pc2 := 467) C dL_rigs_465 (by decide) rfl ?_
    refine q_some (pc2 := 470) C (v := (y >>> (nI 5 &&& 31))) 18 (by omega) (by omega) (va_cwS 2 C.w gL_rigs_L_some rfl rfl rfl (by decide +kernel) ⟨Nat.le_of_ble_eq_true rfl, Nat.le_of_ble_eq_true rfl⟩) dL_rigs_467 rfl ⟨Nat.le_of_ble_eq_true rfl, Nat.le_of_ble_eq_true rfl⟩ (Nat.le_of_ble_eq_true rfl) (fun m467 hm467 => ?_)
    have hj487 : ∀ e2 : Nat, (e2 ≤ 1) → Cf p l e ({ frames := 9, cells := 2, slots := 12, locals := 160 }) s m args below meth c D A 14 0 0 Q 487 [(8, .int (nI m457)), (7, .int (nI 1)), (6, .int (nI i)), (0, .ref (a 30)), (1, .int (nI 2)), (2, .int y), (3, .ref (a 40)), (4, .ref (a 41)), (5, .ref (a 42))] [.int (nI e2), .int (nI m467)] (wT ct a x fc fb fp fq fn fl) := by
      intro e2 he2
      rcases pick_place hm467 he2 with ⟨v1, hv1, ev⟩ | ev
      · skip
        refine q_isub (v := nI v1) (pc2 := 488) C dL_rigs_487 (ev) rfl ?_
        refine q_istore (lv' := [(9, .int (nI v1)), (8, .int (nI m457)), (7, .int (nI 1)), (6, .int (nI i)), (0, .ref (a 30)), (1, .int (nI 2)), (2, .int y), (3, .ref (a 40)), (4, .ref (a 41)), (5, .ref (a 42))]) (pc2 := 490) C dL_rigs_488 (by decide) rfl rfl ?_
        refine q_iload (pc2 := 492) C 2 dL_rigs_490 rfl rfl ?_
        refine q_if_eq (tgt := 532) (pc2 := 495) C dL_rigs_492 (by decide) rfl (fun h9 => absurd h9 (by decide)) (fun _ => ?_)
        refine q_iload (pc2 := 497) C 1 dL_rigs_495 rfl rfl ?_
        refine q_aload_n (pc2 := 498) C 7 dL_rigs_497 rfl rfl rfl ?_
        refine q_iconst (v := nI 1) (pc2 := 499) C dL_rigs_498 (by decide) rfl ?_
        refine q_aload_n (pc2 := 500) C 7 dL_rigs_499 rfl rfl rfl ?_
        refine q_iconst (v := nI 0) (pc2 := 501) C dL_rigs_500 (by decide) rfl ?_
        refine q_iald (q0 := 26) (f := fc) (pc2 := 502) C 0 (wT_g0 ct a x fc fb fp fq fn fl) rfl (rfl) (by decide) (by decide) dL_rigs_501 rfl ?_
        refine q_eqi (y := nI h) (hc0) ?_
        refine q_iadd (v := nI (1 + h)) (pc2 := 503) C dL_rigs_502 (nI_add 1 h) rfl ?_
        refine q_iald (q0 := 26) (f := fc) (pc2 := 504) C (1 + h) (wT_g0 ct a x fc fb fp fq fn fl) rfl (rfl) (by omega) (by decide) dL_rigs_503 rfl ?_
        refine q_eqi (y := nI (kb h)) (hck) ?_
        refine q_icmp_ge (tgt := 532) (pc2 := 507) C dL_rigs_504 (by decide) rfl (fun c504 => ?_) (fun c504 => ?_)
        · skip
          have k504 : (kb h) ≤ m457 := (nI_leI (a := (kb h)) (b := m457) (by omega) (by omega)).mp c504
          refine q_iconst (v := nI 0) (pc2 := 533) C dL_rigs_532 (by decide) rfl ?_
          refine q_istore (lv' := [(7, .int (nI 0)), (9, .int (nI v1)), (8, .int (nI m457)), (6, .int (nI i)), (0, .ref (a 30)), (1, .int (nI 2)), (2, .int y), (3, .ref (a 40)), (4, .ref (a 41)), (5, .ref (a 42))]) (pc2 := 535) C dL_rigs_533 (by decide) rfl rfl ?_
          refine q_iload (pc2 := 537) C 0 dL_rigs_535 rfl rfl ?_
          refine q_if_ne (tgt := 545) (pc2 := 540) C dL_rigs_537 (by decide) rfl (fun h9 => absurd (by decide) h9) (fun _ => ?_)
          refine q_bipush (v := (-101)) (pc2 := 542) C dL_rigs_540 (by decide) rfl ?_
          refine q_goto (pc2 := 568) C dL_rigs_542 (by decide) ?_
          refine q_istore (lv' := [(10, .int (-101)), (7, .int (nI 0)), (9, .int (nI v1)), (8, .int (nI m457)), (6, .int (nI i)), (0, .ref (a 30)), (1, .int (nI 2)), (2, .int y), (3, .ref (a 40)), (4, .ref (a 41)), (5, .ref (a 42))]) (pc2 := 570) C dL_rigs_568 (by decide) rfl rfl ?_
          refine q_iload (pc2 := 572) C 0 dL_rigs_570 rfl rfl ?_
          refine q_if_ne (tgt := 606) (pc2 := 575) C dL_rigs_572 (by decide) rfl (fun _ => ?_) (fun h9 => absurd h9 (by decide))
          refine q_aload_n (pc2 := 607) C 5 dL_rigs_606 rfl rfl rfl ?_
          refine q_iconst (v := nI 1) (pc2 := 608) C dL_rigs_607 (by decide) rfl ?_
          refine q_iload (pc2 := 610) C 4 dL_rigs_608 rfl rfl ?_
          refine q_iload (pc2 := 612) C 3 dL_rigs_610 rfl rfl ?_
          refine q_iload (pc2 := 614) C 2 dL_rigs_612 rfl rfl ?_
          have hM := c_X3_hang l hl D ct a x n hx0 (by omega) h hx4 hlt (kb h) hx5 (by omega) (nI i) (nI m457) (nI v1)
          rw [hx0, hx5, nI_clamp (show m457 < 2 ^ 31 by omega)] at hM
          rw [nI_clamp (show i < 2 ^ 31 by omega)] at hM
          refine q_Hno_wT (pc2 := 617) (As := [.ref (a 30), .int (nI 1), .int (nI i), .int (nI m457), .int (nI v1)]) (st := []) (st2 := [.int (-101)]) (c2 := 1) (s2 := 6) C (c_L_hangs1 l D ct a x _ (nI i) (nI m457) (nI v1) _ _ hM) (by rw [if_pos (show 0 ≤ nI i ∧ nI i < nI n from ⟨nI_pos' (by omega), nI_lt hi (by omega)⟩), if_neg (fun z : 0 ≤ nI m457 ∧ nI m457 < nI (kb h) => absurd z.2 (nI_nlt (by omega) (by omega)))]) (by decide +kernel) (vx_cwSW 5 C.w gL_rigs_L_hangs rfl rfl rfl (by decide +kernel) ⟨Nat.le_of_ble_eq_true rfl, Nat.le_of_ble_eq_true rfl⟩) dL_rigs_614 rfl rfl (Nat.le_of_ble_eq_true rfl) ⟨Nat.le_of_ble_eq_true rfl, Nat.le_of_ble_eq_true rfl⟩ rfl rfl (hcd3I _) rfl rfl ?_
          refine q_iload (pc2 := 619) C 0 dL_rigs_617 rfl rfl ?_
          refine q_icmp_ne (tgt := 626) (pc2 := 622) C dL_rigs_619 (by decide) rfl (fun h9 => absurd (by decide) h9) (fun _ => ?_)
          refine q_iconst (v := nI 1) (pc2 := 623) C dL_rigs_622 (by decide) rfl ?_
          refine q_goto (pc2 := 627) C dL_rigs_623 (by decide) ?_
          exact q_zret C hQ rfl (rfl) (by omega) (by omega) dL_rigs_627 ⟨rfl, _, _, _, _, _, _, _, rfl, (RE.mono (Nat.le_add_right M 50) ⟨n, h, q, b, t, kb, K, S, F, V, ht, r⟩)⟩
        · skip
          have k504 : m457 < (kb h) := (nI_ltI (a := m457) (b := (kb h)) (by omega) (by omega)).mp (Int32.not_le.mp c504)
          refine q_iload (pc2 := 509) C 0 dL_rigs_507 rfl rfl ?_
          refine q_if_lt (tgt := 532) (pc2 := 512) C dL_rigs_509 (by decide) rfl (fun h9 => absurd h9 (nI_nlt (a := v1) (b := 0) (by omega) (by omega))) (fun _ => ?_)
          refine q_iload (pc2 := 514) C 0 dL_rigs_512 rfl rfl ?_
          refine q_aload (pc2 := 516) C 8 dL_rigs_514 rfl rfl ?_
          refine q_iconst (v := nI 2) (pc2 := 517) C dL_rigs_516 (by decide) rfl ?_
          refine q_aload_n (pc2 := 518) C 7 dL_rigs_517 rfl rfl rfl ?_
          refine q_iconst (v := nI 0) (pc2 := 519) C dL_rigs_518 (by decide) rfl ?_
          refine q_iald (q0 := 26) (f := fc) (pc2 := 520) C 0 (wT_g0 ct a x fc fb fp fq fn fl) rfl (rfl) (by decide) (by decide) dL_rigs_519 rfl ?_
          refine q_eqi (y := nI h) (hc0) ?_
          refine q_imul (v := nI (2 * h)) (pc2 := 521) C dL_rigs_520 (pk_mul 2 h) rfl ?_
          refine q_iload (pc2 := 523) C 1 dL_rigs_521 rfl rfl ?_
          refine q_iadd (v := nI ((2 * h) + m457)) (pc2 := 524) C dL_rigs_523 (nI_add (2 * h) m457) rfl ?_
          refine q_iald (q0 := 27) (f := fb) (pc2 := 525) C ((2 * h) + m457) (wT_g1 ct a x fc fb fp fq fn fl) rfl (rfl) (by omega) (by decide) dL_rigs_524 rfl ?_
          refine q_eqi (y := (fb ((2 * h) + m457))) (rfl) ?_
          refine q_icmp_gt (tgt := 532) (pc2 := 528) C dL_rigs_525 (by decide) rfl (fun c525 => ?_) (fun c525 => ?_)
          · skip
            refine q_iconst (v := nI 0) (pc2 := 533) C dL_rigs_532 (by decide) rfl ?_
            refine q_istore (lv' := [(7, .int (nI 0)), (9, .int (nI v1)), (8, .int (nI m457)), (6, .int (nI i)), (0, .ref (a 30)), (1, .int (nI 2)), (2, .int y), (3, .ref (a 40)), (4, .ref (a 41)), (5, .ref (a 42))]) (pc2 := 535) C dL_rigs_533 (by decide) rfl rfl ?_
            refine q_iload (pc2 := 537) C 0 dL_rigs_535 rfl rfl ?_
            refine q_if_ne (tgt := 545) (pc2 := 540) C dL_rigs_537 (by decide) rfl (fun h9 => absurd (by decide) h9) (fun _ => ?_)
            refine q_bipush (v := (-101)) (pc2 := 542) C dL_rigs_540 (by decide) rfl ?_
            refine q_goto (pc2 := 568) C dL_rigs_542 (by decide) ?_
            refine q_istore (lv' := [(10, .int (-101)), (7, .int (nI 0)), (9, .int (nI v1)), (8, .int (nI m457)), (6, .int (nI i)), (0, .ref (a 30)), (1, .int (nI 2)), (2, .int y), (3, .ref (a 40)), (4, .ref (a 41)), (5, .ref (a 42))]) (pc2 := 570) C dL_rigs_568 (by decide) rfl rfl ?_
            refine q_iload (pc2 := 572) C 0 dL_rigs_570 rfl rfl ?_
            refine q_if_ne (tgt := 606) (pc2 := 575) C dL_rigs_572 (by decide) rfl (fun _ => ?_) (fun h9 => absurd h9 (by decide))
            refine q_aload_n (pc2 := 607) C 5 dL_rigs_606 rfl rfl rfl ?_
            refine q_iconst (v := nI 1) (pc2 := 608) C dL_rigs_607 (by decide) rfl ?_
            refine q_iload (pc2 := 610) C 4 dL_rigs_608 rfl rfl ?_
            refine q_iload (pc2 := 612) C 3 dL_rigs_610 rfl rfl ?_
            refine q_iload (pc2 := 614) C 2 dL_rigs_612 rfl rfl ?_
            have hM := c_X3_hang l hl D ct a x n hx0 (by omega) h hx4 hlt (kb h) hx5 (by omega) (nI i) (nI m457) (nI v1)
            rw [hx0, hx5, nI_clamp (show m457 < 2 ^ 31 by omega)] at hM
            rw [nI_clamp (show i < 2 ^ 31 by omega)] at hM
            refine q_Hno_wT (pc2 := 617) (As := [.ref (a 30), .int (nI 1), .int (nI i), .int (nI m457), .int (nI v1)]) (st := []) (st2 := [.int (-101)]) (c2 := 1) (s2 := 6) C (c_L_hangs1 l D ct a x _ (nI i) (nI m457) (nI v1) _ _ hM) (by rw [if_pos (show 0 ≤ nI i ∧ nI i < nI n from ⟨nI_pos' (by omega), nI_lt hi (by omega)⟩), if_pos (show 0 ≤ nI m457 ∧ nI m457 < nI (kb h) from ⟨nI_pos' (by omega), nI_lt (by omega) (by omega)⟩), if_neg (fun z : plcX x h m457 (nI v1) => absurd ((hlen h hlt m457 (by omega)).1 ▸ z.2) (Int32.not_le.mpr c525))]) (by decide +kernel) (vx_cwSW 5 C.w gL_rigs_L_hangs rfl rfl rfl (by decide +kernel) ⟨Nat.le_of_ble_eq_true rfl, Nat.le_of_ble_eq_true rfl⟩) dL_rigs_614 rfl rfl (Nat.le_of_ble_eq_true rfl) ⟨Nat.le_of_ble_eq_true rfl, Nat.le_of_ble_eq_true rfl⟩ rfl rfl (hcd3I _) rfl rfl ?_
            refine q_iload (pc2 := 619) C 0 dL_rigs_617 rfl rfl ?_
            refine q_icmp_ne (tgt := 626) (pc2 := 622) C dL_rigs_619 (by decide) rfl (fun h9 => absurd (by decide) h9) (fun _ => ?_)
            refine q_iconst (v := nI 1) (pc2 := 623) C dL_rigs_622 (by decide) rfl ?_
            refine q_goto (pc2 := 627) C dL_rigs_623 (by decide) ?_
            exact q_zret C hQ rfl (rfl) (by omega) (by omega) dL_rigs_627 ⟨rfl, _, _, _, _, _, _, _, rfl, (RE.mono (Nat.le_add_right M 50) ⟨n, h, q, b, t, kb, K, S, F, V, ht, r⟩)⟩
          · skip
            refine q_iconst (v := nI 1) (pc2 := 529) C dL_rigs_528 (by decide) rfl ?_
            refine q_goto (pc2 := 533) C dL_rigs_529 (by decide) ?_
            refine q_istore (lv' := [(7, .int (nI 1)), (9, .int (nI v1)), (8, .int (nI m457)), (6, .int (nI i)), (0, .ref (a 30)), (1, .int (nI 2)), (2, .int y), (3, .ref (a 40)), (4, .ref (a 41)), (5, .ref (a 42))]) (pc2 := 535) C dL_rigs_533 (by decide) rfl rfl ?_
            refine q_iload (pc2 := 537) C 0 dL_rigs_535 rfl rfl ?_
            refine q_if_ne (tgt := 545) (pc2 := 540) C dL_rigs_537 (by decide) rfl (fun _ => ?_) (fun h9 => absurd h9 (by decide))
            refine q_aload_n (pc2 := 546) C 7 dL_rigs_545 rfl rfl rfl ?_
            refine q_aload (pc2 := 548) C 8 dL_rigs_546 rfl rfl ?_
            refine q_aload (pc2 := 550) C 9 dL_rigs_548 rfl rfl ?_
            refine q_iload (pc2 := 552) C 3 dL_rigs_550 rfl rfl ?_
            refine q_iload (pc2 := 554) C 2 dL_rigs_552 rfl rfl ?_
            refine q_iload (pc2 := 556) C 1 dL_rigs_554 rfl rfl ?_
            refine q_NS_wT (pc2 := 559) (As := [.ref (a 40), .ref (a 41), .ref (a 42), .int (nI i), .int (nI m457), .int (nI v1)]) (st := []) (st2 := [.int (b2 (fitL fb fp K n h (kb h) i m457 (nI v1) n))]) C (c_L_fits l D ct a fc fb fp fq fn fl n hc3 hn5 K hK h (kb h) hc0 hlt hck hkb2 i m457 hi (by omega) (nI v1)) (va_cwS 6 C.w gL_rigs_L_fits rfl rfl rfl (by decide +kernel) ⟨Nat.le_of_ble_eq_true rfl, Nat.le_of_ble_eq_true rfl⟩) dL_rigs_556 rfl rfl (Nat.le_of_ble_eq_true rfl) ⟨Nat.zero_le _, Nat.zero_le _⟩ rfl rfl ?_
            refine q_if_ne (tgt := 567) (pc2 := 562) C dL_rigs_559 (by decide) rfl (fun c559 => ?_) (fun c559 => ?_)
            · skip
              refine q_iconst (v := nI 0) (pc2 := 568) C dL_rigs_567 (by decide) rfl ?_
              refine q_istore (lv' := [(10, .int (nI 0)), (7, .int (nI 1)), (9, .int (nI v1)), (8, .int (nI m457)), (6, .int (nI i)), (0, .ref (a 30)), (1, .int (nI 2)), (2, .int y), (3, .ref (a 40)), (4, .ref (a 41)), (5, .ref (a 42))]) (pc2 := 570) C dL_rigs_568 (by decide) rfl rfl ?_
              refine q_iload (pc2 := 572) C 0 dL_rigs_570 rfl rfl ?_
              refine q_if_ne (tgt := 606) (pc2 := 575) C dL_rigs_572 (by decide) rfl (fun h9 => absurd (by decide) h9) (fun _ => ?_)
              refine q_aload (pc2 := 577) C 10 dL_rigs_575 rfl rfl ?_
              refine q_bipush (v := nI 10) (pc2 := 579) C dL_rigs_577 (by decide) rfl ?_
              refine q_iload (pc2 := 581) C 4 dL_rigs_579 rfl rfl ?_
              refine q_iadd (v := nI (10 + i)) (pc2 := 582) C dL_rigs_581 (nI_add 10 i) rfl ?_
              refine q_iload (pc2 := 584) C 3 dL_rigs_582 rfl rfl ?_
              refine q_iast (q0 := 28) (f := fp) (ws' := (wT ct a x fc fb (upd fp (10 + i) (nI m457)) fq fn fl)) (pc2 := 585) C (10 + i) (wT_g2 ct a x fc fb fp fq fn fl) rfl (rfl) (by omega) (by decide) (wT_a2 ct a x fc fb fp fq fn fl (upd fp (10 + i) (nI m457))) dL_rigs_584 rfl ?_
              refine q_aload (pc2 := 587) C 10 dL_rigs_585 rfl rfl ?_
              refine q_bipush (v := nI 15) (pc2 := 589) C dL_rigs_587 (by decide) rfl ?_
              refine q_iload (pc2 := 591) C 4 dL_rigs_589 rfl rfl ?_
              refine q_iadd (v := nI (15 + i)) (pc2 := 592) C dL_rigs_591 (nI_add 15 i) rfl ?_
              refine q_iload (pc2 := 594) C 2 dL_rigs_592 rfl rfl ?_
              refine q_iast (q0 := 28) (f := (upd fp (10 + i) (nI m457))) (ws' := (wT ct a x fc fb (upd (upd fp (10 + i) (nI m457)) (15 + i) (nI v1)) fq fn fl)) (pc2 := 595) C (15 + i) (wT_g2 ct a x fc fb (upd fp (10 + i) (nI m457)) fq fn fl) rfl (rfl) (by omega) (by decide) (wT_a2 ct a x fc fb (upd fp (10 + i) (nI m457)) fq fn fl (upd (upd fp (10 + i) (nI m457)) (15 + i) (nI v1))) dL_rigs_594 rfl ?_
              refine q_aload_n (pc2 := 596) C 8 dL_rigs_595 rfl rfl rfl ?_
              refine q_aload (pc2 := 598) C 10 dL_rigs_596 rfl rfl ?_
              refine q_iload (pc2 := 600) C 3 dL_rigs_598 rfl rfl ?_
              refine q_iconst (v := (-1)) (pc2 := 601) C dL_rigs_600 (by decide) rfl ?_
              refine q_NS_wT (pc2 := 604) (As := [.ref (a 40), .ref (a 42), .int (nI m457), .int (-1)]) (st := []) (st2 := [.int (wgL (upd (upd fp (10 + i) (nI m457)) (15 + i) (nI v1)) K (nI m457) (-1) n)]) C (c_L_weight l D ct a fc fb (upd (upd fp (10 + i) (nI m457)) (15 + i) (nI v1)) fq fn fl n hc3 hn5 K (fun k hk => ⟨(upd_n (by omega)).trans ((upd_n (by omega)).trans (hK k hk).1), (hK k hk).2⟩) (nI m457) (-1)) (va_cwS 4 C.w gL_rigs_L_weight rfl rfl rfl (by decide +kernel) ⟨Nat.le_of_ble_eq_true rfl, Nat.le_of_ble_eq_true rfl⟩) dL_rigs_601 rfl rfl (Nat.le_of_ble_eq_true rfl) ⟨Nat.zero_le _, Nat.zero_le _⟩ rfl rfl ?_
              refine q_istore (lv' := [(10, .int (wgL (upd (upd fp (10 + i) (nI m457)) (15 + i) (nI v1)) K (nI m457) (-1) n)), (7, .int (nI 1)), (9, .int (nI v1)), (8, .int (nI m457)), (6, .int (nI i)), (0, .ref (a 30)), (1, .int (nI 2)), (2, .int y), (3, .ref (a 40)), (4, .ref (a 41)), (5, .ref (a 42))]) (pc2 := 606) C dL_rigs_604 (by decide) rfl rfl ?_
              refine q_aload_n (pc2 := 607) C 5 dL_rigs_606 rfl rfl rfl ?_
              refine q_iconst (v := nI 1) (pc2 := 608) C dL_rigs_607 (by decide) rfl ?_
              refine q_iload (pc2 := 610) C 4 dL_rigs_608 rfl rfl ?_
              refine q_iload (pc2 := 612) C 3 dL_rigs_610 rfl rfl ?_
              refine q_iload (pc2 := 614) C 2 dL_rigs_612 rfl rfl ?_
              have hM := c_X3_hang l hl D ct a x n hx0 (by omega) h hx4 hlt (kb h) hx5 (by omega) (nI i) (nI m457) (nI v1)
              rw [hx0, hx5, nI_clamp (show m457 < 2 ^ 31 by omega)] at hM
              rw [nI_clamp (show i < 2 ^ 31 by omega)] at hM
              have hcan := can_eq rh rl rr hi (j := m457) (by omega) (v := nI v1) ⟨by rw [nI_toInt (by omega)]; omega, by rw [nI_toInt (by omega)]; omega⟩
              have hfit := b2_ne.mp c559
              have hc9 := hcan.mpr hfit
              refine q_Hok_wT (pc2 := 617) (As := [.ref (a 30), .int (nI 1), .int (nI i), .int (nI m457), .int (nI v1)]) (st := []) (st2 := [.int (wOnX (set2 (set2 x 9 (upd (x 9) i (nI m457))) 11 (upd (x 11) i (nI v1))) (nI m457))]) (x' := (set2 (set2 x 9 (upd (x 9) i (nI m457))) 11 (upd (x 11) i (nI v1)))) C (c_L_hangs1 l D ct a x _ (nI i) (nI m457) (nI v1) _ _ hM) (by rw [if_pos (show 0 ≤ nI i ∧ nI i < nI n from ⟨nI_pos' (by omega), nI_lt hi (by omega)⟩), if_pos (show 0 ≤ nI m457 ∧ nI m457 < nI (kb h) from ⟨nI_pos' (by omega), nI_lt (by omega) (by omega)⟩), if_pos (show plcX x h m457 (nI v1) from ⟨nI_pos' (by omega), by rw [(hlen h hlt m457 (by omega)).1]; exact Int32.not_lt.mp c525⟩), if_pos hc9.1.2]) (vx_cwSW 5 C.w gL_rigs_L_hangs rfl rfl rfl (by decide +kernel) ⟨Nat.le_of_ble_eq_true rfl, Nat.le_of_ble_eq_true rfl⟩) dL_rigs_614 rfl rfl (Nat.le_of_ble_eq_true rfl) ⟨Nat.zero_le _, Nat.zero_le _⟩ rfl rfl ?_
              refine q_iload (pc2 := 619) C 0 dL_rigs_617 rfl rfl ?_
              refine q_icmp_ne (tgt := 626) (pc2 := 622) C dL_rigs_619 (by decide) rfl (fun h9 => absurd (won_eq (rl_hang rl hi (nI m457) (nI v1)) (nI_m1 (by omega))) h9) (fun _ => ?_)
              refine q_iconst (v := nI 1) (pc2 := 623) C dL_rigs_622 (by decide) rfl ?_
              refine q_goto (pc2 := 627) C dL_rigs_623 (by decide) ?_
              exact q_zret C hQ rfl (rfl) (Nat.zero_le _) (Nat.zero_le _) dL_rigs_627 ⟨rfl, _, _, _, _, _, _, _, rfl, ⟨n, h, q, b, t, kb, K, S, F, V, Nat.le_trans ht (Nat.le_add_right M 50), st_hang r hi (by omega) (by omega) hfit.2⟩⟩
            · skip
              refine q_bipush (v := (-103)) (pc2 := 564) C dL_rigs_562 (by decide) rfl ?_
              refine q_goto (pc2 := 568) C dL_rigs_564 (by decide) ?_
              refine q_istore (lv' := [(10, .int (-103)), (7, .int (nI 1)), (9, .int (nI v1)), (8, .int (nI m457)), (6, .int (nI i)), (0, .ref (a 30)), (1, .int (nI 2)), (2, .int y), (3, .ref (a 40)), (4, .ref (a 41)), (5, .ref (a 42))]) (pc2 := 570) C dL_rigs_568 (by decide) rfl rfl ?_
              refine q_iload (pc2 := 572) C 0 dL_rigs_570 rfl rfl ?_
              refine q_if_ne (tgt := 606) (pc2 := 575) C dL_rigs_572 (by decide) rfl (fun _ => ?_) (fun h9 => absurd h9 (by decide))
              refine q_aload_n (pc2 := 607) C 5 dL_rigs_606 rfl rfl rfl ?_
              refine q_iconst (v := nI 1) (pc2 := 608) C dL_rigs_607 (by decide) rfl ?_
              refine q_iload (pc2 := 610) C 4 dL_rigs_608 rfl rfl ?_
              refine q_iload (pc2 := 612) C 3 dL_rigs_610 rfl rfl ?_
              refine q_iload (pc2 := 614) C 2 dL_rigs_612 rfl rfl ?_
              have hM := c_X3_hang l hl D ct a x n hx0 (by omega) h hx4 hlt (kb h) hx5 (by omega) (nI i) (nI m457) (nI v1)
              rw [hx0, hx5, nI_clamp (show m457 < 2 ^ 31 by omega)] at hM
              rw [nI_clamp (show i < 2 ^ 31 by omega)] at hM
              have hcan := can_eq rh rl rr hi (j := m457) (by omega) (v := nI v1) ⟨by rw [nI_toInt (by omega)]; omega, by rw [nI_toInt (by omega)]; omega⟩
              refine q_Hno_wT (pc2 := 617) (As := [.ref (a 30), .int (nI 1), .int (nI i), .int (nI m457), .int (nI v1)]) (st := []) (st2 := [.int (-103)]) (c2 := 1) (s2 := 6) C (c_L_hangs1 l D ct a x _ (nI i) (nI m457) (nI v1) _ _ hM) (by rw [if_pos (show 0 ≤ nI i ∧ nI i < nI n from ⟨nI_pos' (by omega), nI_lt hi (by omega)⟩), if_pos (show 0 ≤ nI m457 ∧ nI m457 < nI (kb h) from ⟨nI_pos' (by omega), nI_lt (by omega) (by omega)⟩), if_pos (show plcX x h m457 (nI v1) from ⟨nI_pos' (by omega), by rw [(hlen h hlt m457 (by omega)).1]; exact Int32.not_lt.mp c525⟩), if_neg (fun z : bearX x h i m457 ∧ clrX x (nI i) (nI m457) (nI v1) => absurd (hcan.mp ⟨⟨(show plcX x h m457 (nI v1) from ⟨nI_pos' (by omega), by rw [(hlen h hlt m457 (by omega)).1]; exact Int32.not_lt.mp c525⟩), z.1, z.2⟩, by omega⟩) (b2_eq.mp c559))]) (by decide +kernel) (vx_cwSW 5 C.w gL_rigs_L_hangs rfl rfl rfl (by decide +kernel) ⟨Nat.le_of_ble_eq_true rfl, Nat.le_of_ble_eq_true rfl⟩) dL_rigs_614 rfl rfl (Nat.le_of_ble_eq_true rfl) ⟨Nat.le_of_ble_eq_true rfl, Nat.le_of_ble_eq_true rfl⟩ rfl rfl (hcd3S _) rfl rfl ?_
              refine q_iload (pc2 := 619) C 0 dL_rigs_617 rfl rfl ?_
              refine q_icmp_ne (tgt := 626) (pc2 := 622) C dL_rigs_619 (by decide) rfl (fun h9 => absurd (by decide) h9) (fun _ => ?_)
              refine q_iconst (v := nI 1) (pc2 := 623) C dL_rigs_622 (by decide) rfl ?_
              refine q_goto (pc2 := 627) C dL_rigs_623 (by decide) ?_
              exact q_zret C hQ rfl (rfl) (by omega) (by omega) dL_rigs_627 ⟨rfl, _, _, _, _, _, _, _, rfl, (RE.mono (Nat.le_add_right M 50) ⟨n, h, q, b, t, kb, K, S, F, V, ht, r⟩)⟩
      · skip
        refine q_isub (v := (-1)) (pc2 := 488) C dL_rigs_487 (ev) rfl ?_
        refine q_istore (lv' := [(9, .int (-1)), (8, .int (nI m457)), (7, .int (nI 1)), (6, .int (nI i)), (0, .ref (a 30)), (1, .int (nI 2)), (2, .int y), (3, .ref (a 40)), (4, .ref (a 41)), (5, .ref (a 42))]) (pc2 := 490) C dL_rigs_488 (by decide) rfl rfl ?_
        refine q_iload (pc2 := 492) C 2 dL_rigs_490 rfl rfl ?_
        refine q_if_eq (tgt := 532) (pc2 := 495) C dL_rigs_492 (by decide) rfl (fun h9 => absurd h9 (by decide)) (fun _ => ?_)
        refine q_iload (pc2 := 497) C 1 dL_rigs_495 rfl rfl ?_
        refine q_aload_n (pc2 := 498) C 7 dL_rigs_497 rfl rfl rfl ?_
        refine q_iconst (v := nI 1) (pc2 := 499) C dL_rigs_498 (by decide) rfl ?_
        refine q_aload_n (pc2 := 500) C 7 dL_rigs_499 rfl rfl rfl ?_
        refine q_iconst (v := nI 0) (pc2 := 501) C dL_rigs_500 (by decide) rfl ?_
        refine q_iald (q0 := 26) (f := fc) (pc2 := 502) C 0 (wT_g0 ct a x fc fb fp fq fn fl) rfl (rfl) (by decide) (by decide) dL_rigs_501 rfl ?_
        refine q_eqi (y := nI h) (hc0) ?_
        refine q_iadd (v := nI (1 + h)) (pc2 := 503) C dL_rigs_502 (nI_add 1 h) rfl ?_
        refine q_iald (q0 := 26) (f := fc) (pc2 := 504) C (1 + h) (wT_g0 ct a x fc fb fp fq fn fl) rfl (rfl) (by omega) (by decide) dL_rigs_503 rfl ?_
        refine q_eqi (y := nI (kb h)) (hck) ?_
        refine q_icmp_ge (tgt := 532) (pc2 := 507) C dL_rigs_504 (by decide) rfl (fun c504 => ?_) (fun c504 => ?_)
        · skip
          have k504 : (kb h) ≤ m457 := (nI_leI (a := (kb h)) (b := m457) (by omega) (by omega)).mp c504
          refine q_iconst (v := nI 0) (pc2 := 533) C dL_rigs_532 (by decide) rfl ?_
          refine q_istore (lv' := [(7, .int (nI 0)), (9, .int (-1)), (8, .int (nI m457)), (6, .int (nI i)), (0, .ref (a 30)), (1, .int (nI 2)), (2, .int y), (3, .ref (a 40)), (4, .ref (a 41)), (5, .ref (a 42))]) (pc2 := 535) C dL_rigs_533 (by decide) rfl rfl ?_
          refine q_iload (pc2 := 537) C 0 dL_rigs_535 rfl rfl ?_
          refine q_if_ne (tgt := 545) (pc2 := 540) C dL_rigs_537 (by decide) rfl (fun h9 => absurd (by decide) h9) (fun _ => ?_)
          refine q_bipush (v := (-101)) (pc2 := 542) C dL_rigs_540 (by decide) rfl ?_
          refine q_goto (pc2 := 568) C dL_rigs_542 (by decide) ?_
          refine q_istore (lv' := [(10, .int (-101)), (7, .int (nI 0)), (9, .int (-1)), (8, .int (nI m457)), (6, .int (nI i)), (0, .ref (a 30)), (1, .int (nI 2)), (2, .int y), (3, .ref (a 40)), (4, .ref (a 41)), (5, .ref (a 42))]) (pc2 := 570) C dL_rigs_568 (by decide) rfl rfl ?_
          refine q_iload (pc2 := 572) C 0 dL_rigs_570 rfl rfl ?_
          refine q_if_ne (tgt := 606) (pc2 := 575) C dL_rigs_572 (by decide) rfl (fun _ => ?_) (fun h9 => absurd h9 (by decide))
          refine q_aload_n (pc2 := 607) C 5 dL_rigs_606 rfl rfl rfl ?_
          refine q_iconst (v := nI 1) (pc2 := 608) C dL_rigs_607 (by decide) rfl ?_
          refine q_iload (pc2 := 610) C 4 dL_rigs_608 rfl rfl ?_
          refine q_iload (pc2 := 612) C 3 dL_rigs_610 rfl rfl ?_
          refine q_iload (pc2 := 614) C 2 dL_rigs_612 rfl rfl ?_
          have hM := c_X3_hang l hl D ct a x n hx0 (by omega) h hx4 hlt (kb h) hx5 (by omega) (nI i) (nI m457) ((-1))
          rw [hx0, hx5, nI_clamp (show m457 < 2 ^ 31 by omega)] at hM
          rw [nI_clamp (show i < 2 ^ 31 by omega)] at hM
          refine q_Hno_wT (pc2 := 617) (As := [.ref (a 30), .int (nI 1), .int (nI i), .int (nI m457), .int (-1)]) (st := []) (st2 := [.int (-101)]) (c2 := 1) (s2 := 6) C (c_L_hangs1 l D ct a x _ (nI i) (nI m457) ((-1)) _ _ hM) (by rw [if_pos (show 0 ≤ nI i ∧ nI i < nI n from ⟨nI_pos' (by omega), nI_lt hi (by omega)⟩), if_neg (fun z : 0 ≤ nI m457 ∧ nI m457 < nI (kb h) => absurd z.2 (nI_nlt (by omega) (by omega)))]) (by decide +kernel) (vx_cwSW 5 C.w gL_rigs_L_hangs rfl rfl rfl (by decide +kernel) ⟨Nat.le_of_ble_eq_true rfl, Nat.le_of_ble_eq_true rfl⟩) dL_rigs_614 rfl rfl (Nat.le_of_ble_eq_true rfl) ⟨Nat.le_of_ble_eq_true rfl, Nat.le_of_ble_eq_true rfl⟩ rfl rfl (hcd3I _) rfl rfl ?_
          refine q_iload (pc2 := 619) C 0 dL_rigs_617 rfl rfl ?_
          refine q_icmp_ne (tgt := 626) (pc2 := 622) C dL_rigs_619 (by decide) rfl (fun h9 => absurd (by decide) h9) (fun _ => ?_)
          refine q_iconst (v := nI 1) (pc2 := 623) C dL_rigs_622 (by decide) rfl ?_
          refine q_goto (pc2 := 627) C dL_rigs_623 (by decide) ?_
          exact q_zret C hQ rfl (rfl) (by omega) (by omega) dL_rigs_627 ⟨rfl, _, _, _, _, _, _, _, rfl, (RE.mono (Nat.le_add_right M 50) ⟨n, h, q, b, t, kb, K, S, F, V, ht, r⟩)⟩
        · skip
          have k504 : m457 < (kb h) := (nI_ltI (a := m457) (b := (kb h)) (by omega) (by omega)).mp (Int32.not_le.mp c504)
          refine q_iload (pc2 := 509) C 0 dL_rigs_507 rfl rfl ?_
          refine q_if_lt (tgt := 532) (pc2 := 512) C dL_rigs_509 (by decide) rfl (fun _ => ?_) (fun h9 => absurd (by decide) h9)
          refine q_iconst (v := nI 0) (pc2 := 533) C dL_rigs_532 (by decide) rfl ?_
          refine q_istore (lv' := [(7, .int (nI 0)), (9, .int (-1)), (8, .int (nI m457)), (6, .int (nI i)), (0, .ref (a 30)), (1, .int (nI 2)), (2, .int y), (3, .ref (a 40)), (4, .ref (a 41)), (5, .ref (a 42))]) (pc2 := 535) C dL_rigs_533 (by decide) rfl rfl ?_
          refine q_iload (pc2 := 537) C 0 dL_rigs_535 rfl rfl ?_
          refine q_if_ne (tgt := 545) (pc2 := 540) C dL_rigs_537 (by decide) rfl (fun h9 => absurd (by decide) h9) (fun _ => ?_)
          refine q_bipush (v := (-101)) (pc2 := 542) C dL_rigs_540 (by decide) rfl ?_
          refine q_goto (pc2 := 568) C dL_rigs_542 (by decide) ?_
          refine q_istore (lv' := [(10, .int (-101)), (7, .int (nI 0)), (9, .int (-1)), (8, .int (nI m457)), (6, .int (nI i)), (0, .ref (a 30)), (1, .int (nI 2)), (2, .int y), (3, .ref (a 40)), (4, .ref (a 41)), (5, .ref (a 42))]) (pc2 := 570) C dL_rigs_568 (by decide) rfl rfl ?_
          refine q_iload (pc2 := 572) C 0 dL_rigs_570 rfl rfl ?_
          refine q_if_ne (tgt := 606) (pc2 := 575) C dL_rigs_572 (by decide) rfl (fun _ => ?_) (fun h9 => absurd h9 (by decide))
          refine q_aload_n (pc2 := 607) C 5 dL_rigs_606 rfl rfl rfl ?_
          refine q_iconst (v := nI 1) (pc2 := 608) C dL_rigs_607 (by decide) rfl ?_
          refine q_iload (pc2 := 610) C 4 dL_rigs_608 rfl rfl ?_
          refine q_iload (pc2 := 612) C 3 dL_rigs_610 rfl rfl ?_
          refine q_iload (pc2 := 614) C 2 dL_rigs_612 rfl rfl ?_
          have hM := c_X3_hang l hl D ct a x n hx0 (by omega) h hx4 hlt (kb h) hx5 (by omega) (nI i) (nI m457) ((-1))
          rw [hx0, hx5, nI_clamp (show m457 < 2 ^ 31 by omega)] at hM
          rw [nI_clamp (show i < 2 ^ 31 by omega)] at hM
          refine q_Hno_wT (pc2 := 617) (As := [.ref (a 30), .int (nI 1), .int (nI i), .int (nI m457), .int (-1)]) (st := []) (st2 := [.int (-101)]) (c2 := 1) (s2 := 6) C (c_L_hangs1 l D ct a x _ (nI i) (nI m457) ((-1)) _ _ hM) (by rw [if_pos (show 0 ≤ nI i ∧ nI i < nI n from ⟨nI_pos' (by omega), nI_lt hi (by omega)⟩), if_pos (show 0 ≤ nI m457 ∧ nI m457 < nI (kb h) from ⟨nI_pos' (by omega), nI_lt (by omega) (by omega)⟩), if_neg (fun z => absurd z.1 (by decide))]) (by decide +kernel) (vx_cwSW 5 C.w gL_rigs_L_hangs rfl rfl rfl (by decide +kernel) ⟨Nat.le_of_ble_eq_true rfl, Nat.le_of_ble_eq_true rfl⟩) dL_rigs_614 rfl rfl (Nat.le_of_ble_eq_true rfl) ⟨Nat.le_of_ble_eq_true rfl, Nat.le_of_ble_eq_true rfl⟩ rfl rfl (hcd3I _) rfl rfl ?_
          refine q_iload (pc2 := 619) C 0 dL_rigs_617 rfl rfl ?_
          refine q_icmp_ne (tgt := 626) (pc2 := 622) C dL_rigs_619 (by decide) rfl (fun h9 => absurd (by decide) h9) (fun _ => ?_)
          refine q_iconst (v := nI 1) (pc2 := 623) C dL_rigs_622 (by decide) rfl ?_
          refine q_goto (pc2 := 627) C dL_rigs_623 (by decide) ?_
          exact q_zret C hQ rfl (rfl) (by omega) (by omega) dL_rigs_627 ⟨rfl, _, _, _, _, _, _, _, rfl, (RE.mono (Nat.le_add_right M 50) ⟨n, h, q, b, t, kb, K, S, F, V, ht, r⟩)⟩
    refine q_iload_n (pc2 := 471) C 5 dL_rigs_470 rfl rfl rfl ?_
    refine q_bipush (v := nI 9) (pc2 := 473) C dL_rigs_471 (by decide) rfl ?_
    refine q_ishr (v := (y >>> (nI 9 &&& 31))) (pc2 := 474) C dL_rigs_473 (rfl) rfl ?_
    refine q_bipush (v := nI 19) (pc2 := 476) C dL_rigs_474 (by decide) rfl ?_
    refine q_some (pc2 := 479) C (v := (y >>> (nI 9 &&& 31))) 19 (by omega) (by omega) (va_cwS 2 C.w gL_rigs_L_some rfl rfl rfl (by decide +kernel) ⟨Nat.le_of_ble_eq_true rfl, Nat.le_of_ble_eq_true rfl⟩) dL_rigs_476 rfl ⟨Nat.le_of_ble_eq_true rfl, Nat.le_of_ble_eq_true rfl⟩ (Nat.le_of_ble_eq_true rfl) (fun m476 hm476 => ?_)
    refine q_if_ne (tgt := 486) (pc2 := 482) C dL_rigs_479 (by decide) rfl (fun c479 => ?_) (fun c479 => ?_)
    · skip
      have k479 : m476 ≠ 0 := fun z => c479 ((nI_eq (a := m476) (b := 0) (by omega) (by omega)).mpr z)
      refine q_iconst (v := nI 0) (pc2 := 487) C dL_rigs_486 (by decide) rfl ?_
      exact hj487 0 (by omega)
    · skip
      have k479 : m476 = 0 := (nI_eq (a := m476) (b := 0) (by omega) (by omega)).mp (c479)
      refine q_iconst (v := nI 1) (pc2 := 483) C dL_rigs_482 (by decide) rfl ?_
      refine q_goto (pc2 := 487) C dL_rigs_483 (by decide) ?_
      exact hj487 1 (by omega)
  have hB : ∀ v : Int32, ¬ (0 ≤ v ∧ v < nI n) → Cf p l e ({ frames := 9, cells := 2, slots := 12, locals := 160 }) s m args below meth c D A 14 0 0 Q 49 [(7, .int (nI 0)), (6, .int v), (0, .ref (a 30)), (1, .int (nI 2)), (2, .int y), (3, .ref (a 40)), (4, .ref (a 41)), (5, .ref (a 42))] [] (wT ct a x fc fb fp fq fn fl) := by
    intro v hv
    refine q_iload_n (pc2 := 50) C 3 dL_rigs_49 rfl rfl rfl ?_
    refine q_if_ne (tgt := 267) (pc2 := 53) C dL_rigs_50 (by decide) rfl (fun _ => ?_) (fun h9 => absurd h9 (by decide))
    refine q_iload_n (pc2 := 268) C 3 dL_rigs_267 rfl rfl rfl ?_
    refine q_iconst (v := nI 1) (pc2 := 269) C dL_rigs_268 (by decide) rfl ?_
    refine q_icmp_ne (tgt := 448) (pc2 := 272) C dL_rigs_269 (by decide) rfl (fun _ => ?_) (fun h9 => absurd h9 (by decide))
    refine q_iload_n (pc2 := 449) C 3 dL_rigs_448 rfl rfl rfl ?_
    refine q_iconst (v := nI 2) (pc2 := 450) C dL_rigs_449 (by decide) rfl ?_
    refine q_icmp_ne (tgt := 628) (pc2 := 453) C dL_rigs_450 (by decide) rfl (fun h9 => absurd (by decide) h9) (fun _ => ?_)
    refine q_iload_n (pc2 := 454) C 4 dL_rigs_453 rfl rfl rfl ?_
    refine q_iconst (v := nI 3) (pc2 := 455) C dL_rigs_454 (by decide) rfl ?_
    refine q_ishr (v := (y >>> (nI 3 &&& 31))) (pc2 := 456) C dL_rigs_455 (rfl) rfl ?_
    refine q_iconst (v := nI 3) (pc2 := 457) C dL_rigs_456 (by decide) rfl ?_
    refine q_some (pc2 := 460) C (v := (y >>> (nI 3 &&& 31))) 3 (by omega) (by omega) (va_cwS 2 C.w gL_rigs_L_some rfl rfl rfl (by decide +kernel) ⟨Nat.le_of_ble_eq_true rfl, Nat.le_of_ble_eq_true rfl⟩) dL_rigs_457 rfl ⟨Nat.le_of_ble_eq_true rfl, Nat.le_of_ble_eq_true rfl⟩ (Nat.le_of_ble_eq_true rfl) (fun m457 hm457 => ?_)
    refine q_istore (lv' := [(8, .int (nI m457)), (7, .int (nI 0)), (6, .int v), (0, .ref (a 30)), (1, .int (nI 2)), (2, .int y), (3, .ref (a 40)), (4, .ref (a 41)), (5, .ref (a 42))]) (pc2 := 462) C dL_rigs_460 (by decide) rfl rfl ?_
    refine q_iload_n (pc2 := 463) C 5 dL_rigs_462 rfl rfl rfl ?_
    refine q_iconst (v := nI 5) (pc2 := 464) C dL_rigs_463 (by decide) rfl ?_
    refine q_ishr (v := (y >>> (nI 5 &&& 31))) (pc2 := 465) C dL_rigs_464 (rfl) rfl ?_
    refine q_bipush (v := nI 18) (pc2 := 467) C dL_rigs_465 (by decide) rfl ?_
    refine q_some (pc2 := 470) C (v := (y >>> (nI 5 &&& 31))) 18 (by omega) (by omega) (va_cwS 2 C.w gL_rigs_L_some rfl rfl rfl (by decide +kernel) ⟨Nat.le_of_ble_eq_true rfl, Nat.le_of_ble_eq_true rfl⟩) dL_rigs_467 rfl ⟨Nat.le_of_ble_eq_true rfl, Nat.le_of_ble_eq_true rfl⟩ (Nat.le_of_ble_eq_true rfl) (fun m467 hm467 => ?_)
    have hj487 : ∀ e2 : Nat, (e2 ≤ 1) → Cf p l e ({ frames := 9, cells := 2, slots := 12, locals := 160 }) s m args below meth c D A 14 0 0 Q 487 [(8, .int (nI m457)), (7, .int (nI 0)), (6, .int v), (0, .ref (a 30)), (1, .int (nI 2)), (2, .int y), (3, .ref (a 40)), (4, .ref (a 41)), (5, .ref (a 42))] [.int (nI e2), .int (nI m467)] (wT ct a x fc fb fp fq fn fl) := by
      intro e2 he2
      rcases pick_place hm467 he2 with ⟨v1, hv1, ev⟩ | ev
      · skip
        refine q_isub (v := nI v1) (pc2 := 488) C dL_rigs_487 (ev) rfl ?_
        refine q_istore (lv' := [(9, .int (nI v1)), (8, .int (nI m457)), (7, .int (nI 0)), (6, .int v), (0, .ref (a 30)), (1, .int (nI 2)), (2, .int y), (3, .ref (a 40)), (4, .ref (a 41)), (5, .ref (a 42))]) (pc2 := 490) C dL_rigs_488 (by decide) rfl rfl ?_
        refine q_iload (pc2 := 492) C 2 dL_rigs_490 rfl rfl ?_
        refine q_if_eq (tgt := 532) (pc2 := 495) C dL_rigs_492 (by decide) rfl (fun _ => ?_) (fun h9 => absurd (by decide) h9)
        refine q_iconst (v := nI 0) (pc2 := 533) C dL_rigs_532 (by decide) rfl ?_
        refine q_istore (lv' := [(7, .int (nI 0)), (9, .int (nI v1)), (8, .int (nI m457)), (6, .int v), (0, .ref (a 30)), (1, .int (nI 2)), (2, .int y), (3, .ref (a 40)), (4, .ref (a 41)), (5, .ref (a 42))]) (pc2 := 535) C dL_rigs_533 (by decide) rfl rfl ?_
        refine q_iload (pc2 := 537) C 0 dL_rigs_535 rfl rfl ?_
        refine q_if_ne (tgt := 545) (pc2 := 540) C dL_rigs_537 (by decide) rfl (fun h9 => absurd (by decide) h9) (fun _ => ?_)
        refine q_bipush (v := (-101)) (pc2 := 542) C dL_rigs_540 (by decide) rfl ?_
        refine q_goto (pc2 := 568) C dL_rigs_542 (by decide) ?_
        refine q_istore (lv' := [(10, .int (-101)), (7, .int (nI 0)), (9, .int (nI v1)), (8, .int (nI m457)), (6, .int v), (0, .ref (a 30)), (1, .int (nI 2)), (2, .int y), (3, .ref (a 40)), (4, .ref (a 41)), (5, .ref (a 42))]) (pc2 := 570) C dL_rigs_568 (by decide) rfl rfl ?_
        refine q_iload (pc2 := 572) C 0 dL_rigs_570 rfl rfl ?_
        refine q_if_ne (tgt := 606) (pc2 := 575) C dL_rigs_572 (by decide) rfl (fun _ => ?_) (fun h9 => absurd h9 (by decide))
        refine q_aload_n (pc2 := 607) C 5 dL_rigs_606 rfl rfl rfl ?_
        refine q_iconst (v := nI 1) (pc2 := 608) C dL_rigs_607 (by decide) rfl ?_
        refine q_iload (pc2 := 610) C 4 dL_rigs_608 rfl rfl ?_
        refine q_iload (pc2 := 612) C 3 dL_rigs_610 rfl rfl ?_
        refine q_iload (pc2 := 614) C 2 dL_rigs_612 rfl rfl ?_
        have hM := c_X3_hang l hl D ct a x n hx0 (by omega) h hx4 hlt (kb h) hx5 (by omega) (v) (nI m457) (nI v1)
        rw [hx0, hx5, nI_clamp (show m457 < 2 ^ 31 by omega)] at hM
        refine q_Hno_wT (pc2 := 617) (As := [.ref (a 30), .int (nI 1), .int v, .int (nI m457), .int (nI v1)]) (st := []) (st2 := [.int (-101)]) (c2 := 1) (s2 := 6) C (c_L_hangs1 l D ct a x _ (v) (nI m457) (nI v1) _ _ hM) (if_neg hv) (by decide +kernel) (vx_cwSW 5 C.w gL_rigs_L_hangs rfl rfl rfl (by decide +kernel) ⟨Nat.le_of_ble_eq_true rfl, Nat.le_of_ble_eq_true rfl⟩) dL_rigs_614 rfl rfl (Nat.le_of_ble_eq_true rfl) ⟨Nat.le_of_ble_eq_true rfl, Nat.le_of_ble_eq_true rfl⟩ rfl rfl (hcd3I _) rfl rfl ?_
        refine q_iload (pc2 := 619) C 0 dL_rigs_617 rfl rfl ?_
        refine q_icmp_ne (tgt := 626) (pc2 := 622) C dL_rigs_619 (by decide) rfl (fun h9 => absurd (by decide) h9) (fun _ => ?_)
        refine q_iconst (v := nI 1) (pc2 := 623) C dL_rigs_622 (by decide) rfl ?_
        refine q_goto (pc2 := 627) C dL_rigs_623 (by decide) ?_
        exact q_zret C hQ rfl (rfl) (by omega) (by omega) dL_rigs_627 ⟨rfl, _, _, _, _, _, _, _, rfl, (RE.mono (Nat.le_add_right M 50) ⟨n, h, q, b, t, kb, K, S, F, V, ht, r⟩)⟩
      · skip
        refine q_isub (v := (-1)) (pc2 := 488) C dL_rigs_487 (ev) rfl ?_
        refine q_istore (lv' := [(9, .int (-1)), (8, .int (nI m457)), (7, .int (nI 0)), (6, .int v), (0, .ref (a 30)), (1, .int (nI 2)), (2, .int y), (3, .ref (a 40)), (4, .ref (a 41)), (5, .ref (a 42))]) (pc2 := 490) C dL_rigs_488 (by decide) rfl rfl ?_
        refine q_iload (pc2 := 492) C 2 dL_rigs_490 rfl rfl ?_
        refine q_if_eq (tgt := 532) (pc2 := 495) C dL_rigs_492 (by decide) rfl (fun _ => ?_) (fun h9 => absurd (by decide) h9)
        refine q_iconst (v := nI 0) (pc2 := 533) C dL_rigs_532 (by decide) rfl ?_
        refine q_istore (lv' := [(7, .int (nI 0)), (9, .int (-1)), (8, .int (nI m457)), (6, .int v), (0, .ref (a 30)), (1, .int (nI 2)), (2, .int y), (3, .ref (a 40)), (4, .ref (a 41)), (5, .ref (a 42))]) (pc2 := 535) C dL_rigs_533 (by decide) rfl rfl ?_
        refine q_iload (pc2 := 537) C 0 dL_rigs_535 rfl rfl ?_
        refine q_if_ne (tgt := 545) (pc2 := 540) C dL_rigs_537 (by decide) rfl (fun h9 => absurd (by decide) h9) (fun _ => ?_)
        refine q_bipush (v := (-101)) (pc2 := 542) C dL_rigs_540 (by decide) rfl ?_
        refine q_goto (pc2 := 568) C dL_rigs_542 (by decide) ?_
        refine q_istore (lv' := [(10, .int (-101)), (7, .int (nI 0)), (9, .int (-1)), (8, .int (nI m457)), (6, .int v), (0, .ref (a 30)), (1, .int (nI 2)), (2, .int y), (3, .ref (a 40)), (4, .ref (a 41)), (5, .ref (a 42))]) (pc2 := 570) C dL_rigs_568 (by decide) rfl rfl ?_
        refine q_iload (pc2 := 572) C 0 dL_rigs_570 rfl rfl ?_
        refine q_if_ne (tgt := 606) (pc2 := 575) C dL_rigs_572 (by decide) rfl (fun _ => ?_) (fun h9 => absurd h9 (by decide))
        refine q_aload_n (pc2 := 607) C 5 dL_rigs_606 rfl rfl rfl ?_
        refine q_iconst (v := nI 1) (pc2 := 608) C dL_rigs_607 (by decide) rfl ?_
        refine q_iload (pc2 := 610) C 4 dL_rigs_608 rfl rfl ?_
        refine q_iload (pc2 := 612) C 3 dL_rigs_610 rfl rfl ?_
        refine q_iload (pc2 := 614) C 2 dL_rigs_612 rfl rfl ?_
        have hM := c_X3_hang l hl D ct a x n hx0 (by omega) h hx4 hlt (kb h) hx5 (by omega) (v) (nI m457) ((-1))
        rw [hx0, hx5, nI_clamp (show m457 < 2 ^ 31 by omega)] at hM
        refine q_Hno_wT (pc2 := 617) (As := [.ref (a 30), .int (nI 1), .int v, .int (nI m457), .int (-1)]) (st := []) (st2 := [.int (-101)]) (c2 := 1) (s2 := 6) C (c_L_hangs1 l D ct a x _ (v) (nI m457) ((-1)) _ _ hM) (if_neg hv) (by decide +kernel) (vx_cwSW 5 C.w gL_rigs_L_hangs rfl rfl rfl (by decide +kernel) ⟨Nat.le_of_ble_eq_true rfl, Nat.le_of_ble_eq_true rfl⟩) dL_rigs_614 rfl rfl (Nat.le_of_ble_eq_true rfl) ⟨Nat.le_of_ble_eq_true rfl, Nat.le_of_ble_eq_true rfl⟩ rfl rfl (hcd3I _) rfl rfl ?_
        refine q_iload (pc2 := 619) C 0 dL_rigs_617 rfl rfl ?_
        refine q_icmp_ne (tgt := 626) (pc2 := 622) C dL_rigs_619 (by decide) rfl (fun h9 => absurd (by decide) h9) (fun _ => ?_)
        refine q_iconst (v := nI 1) (pc2 := 623) C dL_rigs_622 (by decide) rfl ?_
        refine q_goto (pc2 := 627) C dL_rigs_623 (by decide) ?_
        exact q_zret C hQ rfl (rfl) (by omega) (by omega) dL_rigs_627 ⟨rfl, _, _, _, _, _, _, _, rfl, (RE.mono (Nat.le_add_right M 50) ⟨n, h, q, b, t, kb, K, S, F, V, ht, r⟩)⟩
    refine q_iload_n (pc2 := 471) C 5 dL_rigs_470 rfl rfl rfl ?_
    refine q_bipush (v := nI 9) (pc2 := 473) C dL_rigs_471 (by decide) rfl ?_
    refine q_ishr (v := (y >>> (nI 9 &&& 31))) (pc2 := 474) C dL_rigs_473 (rfl) rfl ?_
    refine q_bipush (v := nI 19) (pc2 := 476) C dL_rigs_474 (by decide) rfl ?_
    refine q_some (pc2 := 479) C (v := (y >>> (nI 9 &&& 31))) 19 (by omega) (by omega) (va_cwS 2 C.w gL_rigs_L_some rfl rfl rfl (by decide +kernel) ⟨Nat.le_of_ble_eq_true rfl, Nat.le_of_ble_eq_true rfl⟩) dL_rigs_476 rfl ⟨Nat.le_of_ble_eq_true rfl, Nat.le_of_ble_eq_true rfl⟩ (Nat.le_of_ble_eq_true rfl) (fun m476 hm476 => ?_)
    refine q_if_ne (tgt := 486) (pc2 := 482) C dL_rigs_479 (by decide) rfl (fun c479 => ?_) (fun c479 => ?_)
    · skip
      have k479 : m476 ≠ 0 := fun z => c479 ((nI_eq (a := m476) (b := 0) (by omega) (by omega)).mpr z)
      refine q_iconst (v := nI 0) (pc2 := 487) C dL_rigs_486 (by decide) rfl ?_
      exact hj487 0 (by omega)
    · skip
      have k479 : m476 = 0 := (nI_eq (a := m476) (b := 0) (by omega) (by omega)).mp (c479)
      refine q_iconst (v := nI 1) (pc2 := 483) C dL_rigs_482 (by decide) rfl ?_
      refine q_goto (pc2 := 487) C dL_rigs_483 (by decide) ?_
      exact hj487 1 (by omega)
  refine q_iload_n (pc2 := 1) C 2 dL_rigs_0 rfl rfl rfl ?_
  refine q_aload_n (pc2 := 2) C 3 dL_rigs_1 rfl rfl rfl ?_
  refine q_iconst (v := nI 3) (pc2 := 3) C dL_rigs_2 (by decide) rfl ?_
  refine q_iald (q0 := 26) (f := fc) (pc2 := 4) C 3 (wT_g0 ct a x fc fb fp fq fn fl) rfl (rfl) (by decide) (by decide) dL_rigs_3 rfl ?_
  refine q_eqi (y := nI n) (hc3) ?_
  refine q_iconst (v := nI 1) (pc2 := 5) C dL_rigs_4 (by decide) rfl ?_
  refine q_iadd (v := nI (n + 1)) (pc2 := 6) C dL_rigs_5 (nI_add n 1) rfl ?_
  refine q_some (pc2 := 9) C (v := y) (n + 1) (by omega) (by omega) (va_cwS 2 C.w gL_rigs_L_some rfl rfl rfl (by decide +kernel) ⟨Nat.le_of_ble_eq_true rfl, Nat.le_of_ble_eq_true rfl⟩) dL_rigs_6 rfl ⟨Nat.le_of_ble_eq_true rfl, Nat.le_of_ble_eq_true rfl⟩ (Nat.le_of_ble_eq_true rfl) (fun m6 hm6 => ?_)
  have hj26 : ∀ e1 : Nat, (e1 ≤ 1) → Cf p l e ({ frames := 9, cells := 2, slots := 12, locals := 160 }) s m args below meth c D A 14 0 0 Q 26 [(0, .ref (a 30)), (1, .int (nI 2)), (2, .int y), (3, .ref (a 40)), (4, .ref (a 41)), (5, .ref (a 42))] [.int (nI e1), .int (nI m6)] (wT ct a x fc fb fp fq fn fl) := by
    intro e1 he1
    rcases pick_lamp hn5 hm6 he1 with ⟨i, hi, ei⟩ | hv
    · skip
      refine q_isub (v := nI i) (pc2 := 27) C dL_rigs_26 (ei) rfl ?_
      refine q_istore (lv' := [(6, .int (nI i)), (0, .ref (a 30)), (1, .int (nI 2)), (2, .int y), (3, .ref (a 40)), (4, .ref (a 41)), (5, .ref (a 42))]) (pc2 := 29) C dL_rigs_27 (by decide) rfl rfl ?_
      refine q_iload (pc2 := 31) C 0 dL_rigs_29 rfl rfl ?_
      refine q_if_lt (tgt := 46) (pc2 := 34) C dL_rigs_31 (by decide) rfl (fun h9 => absurd h9 (nI_nlt (a := i) (b := 0) (by omega) (by omega))) (fun _ => ?_)
      refine q_iload (pc2 := 36) C 0 dL_rigs_34 rfl rfl ?_
      refine q_aload_n (pc2 := 37) C 4 dL_rigs_36 rfl rfl rfl ?_
      refine q_iconst (v := nI 3) (pc2 := 38) C dL_rigs_37 (by decide) rfl ?_
      refine q_iald (q0 := 26) (f := fc) (pc2 := 39) C 3 (wT_g0 ct a x fc fb fp fq fn fl) rfl (rfl) (by decide) (by decide) dL_rigs_38 rfl ?_
      refine q_eqi (y := nI n) (hc3) ?_
      refine q_icmp_ge (tgt := 46) (pc2 := 42) C dL_rigs_39 (by decide) rfl (fun h9 => absurd h9 (nI_ge (a := i) (b := n) (by omega) (by omega))) (fun _ => ?_)
      refine q_iconst (v := nI 1) (pc2 := 43) C dL_rigs_42 (by decide) rfl ?_
      refine q_goto (pc2 := 47) C dL_rigs_43 (by decide) ?_
      refine q_istore (lv' := [(7, .int (nI 1)), (6, .int (nI i)), (0, .ref (a 30)), (1, .int (nI 2)), (2, .int y), (3, .ref (a 40)), (4, .ref (a 41)), (5, .ref (a 42))]) (pc2 := 49) C dL_rigs_47 (by decide) rfl rfl ?_
      exact hA i hi
    · skip
      refine q_isub (v := (nI m6 - nI e1)) (pc2 := 27) C dL_rigs_26 (rfl) rfl ?_
      refine q_istore (lv' := [(6, .int (nI m6 - nI e1)), (0, .ref (a 30)), (1, .int (nI 2)), (2, .int y), (3, .ref (a 40)), (4, .ref (a 41)), (5, .ref (a 42))]) (pc2 := 29) C dL_rigs_27 (by decide) rfl rfl ?_
      refine q_iload (pc2 := 31) C 0 dL_rigs_29 rfl rfl ?_
      refine q_if_lt (tgt := 46) (pc2 := 34) C dL_rigs_31 (by decide) rfl (fun c31 => ?_) (fun c31 => ?_)
      · skip
        refine q_iconst (v := nI 0) (pc2 := 47) C dL_rigs_46 (by decide) rfl ?_
        refine q_istore (lv' := [(7, .int (nI 0)), (6, .int (nI m6 - nI e1)), (0, .ref (a 30)), (1, .int (nI 2)), (2, .int y), (3, .ref (a 40)), (4, .ref (a 41)), (5, .ref (a 42))]) (pc2 := 49) C dL_rigs_47 (by decide) rfl rfl ?_
        exact hB _ hv
      · skip
        refine q_iload (pc2 := 36) C 0 dL_rigs_34 rfl rfl ?_
        refine q_aload_n (pc2 := 37) C 4 dL_rigs_36 rfl rfl rfl ?_
        refine q_iconst (v := nI 3) (pc2 := 38) C dL_rigs_37 (by decide) rfl ?_
        refine q_iald (q0 := 26) (f := fc) (pc2 := 39) C 3 (wT_g0 ct a x fc fb fp fq fn fl) rfl (rfl) (by decide) (by decide) dL_rigs_38 rfl ?_
        refine q_eqi (y := nI n) (hc3) ?_
        refine q_icmp_ge (tgt := 46) (pc2 := 42) C dL_rigs_39 (by decide) rfl (fun _ => ?_) (fun h9 => absurd (Int32.not_lt.mp (fun z9 => hv ⟨Int32.not_lt.mp c31, z9⟩)) h9)
        refine q_iconst (v := nI 0) (pc2 := 47) C dL_rigs_46 (by decide) rfl ?_
        refine q_istore (lv' := [(7, .int (nI 0)), (6, .int (nI m6 - nI e1)), (0, .ref (a 30)), (1, .int (nI 2)), (2, .int y), (3, .ref (a 40)), (4, .ref (a 41)), (5, .ref (a 42))]) (pc2 := 49) C dL_rigs_47 (by decide) rfl rfl ?_
        exact hB _ hv
  refine q_iload_n (pc2 := 10) C 2 dL_rigs_9 rfl rfl rfl ?_
  refine q_bipush (v := nI 11) (pc2 := 12) C dL_rigs_10 (by decide) rfl ?_
  refine q_ishr (v := (y >>> (nI 11 &&& 31))) (pc2 := 13) C dL_rigs_12 (rfl) rfl ?_
  refine q_bipush (v := nI 19) (pc2 := 15) C dL_rigs_13 (by decide) rfl ?_
  refine q_some (pc2 := 18) C (v := (y >>> (nI 11 &&& 31))) 19 (by omega) (by omega) (va_cwS 2 C.w gL_rigs_L_some rfl rfl rfl (by decide +kernel) ⟨Nat.le_of_ble_eq_true rfl, Nat.le_of_ble_eq_true rfl⟩) dL_rigs_15 rfl ⟨Nat.le_of_ble_eq_true rfl, Nat.le_of_ble_eq_true rfl⟩ (Nat.le_of_ble_eq_true rfl) (fun m15 hm15 => ?_)
  refine q_if_ne (tgt := 25) (pc2 := 21) C dL_rigs_18 (by decide) rfl (fun c18 => ?_) (fun c18 => ?_)
  · skip
    have k18 : m15 ≠ 0 := fun z => c18 ((nI_eq (a := m15) (b := 0) (by omega) (by omega)).mpr z)
    refine q_iconst (v := nI 0) (pc2 := 26) C dL_rigs_25 (by decide) rfl ?_
    exact hj26 0 (by omega)
  · skip
    have k18 : m15 = 0 := (nI_eq (a := m15) (b := 0) (by omega) (by omega)).mp (c18)
    refine q_iconst (v := nI 1) (pc2 := 22) C dL_rigs_21 (by decide) rfl ?_
    refine q_goto (pc2 := 26) C dL_rigs_22 (by decide) ?_
    exact hj26 1 (by omega)

