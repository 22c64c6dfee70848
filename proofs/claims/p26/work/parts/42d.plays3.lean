/-! plays: ticks -/
set_option maxHeartbeats 4000000 in
set_option maxRecDepth 100000 in
theorem c_L_plays_3 (l : Launch) (D : va_G) (ct : Nat → ClassId) (hl : l.stackTraces = false) (a : Nat → Nat) (x : Nat → Nat → Int32) (fc fb fp fq fn fl : Nat → Int32) (y : Int32) (M : Nat) (hM4 : M ≤ 10000) (r0 : RE M x fc fb fp fq fn fl) : qM l yL_plays wsL_plays ({ frames := 9, cells := 2, slots := 12, locals := 180 }) D ct [.ref (a 30), .int (nI 3), .int y, .ref (a 40), .ref (a 42), .ref (a 43), .ref (a 44), .ref (a 45)] (wT ct a x fc fb fp fq fn fl) (pR ct a (M + 50)) 2 12 := by
  refine q_start (ret := some .boolean) (lv := [(0, .ref (a 30)), (1, .int (nI 3)), (2, .int y), (3, .ref (a 40)), (4, .ref (a 42)), (5, .ref (a 43)), (6, .ref (a 44)), (7, .ref (a 45))]) (by decide +kernel) rfl (Nat.le_of_ble_eq_true rfl) rfl ?_
  intro p e s m args below meth c A Q C hQ hnm
  obtain ⟨n, h, q, b, t, kb, K, S, F, V, ht, r⟩ := r0
  obtain ⟨rh, rl, rr, rp, rc, rs, hbq⟩ := id r
  obtain ⟨hlt, hx4, hc0, hkbs, hlen⟩ := id rh
  obtain ⟨hn5, hx0, hc3, hlow, hall, hhigh⟩ := id rl
  obtain ⟨hq4, hx16, hc4, hcue, hfd, hnam, hnaz⟩ := id rc
  obtain ⟨hx22, hc5, hx21, hc7, hc6, hx23, hfl, hlvr, hlev⟩ := id rs
  obtain ⟨hkb2, hx5, hck⟩ := hkbs h hlt
  have hK : ∀ k, k < n → fp k = nI (K k) ∧ K k < 4 := fun k hk => ⟨(hlow k hk).2.1, (hlow k hk).1⟩
  have hb4 : b ≤ 4 := by omega
  have htB : t < 2 ^ 29 := by omega
  have hG : ∀ v z : Int32, Cf p l e ({ frames := 9, cells := 2, slots := 12, locals := 180 }) s m args below meth c D A 15 0 0 Q 49 [(9, .int z), (8, .int v), (0, .ref (a 30)), (1, .int (nI 3)), (2, .int y), (3, .ref (a 40)), (4, .ref (a 42)), (5, .ref (a 43)), (6, .ref (a 44)), (7, .ref (a 45))] [] (wT ct a x fc fb fp fq fn fl) := by
    intro v z
    refine q_iload_n (pc2 := 50) C 3 dL_plays_49 rfl rfl rfl ?_
    refine q_if_ne (tgt := 277) (pc2 := 53) C dL_plays_50 (by decide) rfl (fun _ => ?_) (fun h9 => absurd h9 (by decide))
    refine q_iload_n (pc2 := 278) C 3 dL_plays_277 rfl rfl rfl ?_
    refine q_iconst (v := nI 1) (pc2 := 279) C dL_plays_278 (by decide) rfl ?_
    refine q_icmp_ne (tgt := 431) (pc2 := 282) C dL_plays_279 (by decide) rfl (fun _ => ?_) (fun h9 => absurd h9 (by decide))
    refine q_iload_n (pc2 := 432) C 3 dL_plays_431 rfl rfl rfl ?_
    refine q_iconst (v := nI 2) (pc2 := 433) C dL_plays_432 (by decide) rfl ?_
    refine q_icmp_ne (tgt := 491) (pc2 := 436) C dL_plays_433 (by decide) rfl (fun _ => ?_) (fun h9 => absurd h9 (by decide))
    refine q_iload_n (pc2 := 492) C 3 dL_plays_491 rfl rfl rfl ?_
    refine q_iconst (v := nI 3) (pc2 := 493) C dL_plays_492 (by decide) rfl ?_
    refine q_icmp_ne (tgt := 719) (pc2 := 496) C dL_plays_493 (by decide) rfl (fun h9 => absurd (by decide) h9) (fun _ => ?_)
    have hj528 : ∀ mn : Nat, (mn ≤ 12 ∨ mn = 51) → Cf p l e ({ frames := 9, cells := 2, slots := 12, locals := 180 }) s m args below meth c D A 15 0 0 Q 528 [(9, .int z), (8, .int v), (0, .ref (a 30)), (1, .int (nI 3)), (2, .int y), (3, .ref (a 40)), (4, .ref (a 42)), (5, .ref (a 43)), (6, .ref (a 44)), (7, .ref (a 45))] [.int (nI mn)] (wT ct a x fc fb fp fq fn fl) := by
      intro mn hmn
      refine q_istore (lv' := [(10, .int (nI mn)), (9, .int z), (8, .int v), (0, .ref (a 30)), (1, .int (nI 3)), (2, .int y), (3, .ref (a 40)), (4, .ref (a 42)), (5, .ref (a 43)), (6, .ref (a 44)), (7, .ref (a 45))]) (pc2 := 530) C dL_plays_528 (by decide) rfl rfl ?_
      refine q_iload (pc2 := 532) C 0 dL_plays_530 rfl rfl ?_
      refine q_if_le (tgt := 546) (pc2 := 535) C dL_plays_532 (by decide) rfl (fun c532 => ?_) (fun c532 => ?_)
      · skip
        have k532 : mn ≤ 0 := (nI_leI (a := mn) (b := 0) (by omega) (by omega)).mp c532
        refine q_iconst (v := nI 0) (pc2 := 547) C dL_plays_546 (by decide) rfl ?_
        refine q_istore (lv' := [(11, .int (nI 0)), (10, .int (nI mn)), (9, .int z), (8, .int v), (0, .ref (a 30)), (1, .int (nI 3)), (2, .int y), (3, .ref (a 40)), (4, .ref (a 42)), (5, .ref (a 43)), (6, .ref (a 44)), (7, .ref (a 45))]) (pc2 := 549) C dL_plays_547 (by decide) rfl rfl ?_
        refine q_iconst (v := nI 0) (pc2 := 550) C dL_plays_549 (by decide) rfl ?_
        refine q_istore (lv' := [(12, .int (nI 0)), (11, .int (nI 0)), (10, .int (nI mn)), (9, .int z), (8, .int v), (0, .ref (a 30)), (1, .int (nI 3)), (2, .int y), (3, .ref (a 40)), (4, .ref (a 42)), (5, .ref (a 43)), (6, .ref (a 44)), (7, .ref (a 45))]) (pc2 := 552) C dL_plays_550 (by decide) rfl rfl ?_
        refine q_iconst (v := nI 0) (pc2 := 553) C dL_plays_552 (by decide) rfl ?_
        refine q_istore (lv' := [(13, .int (nI 0)), (12, .int (nI 0)), (11, .int (nI 0)), (10, .int (nI mn)), (9, .int z), (8, .int v), (0, .ref (a 30)), (1, .int (nI 3)), (2, .int y), (3, .ref (a 40)), (4, .ref (a 42)), (5, .ref (a 43)), (6, .ref (a 44)), (7, .ref (a 45))]) (pc2 := 555) C dL_plays_553 (by decide) rfl rfl ?_
        refine q_iload (pc2 := 557) C 0 dL_plays_555 rfl rfl ?_
        refine q_iload (pc2 := 559) C 3 dL_plays_557 rfl rfl ?_
        refine q_icmp_ge (tgt := 691) (pc2 := 562) C dL_plays_559 (by decide) rfl (fun _ => ?_) (fun h9 => absurd (nI_le (a := mn) (b := 0) (by omega) (by omega)) h9)
        refine q_aload_n (pc2 := 692) C 6 dL_plays_691 rfl rfl rfl ?_
        refine q_iconst (v := nI 0) (pc2 := 693) C dL_plays_692 (by decide) rfl ?_
        refine q_iload (pc2 := 695) C 3 dL_plays_693 rfl rfl ?_
        have hM := c_X3_tick l hl D ct a x n hx0 (by omega) q hx16 (by omega) hfd b hx22 hbq (nI mn)
        rw [nI_clamp (show mn < 2 ^ 31 by omega)] at hM
        refine q_Hno_wT (pc2 := 698) (As := [.ref (a 30), .int (nI 0), .int (nI mn)]) (st := []) (st2 := [.int (-101)]) (c2 := 1) (s2 := 6) C (c_L_ticks0 l D ct a x _ (nI mn) _ _ hM) (if_neg (fun z : 1 ≤ nI mn ∧ nI mn ≤ 50 => absurd z.1 (nI_ge (a := mn) (b := 1) (by omega) (by omega)))) (by decide +kernel) (vx_cwSW 3 C.w gL_plays_L_ticks rfl rfl rfl (by decide +kernel) ⟨Nat.le_of_ble_eq_true rfl, Nat.le_of_ble_eq_true rfl⟩) dL_plays_695 rfl rfl (Nat.le_of_ble_eq_true rfl) ⟨Nat.le_of_ble_eq_true rfl, Nat.le_of_ble_eq_true rfl⟩ rfl rfl (hcd1A _) rfl rfl ?_
        refine q_iload (pc2 := 700) C 2 dL_plays_698 rfl rfl ?_
        refine q_if_eq (tgt := 708) (pc2 := 703) C dL_plays_700 (by decide) rfl (fun _ => ?_) (fun h9 => absurd (by decide) h9)
        refine q_bipush (v := (-101)) (pc2 := 710) C dL_plays_708 (by decide) rfl ?_
        refine q_icmp_ne (tgt := 717) (pc2 := 713) C dL_plays_710 (by decide) rfl (fun h9 => absurd (by decide) h9) (fun _ => ?_)
        refine q_iconst (v := nI 1) (pc2 := 714) C dL_plays_713 (by decide) rfl ?_
        refine q_goto (pc2 := 718) C dL_plays_714 (by decide) ?_
        exact q_zret C hQ rfl (rfl) (by omega) (by omega) dL_plays_718 ⟨rfl, _, _, _, _, _, _, _, rfl, (RE.mono (Nat.le_add_right M 50) ⟨n, h, q, b, t, kb, K, S, F, V, ht, r⟩)⟩
      · skip
        have k532 : 0 < mn := (nI_ltI (a := 0) (b := mn) (by omega) (by omega)).mp (Int32.not_le.mp c532)
        refine q_iload (pc2 := 537) C 0 dL_plays_535 rfl rfl ?_
        refine q_bipush (v := nI 51) (pc2 := 539) C dL_plays_537 (by decide) rfl ?_
        refine q_icmp_ge (tgt := 546) (pc2 := 542) C dL_plays_539 (by decide) rfl (fun c539 => ?_) (fun c539 => ?_)
        · skip
          have k539 : 51 ≤ mn := (nI_leI (a := 51) (b := mn) (by omega) (by omega)).mp c539
          refine q_iconst (v := nI 0) (pc2 := 547) C dL_plays_546 (by decide) rfl ?_
          refine q_istore (lv' := [(11, .int (nI 0)), (10, .int (nI mn)), (9, .int z), (8, .int v), (0, .ref (a 30)), (1, .int (nI 3)), (2, .int y), (3, .ref (a 40)), (4, .ref (a 42)), (5, .ref (a 43)), (6, .ref (a 44)), (7, .ref (a 45))]) (pc2 := 549) C dL_plays_547 (by decide) rfl rfl ?_
          refine q_iconst (v := nI 0) (pc2 := 550) C dL_plays_549 (by decide) rfl ?_
          refine q_istore (lv' := [(12, .int (nI 0)), (11, .int (nI 0)), (10, .int (nI mn)), (9, .int z), (8, .int v), (0, .ref (a 30)), (1, .int (nI 3)), (2, .int y), (3, .ref (a 40)), (4, .ref (a 42)), (5, .ref (a 43)), (6, .ref (a 44)), (7, .ref (a 45))]) (pc2 := 552) C dL_plays_550 (by decide) rfl rfl ?_
          refine q_iconst (v := nI 0) (pc2 := 553) C dL_plays_552 (by decide) rfl ?_
          refine q_istore (lv' := [(13, .int (nI 0)), (12, .int (nI 0)), (11, .int (nI 0)), (10, .int (nI mn)), (9, .int z), (8, .int v), (0, .ref (a 30)), (1, .int (nI 3)), (2, .int y), (3, .ref (a 40)), (4, .ref (a 42)), (5, .ref (a 43)), (6, .ref (a 44)), (7, .ref (a 45))]) (pc2 := 555) C dL_plays_553 (by decide) rfl rfl ?_
          refine q_iload (pc2 := 557) C 0 dL_plays_555 rfl rfl ?_
          refine q_iload (pc2 := 559) C 3 dL_plays_557 rfl rfl ?_
          refine q_icmp_ge (tgt := 691) (pc2 := 562) C dL_plays_559 (by decide) rfl (fun h9 => absurd h9 (nI_ge (a := 0) (b := mn) (by omega) (by omega))) (fun _ => ?_)
          refine q_iload (pc2 := 564) C 2 dL_plays_562 rfl rfl ?_
          refine q_if_eq (tgt := 691) (pc2 := 567) C dL_plays_564 (by decide) rfl (fun _ => ?_) (fun h9 => absurd (by decide) h9)
          refine q_aload_n (pc2 := 692) C 6 dL_plays_691 rfl rfl rfl ?_
          refine q_iconst (v := nI 0) (pc2 := 693) C dL_plays_692 (by decide) rfl ?_
          refine q_iload (pc2 := 695) C 3 dL_plays_693 rfl rfl ?_
          have hM := c_X3_tick l hl D ct a x n hx0 (by omega) q hx16 (by omega) hfd b hx22 hbq (nI mn)
          rw [nI_clamp (show mn < 2 ^ 31 by omega)] at hM
          refine q_Hno_wT (pc2 := 698) (As := [.ref (a 30), .int (nI 0), .int (nI mn)]) (st := []) (st2 := [.int (-101)]) (c2 := 1) (s2 := 6) C (c_L_ticks0 l D ct a x _ (nI mn) _ _ hM) (if_neg (fun z : 1 ≤ nI mn ∧ nI mn ≤ 50 => absurd z.2 (nI_ge (b := mn) (a := 50) (by omega) (by omega)))) (by decide +kernel) (vx_cwSW 3 C.w gL_plays_L_ticks rfl rfl rfl (by decide +kernel) ⟨Nat.le_of_ble_eq_true rfl, Nat.le_of_ble_eq_true rfl⟩) dL_plays_695 rfl rfl (Nat.le_of_ble_eq_true rfl) ⟨Nat.le_of_ble_eq_true rfl, Nat.le_of_ble_eq_true rfl⟩ rfl rfl (hcd1A _) rfl rfl ?_
          refine q_iload (pc2 := 700) C 2 dL_plays_698 rfl rfl ?_
          refine q_if_eq (tgt := 708) (pc2 := 703) C dL_plays_700 (by decide) rfl (fun _ => ?_) (fun h9 => absurd (by decide) h9)
          refine q_bipush (v := (-101)) (pc2 := 710) C dL_plays_708 (by decide) rfl ?_
          refine q_icmp_ne (tgt := 717) (pc2 := 713) C dL_plays_710 (by decide) rfl (fun h9 => absurd (by decide) h9) (fun _ => ?_)
          refine q_iconst (v := nI 1) (pc2 := 714) C dL_plays_713 (by decide) rfl ?_
          refine q_goto (pc2 := 718) C dL_plays_714 (by decide) ?_
          exact q_zret C hQ rfl (rfl) (by omega) (by omega) dL_plays_718 ⟨rfl, _, _, _, _, _, _, _, rfl, (RE.mono (Nat.le_add_right M 50) ⟨n, h, q, b, t, kb, K, S, F, V, ht, r⟩)⟩
        · skip
          have k539 : mn < 51 := (nI_ltI (a := mn) (b := 51) (by omega) (by omega)).mp (Int32.not_le.mp c539)
          refine q_iconst (v := nI 1) (pc2 := 543) C dL_plays_542 (by decide) rfl ?_
          refine q_goto (pc2 := 547) C dL_plays_543 (by decide) ?_
          refine q_istore (lv' := [(11, .int (nI 1)), (10, .int (nI mn)), (9, .int z), (8, .int v), (0, .ref (a 30)), (1, .int (nI 3)), (2, .int y), (3, .ref (a 40)), (4, .ref (a 42)), (5, .ref (a 43)), (6, .ref (a 44)), (7, .ref (a 45))]) (pc2 := 549) C dL_plays_547 (by decide) rfl rfl ?_
          refine q_iconst (v := nI 0) (pc2 := 550) C dL_plays_549 (by decide) rfl ?_
          refine q_istore (lv' := [(12, .int (nI 0)), (11, .int (nI 1)), (10, .int (nI mn)), (9, .int z), (8, .int v), (0, .ref (a 30)), (1, .int (nI 3)), (2, .int y), (3, .ref (a 40)), (4, .ref (a 42)), (5, .ref (a 43)), (6, .ref (a 44)), (7, .ref (a 45))]) (pc2 := 552) C dL_plays_550 (by decide) rfl rfl ?_
          refine q_iconst (v := nI 0) (pc2 := 553) C dL_plays_552 (by decide) rfl ?_
          refine q_istore (lv' := [(13, .int (nI 0)), (12, .int (nI 0)), (11, .int (nI 1)), (10, .int (nI mn)), (9, .int z), (8, .int v), (0, .ref (a 30)), (1, .int (nI 3)), (2, .int y), (3, .ref (a 40)), (4, .ref (a 42)), (5, .ref (a 43)), (6, .ref (a 44)), (7, .ref (a 45))]) (pc2 := 555) C dL_plays_553 (by decide) rfl rfl ?_
          refine q_lv (lv' := [(13, .int (nI 0)), (12, .int (nI 0)), (11, .int (nI 1)), (10, .int (nI mn)), (9, .int z), (8, .int v), (7, .ref (a 45)), (6, .ref (a 44)), (5, .ref (a 43)), (4, .ref (a 42)), (3, .ref (a 40)), (2, .int y), (1, .int (nI 3)), (0, .ref (a 30))]) [0, 1, 2, 3, 4, 5, 13, 12, 11, 10, 9, 8, 7, 6] rfl ?_
          refine (lp_up (P := fun i8 => ∀ (b1 : Nat) (S1 : Nat → Nat) (fc1 fp1 fl1 : Nat → Int32), (RR n h q b1 (t + i8) kb K S1 F V (tkXS x n q i8).1 fc1 fb fp1 fq fn fl1) → Cf p l e ({ frames := 9, cells := 2, slots := 12, locals := 180 }) s m args below meth c D A 15 0 0 Q 555 [(13, .int (nI i8)), (12, .int ((tkXS x n q i8).2)), (11, .int (nI 1)), (10, .int (nI mn)), (9, .int z), (8, .int v), (7, .ref (a 45)), (6, .ref (a 44)), (5, .ref (a 43)), (4, .ref (a 42)), (3, .ref (a 40)), (2, .int y), (1, .int (nI 3)), (0, .ref (a 30))] [] (wT ct a x fc1 fb fp1 fq fn fl1)) mn (fun i8 hi8 ihi8 => ?_) ?_ : ∀ (b1 : Nat) (S1 : Nat → Nat) (fc1 fp1 fl1 : Nat → Int32), (RR n h q b1 (t + 0) kb K S1 F V (tkXS x n q 0).1 fc1 fb fp1 fq fn fl1) → Cf p l e ({ frames := 9, cells := 2, slots := 12, locals := 180 }) s m args below meth c D A 15 0 0 Q 555 [(13, .int (nI 0)), (12, .int ((tkXS x n q 0).2)), (11, .int (nI 1)), (10, .int (nI mn)), (9, .int z), (8, .int v), (7, .ref (a 45)), (6, .ref (a 44)), (5, .ref (a 43)), (4, .ref (a 42)), (3, .ref (a 40)), (2, .int y), (1, .int (nI 3)), (0, .ref (a 30))] [] (wT ct a x fc1 fb fp1 fq fn fl1)) b S fc fp fl r
          · intro b1 S1 fc1 fp1 fl1 hyi8
            have rX := hyi8
            have htI : t + i8 + 1 < 2 ^ 29 := by omega
            have hadv := st_adv rX (by omega)
            obtain ⟨yh, yl, yr, yp, yc, ys, yq⟩ := id rX
            obtain ⟨-, hz5, -, hz7, hz6, -⟩ := id ys
            have hb14 : b1 ≤ 4 := by omega
            have hz3 := yl.2.2.1
            have hz4 := yc.2.2.1
            refine q_iload (pc2 := 557) C 0 dL_plays_555 rfl rfl ?_
            refine q_iload (pc2 := 559) C 3 dL_plays_557 rfl rfl ?_
            refine q_icmp_ge (tgt := 691) (pc2 := 562) C dL_plays_559 (by decide) rfl (fun h9 => absurd h9 (nI_ge (a := i8) (b := mn) (by omega) (by omega))) (fun _ => ?_)
            refine q_iload (pc2 := 564) C 2 dL_plays_562 rfl rfl ?_
            refine q_if_eq (tgt := 691) (pc2 := 567) C dL_plays_564 (by decide) rfl (fun h9 => absurd h9 (by decide)) (fun _ => ?_)
            refine q_aload_n (pc2 := 568) C 10 dL_plays_567 rfl rfl rfl ?_
            refine q_bipush (v := nI 7) (pc2 := 570) C dL_plays_568 (by decide) rfl ?_
            refine q_dup2 (pc2 := 571) C dL_plays_570 rfl rfl rfl ?_
            refine q_iald (q0 := 26) (f := fc1) (pc2 := 572) C 7 (wT_g0 ct a x fc1 fb fp1 fq fn fl1) rfl (rfl) (by decide) (by decide) dL_plays_571 rfl ?_
            refine q_eqi (y := nI (t + i8)) (hz7) ?_
            refine q_iconst (v := nI 1) (pc2 := 573) C dL_plays_572 (by decide) rfl ?_
            refine q_iadd (v := nI ((t + i8) + 1)) (pc2 := 574) C dL_plays_573 (nI_add (t + i8) 1) rfl ?_
            refine q_iast (q0 := 26) (f := fc1) (ws' := (wT ct a x (upd fc1 7 (nI ((t + i8) + 1))) fb fp1 fq fn fl1)) (pc2 := 575) C 7 (wT_g0 ct a x fc1 fb fp1 fq fn fl1) rfl (rfl) (by decide) (by decide) (wT_a0 ct a x fc1 fb fp1 fq fn fl1 (upd fc1 7 (nI ((t + i8) + 1)))) dL_plays_574 rfl ?_
            refine q_iload (pc2 := 577) C 1 dL_plays_575 rfl rfl ?_
            have hj637 : ∀ (b2 : Nat) (S2 : Nat → Nat) (fc2 fl2 : Nat → Int32), RR n h q b2 (t + i8 + 1) kb K S2 F V (advX (tkXS x n q i8).1 q) fc2 fb fp1 fq fn fl2 → Cf p l e ({ frames := 9, cells := 2, slots := 12, locals := 180 }) s m args below meth c D A 15 0 0 Q 637 [(12, .int ((tkXS x n q i8).2 + advR (tkXS x n q i8).1 q (bOf (tkXS x n q i8).1))), (13, .int (nI i8)), (11, .int (nI 1)), (10, .int (nI mn)), (9, .int z), (8, .int v), (7, .ref (a 45)), (6, .ref (a 44)), (5, .ref (a 43)), (4, .ref (a 42)), (3, .ref (a 40)), (2, .int y), (1, .int (nI 3)), (0, .ref (a 30))] [] (wT ct a x fc2 fb fp1 fq fn fl2) := by
              intro b2 S2 fc2 fl2 r2
              obtain ⟨xh, xl, xr, xp, xc, xs, xq⟩ := id r2
              obtain ⟨-, hw5, -, hw7, -, -, wfl, -⟩ := id xs
              have hb24 : b2 ≤ 4 := by omega
              have hw3 := xl.2.2.1
              refine q_iconst (v := nI 0) (pc2 := 638) C dL_plays_637 (by decide) rfl ?_
              refine q_istore (lv' := [(14, .int (nI 0)), (12, .int ((tkXS x n q i8).2 + advR (tkXS x n q i8).1 q (bOf (tkXS x n q i8).1))), (13, .int (nI i8)), (11, .int (nI 1)), (10, .int (nI mn)), (9, .int z), (8, .int v), (7, .ref (a 45)), (6, .ref (a 44)), (5, .ref (a 43)), (4, .ref (a 42)), (3, .ref (a 40)), (2, .int y), (1, .int (nI 3)), (0, .ref (a 30))]) (pc2 := 640) C dL_plays_638 (by decide) rfl rfl ?_
              refine q_eqw (ws' := (wT ct a x fc2 fb (fpB fp1 (fun k => levN fp1 fl2 S2 F V (t + i8 + 1) k b2) 0) fq fn fl2)) (congrArg (fun z9 => wT ct a x fc2 fb z9 fq fn fl2) (fpB_0 fp1 (fun k => levN fp1 fl2 S2 F V (t + i8 + 1) k b2))) ?_
              refine (lp_up (P := fun k8 => Cf p l e ({ frames := 9, cells := 2, slots := 12, locals := 180 }) s m args below meth c D A 15 0 0 Q 640 [(14, .int (nI k8)), (12, .int ((tkXS x n q i8).2 + advR (tkXS x n q i8).1 q (bOf (tkXS x n q i8).1))), (13, .int (nI i8)), (11, .int (nI 1)), (10, .int (nI mn)), (9, .int z), (8, .int v), (7, .ref (a 45)), (6, .ref (a 44)), (5, .ref (a 43)), (4, .ref (a 42)), (3, .ref (a 40)), (2, .int y), (1, .int (nI 3)), (0, .ref (a 30))] [] (wT ct a x fc2 fb (fpB fp1 (fun k => levN fp1 fl2 S2 F V (t + i8 + 1) k b2) k8) fq fn fl2)) n (fun k8 hk8 ihk8 => ?_) ?_ : Cf p l e ({ frames := 9, cells := 2, slots := 12, locals := 180 }) s m args below meth c D A 15 0 0 Q 640 [(14, .int (nI 0)), (12, .int ((tkXS x n q i8).2 + advR (tkXS x n q i8).1 q (bOf (tkXS x n q i8).1))), (13, .int (nI i8)), (11, .int (nI 1)), (10, .int (nI mn)), (9, .int z), (8, .int v), (7, .ref (a 45)), (6, .ref (a 44)), (5, .ref (a 43)), (4, .ref (a 42)), (3, .ref (a 40)), (2, .int y), (1, .int (nI 3)), (0, .ref (a 30))] [] (wT ct a x fc2 fb (fpB fp1 (fun k => levN fp1 fl2 S2 F V (t + i8 + 1) k b2) 0) fq fn fl2))
              · skip
                refine q_iload (pc2 := 642) C 0 dL_plays_640 rfl rfl ?_
                refine q_aload_n (pc2 := 643) C 11 dL_plays_642 rfl rfl rfl ?_
                refine q_iconst (v := nI 3) (pc2 := 644) C dL_plays_643 (by decide) rfl ?_
                refine q_iald (q0 := 26) (f := fc2) (pc2 := 645) C 3 (wT_g0 ct a x fc2 fb (fpB fp1 (fun k => levN fp1 fl2 S2 F V (t + i8 + 1) k b2) k8) fq fn fl2) rfl (rfl) (by decide) (by decide) dL_plays_644 rfl ?_
                refine q_eqi (y := nI n) (hw3) ?_
                refine q_icmp_ge (tgt := 685) (pc2 := 648) C dL_plays_645 (by decide) rfl (fun h9 => absurd h9 (nI_ge (a := k8) (b := n) (by omega) (by omega))) (fun _ => ?_)
                refine q_aload (pc2 := 650) C 10 dL_plays_648 rfl rfl ?_
                refine q_bipush (v := nI 35) (pc2 := 652) C dL_plays_650 (by decide) rfl ?_
                refine q_iload (pc2 := 654) C 0 dL_plays_652 rfl rfl ?_
                refine q_iadd (v := nI (35 + k8)) (pc2 := 655) C dL_plays_654 (nI_add 35 k8) rfl ?_
                refine q_dup2 (pc2 := 656) C dL_plays_655 rfl rfl rfl ?_
                refine q_iald (q0 := 28) (f := (fpB fp1 (fun k => levN fp1 fl2 S2 F V (t + i8 + 1) k b2) k8)) (pc2 := 657) C (35 + k8) (wT_g2 ct a x fc2 fb (fpB fp1 (fun k => levN fp1 fl2 S2 F V (t + i8 + 1) k b2) k8) fq fn fl2) rfl (rfl) (by omega) (by decide) dL_plays_656 rfl ?_
                refine q_eqi (y := (fp1 (35 + k8))) (fpB_k (Nat.le_refl k8)) ?_
                refine q_aload_n (pc2 := 658) C 11 dL_plays_657 rfl rfl rfl ?_
                refine q_aload (pc2 := 660) C 10 dL_plays_658 rfl rfl ?_
                refine q_aload (pc2 := 662) C 7 dL_plays_660 rfl rfl ?_
                refine q_iload (pc2 := 664) C 0 dL_plays_662 rfl rfl ?_
                have hMl := c_L_level l D ct a fc2 fb (fpB fp1 (fun k => levN fp1 fl2 S2 F V (t + i8 + 1) k b2) k8) fq fn fl2 S2 F V b2 (t + i8 + 1) wfl hb24 (by omega) hw5 hw7 k8 (by omega)
                rw [show levN (fpB fp1 (fun k => levN fp1 fl2 S2 F V (t + i8 + 1) k b2) k8) fl2 S2 F V (t + i8 + 1) k8 b2 = levN fp1 fl2 S2 F V (t + i8 + 1) k8 b2 by unfold levN; rw [fpB_o (by omega), fpB_o (by omega)]] at hMl
                refine q_NS_wT (pc2 := 667) (As := [.ref (a 40), .ref (a 42), .ref (a 45), .int (nI k8)]) (st := [.int (fp1 (35 + k8)), .int (nI (35 + k8)), .ref (a 42)]) (st2 := [.int (levN fp1 fl2 S2 F V (t + i8 + 1) k8 b2), .int (fp1 (35 + k8)), .int (nI (35 + k8)), .ref (a 42)]) C (hMl) (va_cwS 4 C.w gL_plays_L_level rfl rfl rfl (by decide +kernel) ⟨Nat.le_of_ble_eq_true rfl, Nat.le_of_ble_eq_true rfl⟩) dL_plays_664 rfl rfl (Nat.le_of_ble_eq_true rfl) ⟨Nat.zero_le _, Nat.zero_le _⟩ rfl rfl ?_
                refine q_bipush (v := nI 80) (pc2 := 669) C dL_plays_667 (by decide) rfl ?_
                refine q_icmp_le (tgt := 676) (pc2 := 672) C dL_plays_669 (by decide) rfl (fun c669 => ?_) (fun c669 => ?_)
                · skip
                  refine q_iconst (v := nI 0) (pc2 := 677) C dL_plays_676 (by decide) rfl ?_
                  refine q_iadd (v := ((fp1 (35 + k8)) + nI 0)) (pc2 := 678) C dL_plays_677 (rfl) rfl ?_
                  refine q_iast (q0 := 28) (f := (fpB fp1 (fun k => levN fp1 fl2 S2 F V (t + i8 + 1) k b2) k8)) (ws' := (wT ct a x fc2 fb (upd (fpB fp1 (fun k => levN fp1 fl2 S2 F V (t + i8 + 1) k b2) k8) (35 + k8) ((fp1 (35 + k8)) + nI 0)) fq fn fl2)) (pc2 := 679) C (35 + k8) (wT_g2 ct a x fc2 fb (fpB fp1 (fun k => levN fp1 fl2 S2 F V (t + i8 + 1) k b2) k8) fq fn fl2) rfl (rfl) (by omega) (by decide) (wT_a2 ct a x fc2 fb (fpB fp1 (fun k => levN fp1 fl2 S2 F V (t + i8 + 1) k b2) k8) fq fn fl2 (upd (fpB fp1 (fun k => levN fp1 fl2 S2 F V (t + i8 + 1) k b2) k8) (35 + k8) ((fp1 (35 + k8)) + nI 0))) dL_plays_678 rfl ?_
                  refine q_iinc (v := nI (k8 + 1)) (lv' := [(14, .int (nI (k8 + 1))), (12, .int ((tkXS x n q i8).2 + advR (tkXS x n q i8).1 q (bOf (tkXS x n q i8).1))), (13, .int (nI i8)), (11, .int (nI 1)), (10, .int (nI mn)), (9, .int z), (8, .int v), (7, .ref (a 45)), (6, .ref (a 44)), (5, .ref (a 43)), (4, .ref (a 42)), (3, .ref (a 40)), (2, .int y), (1, .int (nI 3)), (0, .ref (a 30))]) (pc2 := 682) C 0 dL_plays_679 rfl (show nI k8 + Int32.ofInt 1 = nI (k8 + 1) by rw [show Int32.ofInt 1 = nI 1 from by decide]; exact nI_add k8 1) (by decide) rfl rfl ?_
                  refine q_goto (pc2 := 640) C dL_plays_682 (by decide) ?_
                  refine q_eqw (ws' := (wT ct a x fc2 fb (fpB fp1 (fun k => levN fp1 fl2 S2 F V (t + i8 + 1) k b2) (k8 + 1)) fq fn fl2)) (congrArg (fun z9 => wT ct a x fc2 fb z9 fq fn fl2) (fpB_s fp1 (fun k => levN fp1 fl2 S2 F V (t + i8 + 1) k b2) k8 (by rw [if_neg (Int32.not_lt.mpr c669)]))) ?_
                  exact ihk8
                · skip
                  refine q_iconst (v := nI 1) (pc2 := 673) C dL_plays_672 (by decide) rfl ?_
                  refine q_goto (pc2 := 677) C dL_plays_673 (by decide) ?_
                  refine q_iadd (v := ((fp1 (35 + k8)) + nI 1)) (pc2 := 678) C dL_plays_677 (rfl) rfl ?_
                  refine q_iast (q0 := 28) (f := (fpB fp1 (fun k => levN fp1 fl2 S2 F V (t + i8 + 1) k b2) k8)) (ws' := (wT ct a x fc2 fb (upd (fpB fp1 (fun k => levN fp1 fl2 S2 F V (t + i8 + 1) k b2) k8) (35 + k8) ((fp1 (35 + k8)) + nI 1)) fq fn fl2)) (pc2 := 679) C (35 + k8) (wT_g2 ct a x fc2 fb (fpB fp1 (fun k => levN fp1 fl2 S2 F V (t + i8 + 1) k b2) k8) fq fn fl2) rfl (rfl) (by omega) (by decide) (wT_a2 ct a x fc2 fb (fpB fp1 (fun k => levN fp1 fl2 S2 F V (t + i8 + 1) k b2) k8) fq fn fl2 (upd (fpB fp1 (fun k => levN fp1 fl2 S2 F V (t + i8 + 1) k b2) k8) (35 + k8) ((fp1 (35 + k8)) + nI 1))) dL_plays_678 rfl ?_
                  refine q_iinc (v := nI (k8 + 1)) (lv' := [(14, .int (nI (k8 + 1))), (12, .int ((tkXS x n q i8).2 + advR (tkXS x n q i8).1 q (bOf (tkXS x n q i8).1))), (13, .int (nI i8)), (11, .int (nI 1)), (10, .int (nI mn)), (9, .int z), (8, .int v), (7, .ref (a 45)), (6, .ref (a 44)), (5, .ref (a 43)), (4, .ref (a 42)), (3, .ref (a 40)), (2, .int y), (1, .int (nI 3)), (0, .ref (a 30))]) (pc2 := 682) C 0 dL_plays_679 rfl (show nI k8 + Int32.ofInt 1 = nI (k8 + 1) by rw [show Int32.ofInt 1 = nI 1 from by decide]; exact nI_add k8 1) (by decide) rfl rfl ?_
                  refine q_goto (pc2 := 640) C dL_plays_682 (by decide) ?_
                  refine q_eqw (ws' := (wT ct a x fc2 fb (fpB fp1 (fun k => levN fp1 fl2 S2 F V (t + i8 + 1) k b2) (k8 + 1)) fq fn fl2)) (congrArg (fun z9 => wT ct a x fc2 fb z9 fq fn fl2) (fpB_s fp1 (fun k => levN fp1 fl2 S2 F V (t + i8 + 1) k b2) k8 (by rw [if_pos (Int32.not_le.mp c669)]))) ?_
                  exact ihk8
              · skip
                refine q_iload (pc2 := 642) C 0 dL_plays_640 rfl rfl ?_
                refine q_aload_n (pc2 := 643) C 11 dL_plays_642 rfl rfl rfl ?_
                refine q_iconst (v := nI 3) (pc2 := 644) C dL_plays_643 (by decide) rfl ?_
                refine q_iald (q0 := 26) (f := fc2) (pc2 := 645) C 3 (wT_g0 ct a x fc2 fb (fpB fp1 (fun k => levN fp1 fl2 S2 F V (t + i8 + 1) k b2) n) fq fn fl2) rfl (rfl) (by decide) (by decide) dL_plays_644 rfl ?_
                refine q_eqi (y := nI n) (hw3) ?_
                refine q_icmp_ge (tgt := 685) (pc2 := 648) C dL_plays_645 (by decide) rfl (fun _ => ?_) (fun h9 => absurd (nI_le (a := n) (b := n) (by omega) (by omega)) h9)
                refine q_iinc (v := nI (i8 + 1)) (lv' := [(13, .int (nI (i8 + 1))), (14, .int (nI n)), (12, .int ((tkXS x n q i8).2 + advR (tkXS x n q i8).1 q (bOf (tkXS x n q i8).1))), (11, .int (nI 1)), (10, .int (nI mn)), (9, .int z), (8, .int v), (7, .ref (a 45)), (6, .ref (a 44)), (5, .ref (a 43)), (4, .ref (a 42)), (3, .ref (a 40)), (2, .int y), (1, .int (nI 3)), (0, .ref (a 30))]) (pc2 := 688) C 2 dL_plays_685 rfl (show nI i8 + Int32.ofInt 1 = nI (i8 + 1) by rw [show Int32.ofInt 1 = nI 1 from by decide]; exact nI_add i8 1) (by decide) rfl rfl ?_
                refine q_goto (pc2 := 555) C dL_plays_688 (by decide) ?_
                refine q_lv (lv' := [(13, .int (nI (i8 + 1))), (12, .int ((tkXS x n q i8).2 + advR (tkXS x n q i8).1 q (bOf (tkXS x n q i8).1))), (11, .int (nI 1)), (10, .int (nI mn)), (9, .int z), (8, .int v), (7, .ref (a 45)), (6, .ref (a 44)), (5, .ref (a 43)), (4, .ref (a 42)), (3, .ref (a 40)), (2, .int y), (1, .int (nI 3)), (0, .ref (a 30))]) [0, 2, 3, 4, 5, 6, 7, 8, 9, 10, 11, 12, 13, 14] rfl ?_
                exact ihi8 b2 S2 fc2 _ fl2 (st_burn r2 (by omega))
            refine q_aload_n (pc2 := 578) C 10 dL_plays_577 rfl rfl rfl ?_
            refine q_iconst (v := nI 5) (pc2 := 579) C dL_plays_578 (by decide) rfl ?_
            refine q_iald (q0 := 26) (f := (upd fc1 7 (nI ((t + i8) + 1)))) (pc2 := 580) C 5 (wT_g0 ct a x (upd fc1 7 (nI ((t + i8) + 1))) fb fp1 fq fn fl1) rfl (rfl) (by decide) (by decide) dL_plays_579 rfl ?_
            refine q_eqi (y := nI b1) ((upd_n (by decide)).trans (hz5)) ?_
            refine q_if_le (tgt := 633) (pc2 := 583) C dL_plays_580 (by decide) rfl (fun c580 => ?_) (fun c580 => ?_)
            · skip
              have k580 : b1 ≤ 0 := (nI_leI (a := b1) (b := 0) (by omega) (by omega)).mp c580
              refine q_iconst (v := nI 0) (pc2 := 634) C dL_plays_633 (by decide) rfl ?_
              refine q_iadd (v := ((tkXS x n q i8).2 + nI 0)) (pc2 := 635) C dL_plays_634 (rfl) rfl ?_
              have hdue : ¬ (0 < b1 ∧ 0 < fq (7 + b1) ∧ nI (t + i8 + 1) - nI (S1 (b1 - 1)) = fq (7 + b1)) := fun z => absurd z.1 (by omega)
              obtain ⟨r2, e2⟩ := hadv.2 hdue
              refine q_eqi (y := ((tkXS x n q i8).2 + advR (tkXS x n q i8).1 q (bOf (tkXS x n q i8).1))) (by rw [e2]) ?_
              refine q_istore (lv' := [(12, .int ((tkXS x n q i8).2 + advR (tkXS x n q i8).1 q (bOf (tkXS x n q i8).1))), (13, .int (nI i8)), (11, .int (nI 1)), (10, .int (nI mn)), (9, .int z), (8, .int v), (7, .ref (a 45)), (6, .ref (a 44)), (5, .ref (a 43)), (4, .ref (a 42)), (3, .ref (a 40)), (2, .int y), (1, .int (nI 3)), (0, .ref (a 30))]) (pc2 := 637) C dL_plays_635 (by decide) rfl rfl ?_
              exact hj637 b1 S1 _ fl1 r2
            · skip
              have k580 : 0 < b1 := (nI_ltI (a := 0) (b := b1) (by omega) (by omega)).mp (Int32.not_le.mp c580)
              refine q_aload (pc2 := 585) C 8 dL_plays_583 rfl rfl ?_
              refine q_bipush (v := nI 8) (pc2 := 587) C dL_plays_585 (by decide) rfl ?_
              refine q_aload_n (pc2 := 588) C 10 dL_plays_587 rfl rfl rfl ?_
              refine q_iconst (v := nI 5) (pc2 := 589) C dL_plays_588 (by decide) rfl ?_
              refine q_iald (q0 := 26) (f := (upd fc1 7 (nI ((t + i8) + 1)))) (pc2 := 590) C 5 (wT_g0 ct a x (upd fc1 7 (nI ((t + i8) + 1))) fb fp1 fq fn fl1) rfl (rfl) (by decide) (by decide) dL_plays_589 rfl ?_
              refine q_eqi (y := nI b1) ((upd_n (by decide)).trans (hz5)) ?_
              refine q_iadd (v := nI (8 + b1)) (pc2 := 591) C dL_plays_590 (nI_add 8 b1) rfl ?_
              refine q_iconst (v := nI 1) (pc2 := 592) C dL_plays_591 (by decide) rfl ?_
              refine q_isub (v := nI (7 + b1)) (pc2 := 593) C dL_plays_592 (by rw [show 8 + b1 = 7 + b1 + 1 by omega]; exact nI_pred (7 + b1)) rfl ?_
              refine q_iald (q0 := 29) (f := fq) (pc2 := 594) C (7 + b1) (wT_g3 ct a x (upd fc1 7 (nI ((t + i8) + 1))) fb fp1 fq fn fl1) rfl (rfl) (by omega) (by decide) dL_plays_593 rfl ?_
              refine q_if_le (tgt := 633) (pc2 := 597) C dL_plays_594 (by decide) rfl (fun c594 => ?_) (fun c594 => ?_)
              · skip
                refine q_iconst (v := nI 0) (pc2 := 634) C dL_plays_633 (by decide) rfl ?_
                refine q_iadd (v := ((tkXS x n q i8).2 + nI 0)) (pc2 := 635) C dL_plays_634 (rfl) rfl ?_
                have hdue : ¬ (0 < b1 ∧ 0 < fq (7 + b1) ∧ nI (t + i8 + 1) - nI (S1 (b1 - 1)) = fq (7 + b1)) := fun z => absurd c594 (Int32.not_le.mpr z.2.1)
                obtain ⟨r2, e2⟩ := hadv.2 hdue
                refine q_eqi (y := ((tkXS x n q i8).2 + advR (tkXS x n q i8).1 q (bOf (tkXS x n q i8).1))) (by rw [e2]) ?_
                refine q_istore (lv' := [(12, .int ((tkXS x n q i8).2 + advR (tkXS x n q i8).1 q (bOf (tkXS x n q i8).1))), (13, .int (nI i8)), (11, .int (nI 1)), (10, .int (nI mn)), (9, .int z), (8, .int v), (7, .ref (a 45)), (6, .ref (a 44)), (5, .ref (a 43)), (4, .ref (a 42)), (3, .ref (a 40)), (2, .int y), (1, .int (nI 3)), (0, .ref (a 30))]) (pc2 := 637) C dL_plays_635 (by decide) rfl rfl ?_
                exact hj637 b1 S1 _ fl1 r2
              · skip
                refine q_aload_n (pc2 := 598) C 10 dL_plays_597 rfl rfl rfl ?_
                refine q_bipush (v := nI 7) (pc2 := 600) C dL_plays_598 (by decide) rfl ?_
                refine q_iald (q0 := 26) (f := (upd fc1 7 (nI ((t + i8) + 1)))) (pc2 := 601) C 7 (wT_g0 ct a x (upd fc1 7 (nI ((t + i8) + 1))) fb fp1 fq fn fl1) rfl (rfl) (by decide) (by decide) dL_plays_600 rfl ?_
                refine q_eqi (y := nI ((t + i8) + 1)) (upd_s) ?_
                refine q_aload_n (pc2 := 602) C 10 dL_plays_601 rfl rfl rfl ?_
                refine q_bipush (v := nI 6) (pc2 := 604) C dL_plays_602 (by decide) rfl ?_
                refine q_iald (q0 := 26) (f := (upd fc1 7 (nI ((t + i8) + 1)))) (pc2 := 605) C 6 (wT_g0 ct a x (upd fc1 7 (nI ((t + i8) + 1))) fb fp1 fq fn fl1) rfl (rfl) (by decide) (by decide) dL_plays_604 rfl ?_
                refine q_eqi (y := nI (S1 (b1 - 1))) ((upd_n (by decide)).trans ((hz6 (by omega)))) ?_
                refine q_isub (v := (nI ((t + i8) + 1) - nI (S1 (b1 - 1)))) (pc2 := 606) C dL_plays_605 (rfl) rfl ?_
                refine q_aload (pc2 := 608) C 8 dL_plays_606 rfl rfl ?_
                refine q_bipush (v := nI 8) (pc2 := 610) C dL_plays_608 (by decide) rfl ?_
                refine q_aload_n (pc2 := 611) C 10 dL_plays_610 rfl rfl rfl ?_
                refine q_iconst (v := nI 5) (pc2 := 612) C dL_plays_611 (by decide) rfl ?_
                refine q_iald (q0 := 26) (f := (upd fc1 7 (nI ((t + i8) + 1)))) (pc2 := 613) C 5 (wT_g0 ct a x (upd fc1 7 (nI ((t + i8) + 1))) fb fp1 fq fn fl1) rfl (rfl) (by decide) (by decide) dL_plays_612 rfl ?_
                refine q_eqi (y := nI b1) ((upd_n (by decide)).trans (hz5)) ?_
                refine q_iadd (v := nI (8 + b1)) (pc2 := 614) C dL_plays_613 (nI_add 8 b1) rfl ?_
                refine q_iconst (v := nI 1) (pc2 := 615) C dL_plays_614 (by decide) rfl ?_
                refine q_isub (v := nI (7 + b1)) (pc2 := 616) C dL_plays_615 (by rw [show 8 + b1 = 7 + b1 + 1 by omega]; exact nI_pred (7 + b1)) rfl ?_
                refine q_iald (q0 := 29) (f := fq) (pc2 := 617) C (7 + b1) (wT_g3 ct a x (upd fc1 7 (nI ((t + i8) + 1))) fb fp1 fq fn fl1) rfl (rfl) (by omega) (by decide) dL_plays_616 rfl ?_
                refine q_icmp_ne (tgt := 633) (pc2 := 620) C dL_plays_617 (by decide) rfl (fun c617 => ?_) (fun c617 => ?_)
                · skip
                  refine q_iconst (v := nI 0) (pc2 := 634) C dL_plays_633 (by decide) rfl ?_
                  refine q_iadd (v := ((tkXS x n q i8).2 + nI 0)) (pc2 := 635) C dL_plays_634 (rfl) rfl ?_
                  have hdue : ¬ (0 < b1 ∧ 0 < fq (7 + b1) ∧ nI (t + i8 + 1) - nI (S1 (b1 - 1)) = fq (7 + b1)) := fun z => c617 z.2.2
                  obtain ⟨r2, e2⟩ := hadv.2 hdue
                  refine q_eqi (y := ((tkXS x n q i8).2 + advR (tkXS x n q i8).1 q (bOf (tkXS x n q i8).1))) (by rw [e2]) ?_
                  refine q_istore (lv' := [(12, .int ((tkXS x n q i8).2 + advR (tkXS x n q i8).1 q (bOf (tkXS x n q i8).1))), (13, .int (nI i8)), (11, .int (nI 1)), (10, .int (nI mn)), (9, .int z), (8, .int v), (7, .ref (a 45)), (6, .ref (a 44)), (5, .ref (a 43)), (4, .ref (a 42)), (3, .ref (a 40)), (2, .int y), (1, .int (nI 3)), (0, .ref (a 30))]) (pc2 := 637) C dL_plays_635 (by decide) rfl rfl ?_
                  exact hj637 b1 S1 _ fl1 r2
                · skip
                  refine q_aload_n (pc2 := 621) C 10 dL_plays_620 rfl rfl rfl ?_
                  refine q_aload (pc2 := 623) C 8 dL_plays_621 rfl rfl ?_
                  refine q_aload (pc2 := 625) C 7 dL_plays_623 rfl rfl ?_
                  refine q_aload (pc2 := 627) C 6 dL_plays_625 rfl rfl ?_
                  have hMb := c_L_begins l D ct a (upd fc1 7 (nI ((t + i8) + 1))) fb fp1 fq fn fl1 b1 q ((upd_n (by decide)).trans hz5) ((upd_n (by decide)).trans hz4) yq hq4
                  rw [upd_s] at hMb
                  refine q_NS_wT (pc2 := 630) (As := [.ref (a 40), .ref (a 43), .ref (a 44), .ref (a 45)]) (st := [.int ((tkXS x n q i8).2)]) (st2 := [.int (nI ((bgR (nI (t + i8 + 1)) fq fn (q - b1) b1 fl1).1 - b1)), .int ((tkXS x n q i8).2)]) C (hMb) (va_cwS 4 C.w gL_plays_L_begins rfl rfl rfl (by decide +kernel) ⟨Nat.le_of_ble_eq_true rfl, Nat.le_of_ble_eq_true rfl⟩) dL_plays_627 rfl rfl (Nat.le_of_ble_eq_true rfl) ⟨Nat.zero_le _, Nat.zero_le _⟩ rfl rfl ?_
                  refine q_goto (pc2 := 634) C dL_plays_630 (by decide) ?_
                  refine q_iadd (v := ((tkXS x n q i8).2 + nI ((bgR (nI (t + i8 + 1)) fq fn (q - b1) b1 fl1).1 - b1))) (pc2 := 635) C dL_plays_634 (rfl) rfl ?_
                  have hdue : (0 < b1 ∧ 0 < fq (7 + b1) ∧ nI (t + i8 + 1) - nI (S1 (b1 - 1)) = fq (7 + b1)) := ⟨by omega, Int32.not_le.mp c594, c617⟩
                  obtain ⟨S2, r2, e2⟩ := hadv.1 hdue
                  refine q_eqi (y := ((tkXS x n q i8).2 + advR (tkXS x n q i8).1 q (bOf (tkXS x n q i8).1))) (by rw [e2]) ?_
                  refine q_istore (lv' := [(12, .int ((tkXS x n q i8).2 + advR (tkXS x n q i8).1 q (bOf (tkXS x n q i8).1))), (13, .int (nI i8)), (11, .int (nI 1)), (10, .int (nI mn)), (9, .int z), (8, .int v), (7, .ref (a 45)), (6, .ref (a 44)), (5, .ref (a 43)), (4, .ref (a 42)), (3, .ref (a 40)), (2, .int y), (1, .int (nI 3)), (0, .ref (a 30))]) (pc2 := 637) C dL_plays_635 (by decide) rfl rfl ?_
                  exact hj637 _ S2 _ _ r2
          · intro b1 S1 fc1 fp1 fl1 hyi8
            refine q_iload (pc2 := 557) C 0 dL_plays_555 rfl rfl ?_
            refine q_iload (pc2 := 559) C 3 dL_plays_557 rfl rfl ?_
            refine q_icmp_ge (tgt := 691) (pc2 := 562) C dL_plays_559 (by decide) rfl (fun _ => ?_) (fun h9 => absurd (nI_le (a := mn) (b := mn) (by omega) (by omega)) h9)
            refine q_aload_n (pc2 := 692) C 13 dL_plays_691 rfl rfl rfl ?_
            refine q_iconst (v := nI 0) (pc2 := 693) C dL_plays_692 (by decide) rfl ?_
            refine q_iload (pc2 := 695) C 3 dL_plays_693 rfl rfl ?_
            have hM := c_X3_tick l hl D ct a x n hx0 (by omega) q hx16 (by omega) hfd b hx22 hbq (nI mn)
            rw [nI_clamp (show mn < 2 ^ 31 by omega)] at hM
            refine q_Hok_wT (pc2 := 698) (As := [.ref (a 30), .int (nI 0), .int (nI mn)]) (st := []) (st2 := [.int ((tkXS x n q mn).2)]) (x' := (tkXS x n q mn).1) C (c_L_ticks0 l D ct a x _ (nI mn) _ _ hM) (if_pos (show 1 ≤ nI mn ∧ nI mn ≤ 50 from ⟨nI_le (a := 1) (by omega) (by omega), nI_le (b := 50) (by omega) (by omega)⟩)) (vx_cwSW 3 C.w gL_plays_L_ticks rfl rfl rfl (by decide +kernel) ⟨Nat.le_of_ble_eq_true rfl, Nat.le_of_ble_eq_true rfl⟩) dL_plays_695 rfl rfl (Nat.le_of_ble_eq_true rfl) ⟨Nat.zero_le _, Nat.zero_le _⟩ rfl rfl ?_
            refine q_iload (pc2 := 700) C 2 dL_plays_698 rfl rfl ?_
            refine q_if_eq (tgt := 708) (pc2 := 703) C dL_plays_700 (by decide) rfl (fun h9 => absurd h9 (by decide)) (fun _ => ?_)
            refine q_iload (pc2 := 705) C 1 dL_plays_703 rfl rfl ?_
            refine q_goto (pc2 := 710) C dL_plays_705 (by decide) ?_
            refine q_icmp_ne (tgt := 717) (pc2 := 713) C dL_plays_710 (by decide) rfl (fun h9 => absurd (rfl) h9) (fun _ => ?_)
            refine q_iconst (v := nI 1) (pc2 := 714) C dL_plays_713 (by decide) rfl ?_
            refine q_goto (pc2 := 718) C dL_plays_714 (by decide) ?_
            exact q_zret C hQ rfl (rfl) (Nat.zero_le _) (Nat.zero_le _) dL_plays_718 ⟨rfl, _, _, _, _, _, _, _, rfl, ⟨n, h, q, _, t + mn, kb, K, _, F, V, by omega, hyi8⟩⟩
    refine q_iload_n (pc2 := 497) C 4 dL_plays_496 rfl rfl rfl ?_
    refine q_bipush (v := nI 40) (pc2 := 499) C dL_plays_497 (by decide) rfl ?_
    refine q_some (pc2 := 502) C (v := y) 40 (by omega) (by omega) (va_cwS 2 C.w gL_plays_L_some rfl rfl rfl (by decide +kernel) ⟨Nat.le_of_ble_eq_true rfl, Nat.le_of_ble_eq_true rfl⟩) dL_plays_499 rfl ⟨Nat.le_of_ble_eq_true rfl, Nat.le_of_ble_eq_true rfl⟩ (Nat.le_of_ble_eq_true rfl) (fun m499 hm499 => ?_)
    refine q_if_ne (tgt := 518) (pc2 := 505) C dL_plays_502 (by decide) rfl (fun c502 => ?_) (fun c502 => ?_)
    · skip
      have k502 : m499 ≠ 0 := fun z => c502 ((nI_eq (a := m499) (b := 0) (by omega) (by omega)).mpr z)
      refine q_iconst (v := nI 1) (pc2 := 519) C dL_plays_518 (by decide) rfl ?_
      refine q_iload_n (pc2 := 520) C 4 dL_plays_519 rfl rfl rfl ?_
      refine q_iconst (v := nI 2) (pc2 := 521) C dL_plays_520 (by decide) rfl ?_
      refine q_ishr (v := (y >>> (nI 2 &&& 31))) (pc2 := 522) C dL_plays_521 (rfl) rfl ?_
      refine q_bipush (v := nI 12) (pc2 := 524) C dL_plays_522 (by decide) rfl ?_
      refine q_some (pc2 := 527) C (v := (y >>> (nI 2 &&& 31))) 12 (by omega) (by omega) (va_cwS 2 C.w gL_plays_L_some rfl rfl rfl (by decide +kernel) ⟨Nat.le_of_ble_eq_true rfl, Nat.le_of_ble_eq_true rfl⟩) dL_plays_524 rfl ⟨Nat.le_of_ble_eq_true rfl, Nat.le_of_ble_eq_true rfl⟩ (Nat.le_of_ble_eq_true rfl) (fun m524 hm524 => ?_)
      refine q_iadd (v := nI (1 + m524)) (pc2 := 528) C dL_plays_527 (nI_add 1 m524) rfl ?_
      exact hj528 (1 + m524) (by omega)
    · skip
      have k502 : m499 = 0 := (nI_eq (a := m499) (b := 0) (by omega) (by omega)).mp (c502)
      refine q_bipush (v := nI 51) (pc2 := 507) C dL_plays_505 (by decide) rfl ?_
      refine q_iload_n (pc2 := 508) C 4 dL_plays_507 rfl rfl rfl ?_
      refine q_iconst (v := nI 3) (pc2 := 509) C dL_plays_508 (by decide) rfl ?_
      refine q_ishr (v := (y >>> (nI 3 &&& 31))) (pc2 := 510) C dL_plays_509 (rfl) rfl ?_
      refine q_iconst (v := nI 2) (pc2 := 511) C dL_plays_510 (by decide) rfl ?_
      refine q_some (pc2 := 514) C (v := (y >>> (nI 3 &&& 31))) 2 (by omega) (by omega) (va_cwS 2 C.w gL_plays_L_some rfl rfl rfl (by decide +kernel) ⟨Nat.le_of_ble_eq_true rfl, Nat.le_of_ble_eq_true rfl⟩) dL_plays_511 rfl ⟨Nat.le_of_ble_eq_true rfl, Nat.le_of_ble_eq_true rfl⟩ (Nat.le_of_ble_eq_true rfl) (fun m511 hm511 => ?_)
      refine q_imul (v := nI (51 * m511)) (pc2 := 515) C dL_plays_514 (pk_mul 51 m511) rfl ?_
      refine q_goto (pc2 := 528) C dL_plays_515 (by decide) ?_
      exact hj528 (51 * m511) (by omega)
  refine q_iload_n (pc2 := 1) C 2 dL_plays_0 rfl rfl rfl ?_
  refine q_aload_n (pc2 := 2) C 3 dL_plays_1 rfl rfl rfl ?_
  refine q_iconst (v := nI 3) (pc2 := 3) C dL_plays_2 (by decide) rfl ?_
  refine q_iald (q0 := 26) (f := fc) (pc2 := 4) C 3 (wT_g0 ct a x fc fb fp fq fn fl) rfl (rfl) (by decide) (by decide) dL_plays_3 rfl ?_
  refine q_eqi (y := nI n) (hc3) ?_
  refine q_iconst (v := nI 1) (pc2 := 5) C dL_plays_4 (by decide) rfl ?_
  refine q_iadd (v := nI (n + 1)) (pc2 := 6) C dL_plays_5 (nI_add n 1) rfl ?_
  refine q_some (pc2 := 9) C (v := y) (n + 1) (by omega) (by omega) (va_cwS 2 C.w gL_plays_L_some rfl rfl rfl (by decide +kernel) ⟨Nat.le_of_ble_eq_true rfl, Nat.le_of_ble_eq_true rfl⟩) dL_plays_6 rfl ⟨Nat.le_of_ble_eq_true rfl, Nat.le_of_ble_eq_true rfl⟩ (Nat.le_of_ble_eq_true rfl) (fun m6 hm6 => ?_)
  have hj26 : ∀ e1 : Nat, (e1 ≤ 1) → Cf p l e ({ frames := 9, cells := 2, slots := 12, locals := 180 }) s m args below meth c D A 15 0 0 Q 26 [(0, .ref (a 30)), (1, .int (nI 3)), (2, .int y), (3, .ref (a 40)), (4, .ref (a 42)), (5, .ref (a 43)), (6, .ref (a 44)), (7, .ref (a 45))] [.int (nI e1), .int (nI m6)] (wT ct a x fc fb fp fq fn fl) := by
    intro e1 he1
    rcases pick_lamp hn5 hm6 he1 with ⟨i, hi, ei⟩ | hv
    · skip
      refine q_isub (v := nI i) (pc2 := 27) C dL_plays_26 (ei) rfl ?_
      refine q_istore (lv' := [(8, .int (nI i)), (0, .ref (a 30)), (1, .int (nI 3)), (2, .int y), (3, .ref (a 40)), (4, .ref (a 42)), (5, .ref (a 43)), (6, .ref (a 44)), (7, .ref (a 45))]) (pc2 := 29) C dL_plays_27 (by decide) rfl rfl ?_
      refine q_iload (pc2 := 31) C 0 dL_plays_29 rfl rfl ?_
      refine q_if_lt (tgt := 46) (pc2 := 34) C dL_plays_31 (by decide) rfl (fun h9 => absurd h9 (nI_nlt (a := i) (b := 0) (by omega) (by omega))) (fun _ => ?_)
      refine q_iload (pc2 := 36) C 0 dL_plays_34 rfl rfl ?_
      refine q_aload_n (pc2 := 37) C 4 dL_plays_36 rfl rfl rfl ?_
      refine q_iconst (v := nI 3) (pc2 := 38) C dL_plays_37 (by decide) rfl ?_
      refine q_iald (q0 := 26) (f := fc) (pc2 := 39) C 3 (wT_g0 ct a x fc fb fp fq fn fl) rfl (rfl) (by decide) (by decide) dL_plays_38 rfl ?_
      refine q_eqi (y := nI n) (hc3) ?_
      refine q_icmp_ge (tgt := 46) (pc2 := 42) C dL_plays_39 (by decide) rfl (fun h9 => absurd h9 (nI_ge (a := i) (b := n) (by omega) (by omega))) (fun _ => ?_)
      refine q_iconst (v := nI 1) (pc2 := 43) C dL_plays_42 (by decide) rfl ?_
      refine q_goto (pc2 := 47) C dL_plays_43 (by decide) ?_
      refine q_istore (lv' := [(9, .int (nI 1)), (8, .int (nI i)), (0, .ref (a 30)), (1, .int (nI 3)), (2, .int y), (3, .ref (a 40)), (4, .ref (a 42)), (5, .ref (a 43)), (6, .ref (a 44)), (7, .ref (a 45))]) (pc2 := 49) C dL_plays_47 (by decide) rfl rfl ?_
      exact hG _ _
    · skip
      refine q_isub (v := (nI m6 - nI e1)) (pc2 := 27) C dL_plays_26 (rfl) rfl ?_
      refine q_istore (lv' := [(8, .int (nI m6 - nI e1)), (0, .ref (a 30)), (1, .int (nI 3)), (2, .int y), (3, .ref (a 40)), (4, .ref (a 42)), (5, .ref (a 43)), (6, .ref (a 44)), (7, .ref (a 45))]) (pc2 := 29) C dL_plays_27 (by decide) rfl rfl ?_
      refine q_iload (pc2 := 31) C 0 dL_plays_29 rfl rfl ?_
      refine q_if_lt (tgt := 46) (pc2 := 34) C dL_plays_31 (by decide) rfl (fun c31 => ?_) (fun c31 => ?_)
      · skip
        refine q_iconst (v := nI 0) (pc2 := 47) C dL_plays_46 (by decide) rfl ?_
        refine q_istore (lv' := [(9, .int (nI 0)), (8, .int (nI m6 - nI e1)), (0, .ref (a 30)), (1, .int (nI 3)), (2, .int y), (3, .ref (a 40)), (4, .ref (a 42)), (5, .ref (a 43)), (6, .ref (a 44)), (7, .ref (a 45))]) (pc2 := 49) C dL_plays_47 (by decide) rfl rfl ?_
        exact hG _ _
      · skip
        refine q_iload (pc2 := 36) C 0 dL_plays_34 rfl rfl ?_
        refine q_aload_n (pc2 := 37) C 4 dL_plays_36 rfl rfl rfl ?_
        refine q_iconst (v := nI 3) (pc2 := 38) C dL_plays_37 (by decide) rfl ?_
        refine q_iald (q0 := 26) (f := fc) (pc2 := 39) C 3 (wT_g0 ct a x fc fb fp fq fn fl) rfl (rfl) (by decide) (by decide) dL_plays_38 rfl ?_
        refine q_eqi (y := nI n) (hc3) ?_
        refine q_icmp_ge (tgt := 46) (pc2 := 42) C dL_plays_39 (by decide) rfl (fun _ => ?_) (fun h9 => absurd (Int32.not_lt.mp (fun z9 => hv ⟨Int32.not_lt.mp c31, z9⟩)) h9)
        refine q_iconst (v := nI 0) (pc2 := 47) C dL_plays_46 (by decide) rfl ?_
        refine q_istore (lv' := [(9, .int (nI 0)), (8, .int (nI m6 - nI e1)), (0, .ref (a 30)), (1, .int (nI 3)), (2, .int y), (3, .ref (a 40)), (4, .ref (a 42)), (5, .ref (a 43)), (6, .ref (a 44)), (7, .ref (a 45))]) (pc2 := 49) C dL_plays_47 (by decide) rfl rfl ?_
        exact hG _ _
  refine q_iload_n (pc2 := 10) C 2 dL_plays_9 rfl rfl rfl ?_
  refine q_bipush (v := nI 11) (pc2 := 12) C dL_plays_10 (by decide) rfl ?_
  refine q_ishr (v := (y >>> (nI 11 &&& 31))) (pc2 := 13) C dL_plays_12 (rfl) rfl ?_
  refine q_bipush (v := nI 19) (pc2 := 15) C dL_plays_13 (by decide) rfl ?_
  refine q_some (pc2 := 18) C (v := (y >>> (nI 11 &&& 31))) 19 (by omega) (by omega) (va_cwS 2 C.w gL_plays_L_some rfl rfl rfl (by decide +kernel) ⟨Nat.le_of_ble_eq_true rfl, Nat.le_of_ble_eq_true rfl⟩) dL_plays_15 rfl ⟨Nat.le_of_ble_eq_true rfl, Nat.le_of_ble_eq_true rfl⟩ (Nat.le_of_ble_eq_true rfl) (fun m15 hm15 => ?_)
  refine q_if_ne (tgt := 25) (pc2 := 21) C dL_plays_18 (by decide) rfl (fun c18 => ?_) (fun c18 => ?_)
  · skip
    have k18 : m15 ≠ 0 := fun z => c18 ((nI_eq (a := m15) (b := 0) (by omega) (by omega)).mpr z)
    refine q_iconst (v := nI 0) (pc2 := 26) C dL_plays_25 (by decide) rfl ?_
    exact hj26 0 (by omega)
  · skip
    have k18 : m15 = 0 := (nI_eq (a := m15) (b := 0) (by omega) (by omega)).mp (c18)
    refine q_iconst (v := nI 1) (pc2 := 22) C dL_plays_21 (by decide) rfl ?_
    refine q_goto (pc2 := 26) C dL_plays_22 (by decide) ?_
    exact hj26 1 (by omega)

