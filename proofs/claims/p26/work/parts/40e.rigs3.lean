/-! rigs: down -/
set_option maxHeartbeats 4000000 in
set_option maxRecDepth 100000 in
theorem c_L_rigs_3 (l : Launch) (D : va_G) (ct : Nat → ClassId) (hl : l.stackTraces = false) (a : Nat → Nat) (x : Nat → Nat → Int32) (fc fb fp fq fn fl : Nat → Int32) (y : Int32) (M : Nat) (r0 : RE M x fc fb fp fq fn fl) : qM l yL_rigs wsL_rigs ({ frames := 9, cells := 2, slots := 12, locals := 158 }) D ct [.ref (a 30), .int (nI 3), .int y, .ref (a 40), .ref (a 41), .ref (a 42)] (wT ct a x fc fb fp fq fn fl) (pR ct a (M + 50)) 2 12 := by
  refine q_start (ret := some .boolean) (lv := [(0, .ref (a 30)), (1, .int (nI 3)), (2, .int y), (3, .ref (a 40)), (4, .ref (a 41)), (5, .ref (a 42))]) (by decide +kernel) rfl (Nat.le_of_ble_eq_true rfl) rfl ?_
  intro p e s m args below meth c A Q C hQ hnm
  obtain ⟨n, h, q, b, t, kb, K, S, F, V, ht, r⟩ := r0
  obtain ⟨rh, rl, rr, rp, rc, rs, hbq⟩ := id r
  obtain ⟨hlt, hx4, hc0, hkbs, hlen⟩ := id rh
  obtain ⟨hn5, hx0, hc3, hlow, hall, hhigh⟩ := id rl
  obtain ⟨hq4, hx16, hc4, hcue, hfd, hnam, hnaz⟩ := id rc
  obtain ⟨hx22, hc5, hx21, hc7, hc6, hx23, hfl, hlvr, hlev⟩ := id rs
  obtain ⟨hkb2, hx5, hck⟩ := hkbs h hlt
  have hK : ∀ k, k < n → fp k = nI (K k) ∧ K k < 4 := fun k hk => ⟨(hlow k hk).2.1, (hlow k hk).1⟩
  have hb4 : b ≤ 4 := by omega
  have hA : ∀ i, i < n → Cf p l e ({ frames := 9, cells := 2, slots := 12, locals := 158 }) s m args below meth c D A 14 0 0 Q 49 [(7, .int (nI 1)), (6, .int (nI i)), (0, .ref (a 30)), (1, .int (nI 3)), (2, .int y), (3, .ref (a 40)), (4, .ref (a 41)), (5, .ref (a 42))] [] (wT ct a x fc fb fp fq fn fl) := by
    intro i hi
    refine q_iload_n (pc2 := 50) C 3 dL_rigs_49 rfl rfl rfl ?_
    refine q_if_ne (tgt := 267) (pc2 := 53) C dL_rigs_50 (by decide) rfl (fun _ => ?_) (fun h9 => absurd h9 (by decide))
    refine q_iload_n (pc2 := 268) C 3 dL_rigs_267 rfl rfl rfl ?_
    refine q_iconst (v := nI 1) (pc2 := 269) C dL_rigs_268 (by decide) rfl ?_
    refine q_icmp_ne (tgt := 448) (pc2 := 272) C dL_rigs_269 (by decide) rfl (fun _ => ?_) (fun h9 => absurd h9 (by decide))
    refine q_iload_n (pc2 := 449) C 3 dL_rigs_448 rfl rfl rfl ?_
    refine q_iconst (v := nI 2) (pc2 := 450) C dL_rigs_449 (by decide) rfl ?_
    refine q_icmp_ne (tgt := 628) (pc2 := 453) C dL_rigs_450 (by decide) rfl (fun _ => ?_) (fun h9 => absurd h9 (by decide))
    refine q_iload_n (pc2 := 629) C 3 dL_rigs_628 rfl rfl rfl ?_
    refine q_iconst (v := nI 3) (pc2 := 630) C dL_rigs_629 (by decide) rfl ?_
    refine q_icmp_ne (tgt := 694) (pc2 := 633) C dL_rigs_630 (by decide) rfl (fun h9 => absurd (by decide) h9) (fun _ => ?_)
    refine q_iload (pc2 := 635) C 0 dL_rigs_633 rfl rfl ?_
    refine q_if_ne (tgt := 643) (pc2 := 638) C dL_rigs_635 (by decide) rfl (fun _ => ?_) (fun h9 => absurd h9 (by decide))
    refine q_aload (pc2 := 645) C 7 dL_rigs_643 rfl rfl ?_
    refine q_bipush (v := nI 10) (pc2 := 647) C dL_rigs_645 (by decide) rfl ?_
    refine q_iload (pc2 := 649) C 1 dL_rigs_647 rfl rfl ?_
    refine q_iadd (v := nI (10 + i)) (pc2 := 650) C dL_rigs_649 (nI_add 10 i) rfl ?_
    refine q_iald (q0 := 28) (f := fp) (pc2 := 651) C (10 + i) (wT_g2 ct a x fc fb fp fq fn fl) rfl (rfl) (by omega) (by decide) dL_rigs_650 rfl ?_
    refine q_if_lt (tgt := 658) (pc2 := 654) C dL_rigs_651 (by decide) rfl (fun c651 => ?_) (fun c651 => ?_)
    · skip
      refine q_iconst (v := nI 0) (pc2 := 659) C dL_rigs_658 (by decide) rfl ?_
      refine q_istore (lv' := [(8, .int (nI 0)), (7, .int (nI 1)), (6, .int (nI i)), (0, .ref (a 30)), (1, .int (nI 3)), (2, .int y), (3, .ref (a 40)), (4, .ref (a 41)), (5, .ref (a 42))]) (pc2 := 661) C dL_rigs_659 (by decide) rfl rfl ?_
      have hn9 : x 9 i = fp (10 + i) → fp (10 + i) < 0 → x 9 i ≠ -1 → False := fun e1 e2 e3 => by
        rcases rp.1 i hi with w | ⟨j, hj, w⟩
        · exact e3 (e1.trans w)
        · rw [w] at e2; exact nI_pos (by omega) e2
      refine q_iload (pc2 := 663) C 1 dL_rigs_661 rfl rfl ?_
      refine q_if_eq (tgt := 675) (pc2 := 666) C dL_rigs_663 (by decide) rfl (fun h9 => absurd h9 (by decide)) (fun _ => ?_)
      refine q_aload (pc2 := 668) C 8 dL_rigs_666 rfl rfl ?_
      refine q_bipush (v := nI 10) (pc2 := 670) C dL_rigs_668 (by decide) rfl ?_
      refine q_iload (pc2 := 672) C 2 dL_rigs_670 rfl rfl ?_
      refine q_iadd (v := nI (10 + i)) (pc2 := 673) C dL_rigs_672 (nI_add 10 i) rfl ?_
      refine q_iconst (v := (-1)) (pc2 := 674) C dL_rigs_673 (by decide) rfl ?_
      refine q_iast (q0 := 28) (f := fp) (ws' := (wT ct a x fc fb (upd fp (10 + i) (-1)) fq fn fl)) (pc2 := 675) C (10 + i) (wT_g2 ct a x fc fb fp fq fn fl) rfl (rfl) (by omega) (by decide) (wT_a2 ct a x fc fb fp fq fn fl (upd fp (10 + i) (-1))) dL_rigs_674 rfl ?_
      refine q_aload_n (pc2 := 676) C 3 dL_rigs_675 rfl rfl rfl ?_
      refine q_iconst (v := nI 0) (pc2 := 677) C dL_rigs_676 (by decide) rfl ?_
      refine q_iload (pc2 := 679) C 2 dL_rigs_677 rfl rfl ?_
      refine q_iconst (v := nI 0) (pc2 := 680) C dL_rigs_679 (by decide) rfl ?_
      have hM := c_X3_down l hl D ct a x n hx0 (by omega) (nI i)
      rw [hx0] at hM
      rw [nI_clamp (show i < 2 ^ 31 by omega)] at hM
      refine q_Hok_wT (pc2 := 683) (As := [.ref (a 30), .int (nI 0), .int (nI i), .int (nI 0)]) (st := []) (st2 := [.int (b2 (x 9 i ≠ -1))]) (x' := (set2 x 9 (upd (x 9) i (-1)))) C (c_L_of0 l D ct a x _ (nI i) (nI 0) _ _ (b2_01 _) hM) (if_pos (show 0 ≤ nI i ∧ nI i < nI n from ⟨nI_pos' (by omega), nI_lt hi (by omega)⟩)) (vx_cwSW 4 C.w gL_rigs_L_of rfl rfl rfl (by decide +kernel) ⟨Nat.le_of_ble_eq_true rfl, Nat.le_of_ble_eq_true rfl⟩) dL_rigs_680 rfl rfl (Nat.le_of_ble_eq_true rfl) ⟨Nat.zero_le _, Nat.zero_le _⟩ rfl rfl ?_
      refine q_iload (pc2 := 685) C 0 dL_rigs_683 rfl rfl ?_
      refine q_icmp_ne (tgt := 692) (pc2 := 688) C dL_rigs_685 (by decide) rfl (fun h9 => absurd (b2_f (c := x 9 i ≠ -1) (fun z => hn9 ((hlow i hi).2.2.2.2.2.2.1) c651 z)) h9) (fun _ => ?_)
      refine q_iconst (v := nI 1) (pc2 := 689) C dL_rigs_688 (by decide) rfl ?_
      refine q_goto (pc2 := 693) C dL_rigs_689 (by decide) ?_
      exact q_zret C hQ rfl (rfl) (Nat.zero_le _) (Nat.zero_le _) dL_rigs_693 ⟨rfl, _, _, _, _, _, _, _, rfl, ⟨n, h, q, b, t, kb, K, S, F, V, Nat.le_trans ht (Nat.le_add_right M 50), st_down r hi⟩⟩
    · skip
      refine q_iconst (v := nI 1) (pc2 := 655) C dL_rigs_654 (by decide) rfl ?_
      refine q_goto (pc2 := 659) C dL_rigs_655 (by decide) ?_
      refine q_istore (lv' := [(8, .int (nI 1)), (7, .int (nI 1)), (6, .int (nI i)), (0, .ref (a 30)), (1, .int (nI 3)), (2, .int y), (3, .ref (a 40)), (4, .ref (a 41)), (5, .ref (a 42))]) (pc2 := 661) C dL_rigs_659 (by decide) rfl rfl ?_
      refine q_iload (pc2 := 663) C 1 dL_rigs_661 rfl rfl ?_
      refine q_if_eq (tgt := 675) (pc2 := 666) C dL_rigs_663 (by decide) rfl (fun h9 => absurd h9 (by decide)) (fun _ => ?_)
      refine q_aload (pc2 := 668) C 8 dL_rigs_666 rfl rfl ?_
      refine q_bipush (v := nI 10) (pc2 := 670) C dL_rigs_668 (by decide) rfl ?_
      refine q_iload (pc2 := 672) C 2 dL_rigs_670 rfl rfl ?_
      refine q_iadd (v := nI (10 + i)) (pc2 := 673) C dL_rigs_672 (nI_add 10 i) rfl ?_
      refine q_iconst (v := (-1)) (pc2 := 674) C dL_rigs_673 (by decide) rfl ?_
      refine q_iast (q0 := 28) (f := fp) (ws' := (wT ct a x fc fb (upd fp (10 + i) (-1)) fq fn fl)) (pc2 := 675) C (10 + i) (wT_g2 ct a x fc fb fp fq fn fl) rfl (rfl) (by omega) (by decide) (wT_a2 ct a x fc fb fp fq fn fl (upd fp (10 + i) (-1))) dL_rigs_674 rfl ?_
      refine q_aload_n (pc2 := 676) C 3 dL_rigs_675 rfl rfl rfl ?_
      refine q_iconst (v := nI 0) (pc2 := 677) C dL_rigs_676 (by decide) rfl ?_
      refine q_iload (pc2 := 679) C 2 dL_rigs_677 rfl rfl ?_
      refine q_iconst (v := nI 0) (pc2 := 680) C dL_rigs_679 (by decide) rfl ?_
      have hM := c_X3_down l hl D ct a x n hx0 (by omega) (nI i)
      rw [hx0] at hM
      rw [nI_clamp (show i < 2 ^ 31 by omega)] at hM
      refine q_Hok_wT (pc2 := 683) (As := [.ref (a 30), .int (nI 0), .int (nI i), .int (nI 0)]) (st := []) (st2 := [.int (b2 (x 9 i ≠ -1))]) (x' := (set2 x 9 (upd (x 9) i (-1)))) C (c_L_of0 l D ct a x _ (nI i) (nI 0) _ _ (b2_01 _) hM) (if_pos (show 0 ≤ nI i ∧ nI i < nI n from ⟨nI_pos' (by omega), nI_lt hi (by omega)⟩)) (vx_cwSW 4 C.w gL_rigs_L_of rfl rfl rfl (by decide +kernel) ⟨Nat.le_of_ble_eq_true rfl, Nat.le_of_ble_eq_true rfl⟩) dL_rigs_680 rfl rfl (Nat.le_of_ble_eq_true rfl) ⟨Nat.zero_le _, Nat.zero_le _⟩ rfl rfl ?_
      refine q_iload (pc2 := 685) C 0 dL_rigs_683 rfl rfl ?_
      refine q_icmp_ne (tgt := 692) (pc2 := 688) C dL_rigs_685 (by decide) rfl (fun h9 => absurd (b2_t (c := x 9 i ≠ -1) (fun z => c651 (by rw [← (hlow i hi).2.2.2.2.2.2.1, z]; decide))) h9) (fun _ => ?_)
      refine q_iconst (v := nI 1) (pc2 := 689) C dL_rigs_688 (by decide) rfl ?_
      refine q_goto (pc2 := 693) C dL_rigs_689 (by decide) ?_
      exact q_zret C hQ rfl (rfl) (Nat.zero_le _) (Nat.zero_le _) dL_rigs_693 ⟨rfl, _, _, _, _, _, _, _, rfl, ⟨n, h, q, b, t, kb, K, S, F, V, Nat.le_trans ht (Nat.le_add_right M 50), st_down r hi⟩⟩
  have hB : ∀ v : Int32, ¬ (0 ≤ v ∧ v < nI n) → Cf p l e ({ frames := 9, cells := 2, slots := 12, locals := 158 }) s m args below meth c D A 14 0 0 Q 49 [(7, .int (nI 0)), (6, .int v), (0, .ref (a 30)), (1, .int (nI 3)), (2, .int y), (3, .ref (a 40)), (4, .ref (a 41)), (5, .ref (a 42))] [] (wT ct a x fc fb fp fq fn fl) := by
    intro v hv
    refine q_iload_n (pc2 := 50) C 3 dL_rigs_49 rfl rfl rfl ?_
    refine q_if_ne (tgt := 267) (pc2 := 53) C dL_rigs_50 (by decide) rfl (fun _ => ?_) (fun h9 => absurd h9 (by decide))
    refine q_iload_n (pc2 := 268) C 3 dL_rigs_267 rfl rfl rfl ?_
    refine q_iconst (v := nI 1) (pc2 := 269) C dL_rigs_268 (by decide) rfl ?_
    refine q_icmp_ne (tgt := 448) (pc2 := 272) C dL_rigs_269 (by decide) rfl (fun _ => ?_) (fun h9 => absurd h9 (by decide))
    refine q_iload_n (pc2 := 449) C 3 dL_rigs_448 rfl rfl rfl ?_
    refine q_iconst (v := nI 2) (pc2 := 450) C dL_rigs_449 (by decide) rfl ?_
    refine q_icmp_ne (tgt := 628) (pc2 := 453) C dL_rigs_450 (by decide) rfl (fun _ => ?_) (fun h9 => absurd h9 (by decide))
    refine q_iload_n (pc2 := 629) C 3 dL_rigs_628 rfl rfl rfl ?_
    refine q_iconst (v := nI 3) (pc2 := 630) C dL_rigs_629 (by decide) rfl ?_
    refine q_icmp_ne (tgt := 694) (pc2 := 633) C dL_rigs_630 (by decide) rfl (fun h9 => absurd (by decide) h9) (fun _ => ?_)
    refine q_iload (pc2 := 635) C 0 dL_rigs_633 rfl rfl ?_
    refine q_if_ne (tgt := 643) (pc2 := 638) C dL_rigs_635 (by decide) rfl (fun h9 => absurd (by decide) h9) (fun _ => ?_)
    refine q_bipush (v := (-101)) (pc2 := 640) C dL_rigs_638 (by decide) rfl ?_
    refine q_goto (pc2 := 659) C dL_rigs_640 (by decide) ?_
    refine q_istore (lv' := [(8, .int (-101)), (7, .int (nI 0)), (6, .int v), (0, .ref (a 30)), (1, .int (nI 3)), (2, .int y), (3, .ref (a 40)), (4, .ref (a 41)), (5, .ref (a 42))]) (pc2 := 661) C dL_rigs_659 (by decide) rfl rfl ?_
    refine q_iload (pc2 := 663) C 1 dL_rigs_661 rfl rfl ?_
    refine q_if_eq (tgt := 675) (pc2 := 666) C dL_rigs_663 (by decide) rfl (fun _ => ?_) (fun h9 => absurd (by decide) h9)
    refine q_aload_n (pc2 := 676) C 3 dL_rigs_675 rfl rfl rfl ?_
    refine q_iconst (v := nI 0) (pc2 := 677) C dL_rigs_676 (by decide) rfl ?_
    refine q_iload (pc2 := 679) C 2 dL_rigs_677 rfl rfl ?_
    refine q_iconst (v := nI 0) (pc2 := 680) C dL_rigs_679 (by decide) rfl ?_
    have hM := c_X3_down l hl D ct a x n hx0 (by omega) (v)
    rw [hx0] at hM
    refine q_Hno_wT (pc2 := 683) (As := [.ref (a 30), .int (nI 0), .int v, .int (nI 0)]) (st := []) (st2 := [.int (-101)]) (c2 := 1) (s2 := 6) C (c_L_of0 l D ct a x _ (v) (nI 0) _ _ (b2_01 _) hM) (if_neg hv) (by decide +kernel) (vx_cwSW 4 C.w gL_rigs_L_of rfl rfl rfl (by decide +kernel) ⟨Nat.le_of_ble_eq_true rfl, Nat.le_of_ble_eq_true rfl⟩) dL_rigs_680 rfl rfl (Nat.le_of_ble_eq_true rfl) ⟨Nat.le_of_ble_eq_true rfl, Nat.le_of_ble_eq_true rfl⟩ rfl rfl (hcd1I _) rfl rfl ?_
    refine q_iload (pc2 := 685) C 0 dL_rigs_683 rfl rfl ?_
    refine q_icmp_ne (tgt := 692) (pc2 := 688) C dL_rigs_685 (by decide) rfl (fun h9 => absurd (by decide) h9) (fun _ => ?_)
    refine q_iconst (v := nI 1) (pc2 := 689) C dL_rigs_688 (by decide) rfl ?_
    refine q_goto (pc2 := 693) C dL_rigs_689 (by decide) ?_
    exact q_zret C hQ rfl (rfl) (by omega) (by omega) dL_rigs_693 ⟨rfl, _, _, _, _, _, _, _, rfl, (RE.mono (Nat.le_add_right M 50) ⟨n, h, q, b, t, kb, K, S, F, V, ht, r⟩)⟩
  refine q_iload_n (pc2 := 1) C 2 dL_rigs_0 rfl rfl rfl ?_
  refine q_aload_n (pc2 := 2) C 3 dL_rigs_1 rfl rfl rfl ?_
  refine q_iconst (v := nI 3) (pc2 := 3) C dL_rigs_2 (by decide) rfl ?_
  refine q_iald (q0 := 26) (f := fc) (pc2 := 4) C 3 (wT_g0 ct a x fc fb fp fq fn fl) rfl (rfl) (by decide) (by decide) dL_rigs_3 rfl ?_
  refine q_eqi (y := nI n) (hc3) ?_
  refine q_iconst (v := nI 1) (pc2 := 5) C dL_rigs_4 (by decide) rfl ?_
  refine q_iadd (v := nI (n + 1)) (pc2 := 6) C dL_rigs_5 (nI_add n 1) rfl ?_
  refine q_some (pc2 := 9) C (v := y) (n + 1) (by omega) (by omega) (va_cwS 2 C.w gL_rigs_L_some rfl rfl rfl (by decide +kernel) ⟨Nat.le_of_ble_eq_true rfl, Nat.le_of_ble_eq_true rfl⟩) dL_rigs_6 rfl ⟨Nat.le_of_ble_eq_true rfl, Nat.le_of_ble_eq_true rfl⟩ (Nat.le_of_ble_eq_true rfl) (fun m6 hm6 => ?_)
  have hj26 : ∀ e1 : Nat, (e1 ≤ 1) → Cf p l e ({ frames := 9, cells := 2, slots := 12, locals := 158 }) s m args below meth c D A 14 0 0 Q 26 [(0, .ref (a 30)), (1, .int (nI 3)), (2, .int y), (3, .ref (a 40)), (4, .ref (a 41)), (5, .ref (a 42))] [.int (nI e1), .int (nI m6)] (wT ct a x fc fb fp fq fn fl) := by
    intro e1 he1
    rcases pick_lamp hn5 hm6 he1 with ⟨i, hi, ei⟩ | hv
    · skip
      refine q_isub (v := nI i) (pc2 := 27) C dL_rigs_26 (ei) rfl ?_
      refine q_istore (lv' := [(6, .int (nI i)), (0, .ref (a 30)), (1, .int (nI 3)), (2, .int y), (3, .ref (a 40)), (4, .ref (a 41)), (5, .ref (a 42))]) (pc2 := 29) C dL_rigs_27 (by decide) rfl rfl ?_
      refine q_iload (pc2 := 31) C 0 dL_rigs_29 rfl rfl ?_
      refine q_if_lt (tgt := 46) (pc2 := 34) C dL_rigs_31 (by decide) rfl (fun h9 => absurd h9 (nI_nlt (a := i) (b := 0) (by omega) (by omega))) (fun _ => ?_)
      refine q_iload (pc2 := 36) C 0 dL_rigs_34 rfl rfl ?_
      refine q_aload_n (pc2 := 37) C 4 dL_rigs_36 rfl rfl rfl ?_
      refine q_iconst (v := nI 3) (pc2 := 38) C dL_rigs_37 (by decide) rfl ?_
      refine q_iald (q0 := 26) (f := fc) (pc2 := 39) C 3 (wT_g0 ct a x fc fb fp fq fn fl) rfl (rfl) (by decide) (by decide) dL_rigs_38 rfl ?_
      refine q_eqi (y := nI n) (hc3) ?_
      refine q_icmp_ge (tgt := 46) (pc2 := 42) C dL_rigs_39 (by decide) rfl (fun h9 => absurd h9 (nI_ge (a := i) (b := n) (by omega) (by omega))) (fun _ => ?_)
      refine q_iconst (v := nI 1) (pc2 := 43) C dL_rigs_42 (by decide) rfl ?_
      refine q_goto (pc2 := 47) C dL_rigs_43 (by decide) ?_
      refine q_istore (lv' := [(7, .int (nI 1)), (6, .int (nI i)), (0, .ref (a 30)), (1, .int (nI 3)), (2, .int y), (3, .ref (a 40)), (4, .ref (a 41)), (5, .ref (a 42))]) (pc2 := 49) C dL_rigs_47 (by decide) rfl rfl ?_
      exact hA i hi
    · skip
      refine q_isub (v := (nI m6 - nI e1)) (pc2 := 27) C dL_rigs_26 (rfl) rfl ?_
      refine q_istore (lv' := [(6, .int (nI m6 - nI e1)), (0, .ref (a 30)), (1, .int (nI 3)), (2, .int y), (3, .ref (a 40)), (4, .ref (a 41)), (5, .ref (a 42))]) (pc2 := 29) C dL_rigs_27 (by decide) rfl rfl ?_
      refine q_iload (pc2 := 31) C 0 dL_rigs_29 rfl rfl ?_
      refine q_if_lt (tgt := 46) (pc2 := 34) C dL_rigs_31 (by decide) rfl (fun c31 => ?_) (fun c31 => ?_)
      · skip
        refine q_iconst (v := nI 0) (pc2 := 47) C dL_rigs_46 (by decide) rfl ?_
        refine q_istore (lv' := [(7, .int (nI 0)), (6, .int (nI m6 - nI e1)), (0, .ref (a 30)), (1, .int (nI 3)), (2, .int y), (3, .ref (a 40)), (4, .ref (a 41)), (5, .ref (a 42))]) (pc2 := 49) C dL_rigs_47 (by decide) rfl rfl ?_
        exact hB _ hv
      · skip
        refine q_iload (pc2 := 36) C 0 dL_rigs_34 rfl rfl ?_
        refine q_aload_n (pc2 := 37) C 4 dL_rigs_36 rfl rfl rfl ?_
        refine q_iconst (v := nI 3) (pc2 := 38) C dL_rigs_37 (by decide) rfl ?_
        refine q_iald (q0 := 26) (f := fc) (pc2 := 39) C 3 (wT_g0 ct a x fc fb fp fq fn fl) rfl (rfl) (by decide) (by decide) dL_rigs_38 rfl ?_
        refine q_eqi (y := nI n) (hc3) ?_
        refine q_icmp_ge (tgt := 46) (pc2 := 42) C dL_rigs_39 (by decide) rfl (fun _ => ?_) (fun h9 => absurd (Int32.not_lt.mp (fun z9 => hv ⟨Int32.not_lt.mp c31, z9⟩)) h9)
        refine q_iconst (v := nI 0) (pc2 := 47) C dL_rigs_46 (by decide) rfl ?_
        refine q_istore (lv' := [(7, .int (nI 0)), (6, .int (nI m6 - nI e1)), (0, .ref (a 30)), (1, .int (nI 3)), (2, .int y), (3, .ref (a 40)), (4, .ref (a 41)), (5, .ref (a 42))]) (pc2 := 49) C dL_rigs_47 (by decide) rfl rfl ?_
        exact hB _ hv
  refine q_iload_n (pc2 := 10) C 2 dL_rigs_9 rfl rfl rfl ?_
  refine q_bipush (v := nI 11) (pc2 := 12) C dL_rigs_10 (by decide) rfl ?_
  refine q_ishr (v := (y >>> (nI 11 &&& 31))) (pc2 := 13) C dL_rigs_12 (rfl) rfl ?_
  refine q_bipush (v := nI 19) (pc2 := 15) C dL_rigs_13 (by decide) rfl ?_
  refine q_some (pc2 := 18) C (v := (y >>> (nI 11 &&& 31))) 19 (by omega) (by omega) (va_cwS 2 C.w gL_rigs_L_some rfl rfl rfl (by decide +kernel) ⟨Nat.le_of_ble_eq_true rfl, Nat.le_of_ble_eq_true rfl⟩) dL_rigs_15 rfl ⟨Nat.le_of_ble_eq_true rfl, Nat.le_of_ble_eq_true rfl⟩ (Nat.le_of_ble_eq_true rfl) (fun m15 hm15 => ?_)
  refine q_if_ne (tgt := 25) (pc2 := 21) C dL_rigs_18 (by decide) rfl (fun c18 => ?_) (fun c18 => ?_)
  · skip
    have k18 : m15 ≠ 0 := fun z => c18 ((nI_eq (a := m15) (b := 0) (by omega) (by omega)).mpr z)
    refine q_iconst (v := nI 0) (pc2 := 26) C dL_rigs_25 (by decide) rfl ?_
    exact hj26 0 (by omega)
  · skip
    have k18 : m15 = 0 := (nI_eq (a := m15) (b := 0) (by omega) (by omega)).mp (c18)
    refine q_iconst (v := nI 1) (pc2 := 22) C dL_rigs_21 (by decide) rfl ?_
    refine q_goto (pc2 := 26) C dL_rigs_22 (by decide) ?_
    exact hj26 1 (by omega)

