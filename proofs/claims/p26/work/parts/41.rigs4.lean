/-! rigs: the tour -/
set_option maxHeartbeats 4000000 in
set_option maxRecDepth 100000 in
theorem c_L_rigs_4 (l : Launch) (D : va_G) (ct : Nat → ClassId) (hl : l.stackTraces = false) (a : Nat → Nat) (x : Nat → Nat → Int32) (fc fb fp fq fn fl : Nat → Int32) (y : Int32) (M : Nat) (r0 : RE M x fc fb fp fq fn fl) : qM l yL_rigs wsL_rigs ({ frames := 6, cells := 2, slots := 12, locals := 134 }) D ct [.ref (a 30), .int (nI 4), .int y, .ref (a 40), .ref (a 41), .ref (a 42)] (wT ct a x fc fb fp fq fn fl) (pR ct a (M + 50)) 2 12 := by
  refine q_start (ret := some .boolean) (lv := [(0, .ref (a 30)), (1, .int (nI 4)), (2, .int y), (3, .ref (a 40)), (4, .ref (a 41)), (5, .ref (a 42))]) (by decide +kernel) rfl (Nat.le_of_ble_eq_true rfl) rfl ?_
  intro p e s m args below meth c A Q C hQ hnm
  obtain ⟨n, h, q, b, t, kb, K, S, F, V, ht, r⟩ := r0
  obtain ⟨rh, rl, rr, rp, rc, rs, hbq⟩ := id r
  obtain ⟨hlt, hx4, hc0, hkbs, hlen⟩ := id rh
  obtain ⟨hn5, hx0, hc3, hlow, hall, hhigh⟩ := id rl
  obtain ⟨hq4, hx16, hc4, hcue, hfd, hnam, hnaz⟩ := id rc
  obtain ⟨hx22, hc5, hx21, hc7, hc6, hx23, hfl, hlvr, hlev⟩ := id rs
  obtain ⟨hkb2, hx5, hck⟩ := hkbs h hlt
  have hK : ∀ k, k < n → fp k = nI (K k) ∧ K k < 4 := fun k hk => ⟨(hlow k hk).2.1, (hlow k hk).1⟩
  have hb4 : b ≤ 4 := by omega
  have hG : ∀ v z : Int32, Cf p l e ({ frames := 6, cells := 2, slots := 12, locals := 134 }) s m args below meth c D A 14 0 0 Q 49 [(7, .int z), (6, .int v), (0, .ref (a 30)), (1, .int (nI 4)), (2, .int y), (3, .ref (a 40)), (4, .ref (a 41)), (5, .ref (a 42))] [] (wT ct a x fc fb fp fq fn fl) := by
    intro v z
    refine q_iload_n (pc2 := 50) C 3 dL_rigs_49 rfl rfl rfl ?_
    refine q_if_ne (tgt := 267) (pc2 := 53) C dL_rigs_50 (by decide) rfl (fun _ => ?_) (fun h9 => absurd h9 (by decide))
    refine q_iload_n (pc2 := 268) C 3 dL_rigs_267 rfl rfl rfl ?_
    refine q_iconst (v := nI 1) (pc2 := 269) C dL_rigs_268 (by decide) rfl ?_
    refine q_icmp_ne (tgt := 448) (pc2 := 272) C dL_rigs_269 (by decide) rfl (fun _ => ?_) (fun h9 => absurd h9 (by decide))
    refine q_iload_n (pc2 := 449) C 3 dL_rigs_448 rfl rfl rfl ?_
    refine q_iconst (v := nI 2) (pc2 := 450) C dL_rigs_449 (by decide) rfl ?_
    refine q_icmp_ne (tgt := 628) (pc2 := 453) C dL_rigs_450 (by decide) rfl (fun _ => ?_) (fun h9 => absurd h9 (by decide))
    refine q_iload_n (pc2 := 629) C 3 dL_rigs_628 rfl rfl rfl ?_
    refine q_iconst (v := nI 3) (pc2 := 630) C dL_rigs_629 (by decide) rfl ?_
    refine q_icmp_ne (tgt := 694) (pc2 := 633) C dL_rigs_630 (by decide) rfl (fun _ => ?_) (fun h9 => absurd h9 (by decide))
    refine q_iload_n (pc2 := 695) C 3 dL_rigs_694 rfl rfl rfl ?_
    refine q_iconst (v := nI 4) (pc2 := 696) C dL_rigs_695 (by decide) rfl ?_
    refine q_icmp_ne (tgt := 967) (pc2 := 699) C dL_rigs_696 (by decide) rfl (fun h9 => absurd (by decide) h9) (fun _ => ?_)
    refine q_iconst (v := nI 5) (pc2 := 700) C dL_rigs_699 (by decide) rfl ?_
    refine q_newa (atype := .int) (ty := .int) (n := nI 5) (pc2 := 702) (N' := 5) (x := (5, .inl (fun _ => 0))) (c2 := 1) (s2 := 5) C (C.w (.arrayClass .int) (by decide +kernel)) rfl 0 rfl ra_int (fun _ => rfl) (by decide) (by decide) (Nat.le_of_ble_eq_true rfl) (Nat.le_of_ble_eq_true rfl) (Nat.le_of_ble_eq_true rfl) dL_rigs_700 rfl rfl rfl (fun o => ?_)
    refine q_eqw (ws' := (wU ct a o 5 (fun _ => 0) x fc fb fp fq fn fl)) (wU_of _ _ _ _ _ _ _ _ _ _ _ _) ?_
    refine q_astore (lv' := [(8, .ref o), (7, .int z), (6, .int v), (0, .ref (a 30)), (1, .int (nI 4)), (2, .int y), (3, .ref (a 40)), (4, .ref (a 41)), (5, .ref (a 42))]) (pc2 := 704) C dL_rigs_702 (by decide) rfl rfl ?_
    refine q_iconst (v := nI 0) (pc2 := 705) C dL_rigs_704 (by decide) rfl ?_
    refine q_istore (lv' := [(9, .int (nI 0)), (8, .ref o), (7, .int z), (6, .int v), (0, .ref (a 30)), (1, .int (nI 4)), (2, .int y), (3, .ref (a 40)), (4, .ref (a 41)), (5, .ref (a 42))]) (pc2 := 707) C dL_rigs_705 (by decide) rfl rfl ?_
    refine q_aload_n (pc2 := 708) C 7 dL_rigs_707 rfl rfl rfl ?_
    refine q_iconst (v := nI 0) (pc2 := 709) C dL_rigs_708 (by decide) rfl ?_
    refine q_iconst (v := nI 1) (pc2 := 710) C dL_rigs_709 (by decide) rfl ?_
    refine q_aload_n (pc2 := 711) C 7 dL_rigs_710 rfl rfl rfl ?_
    refine q_iconst (v := nI 0) (pc2 := 712) C dL_rigs_711 (by decide) rfl ?_
    refine q_iald (q0 := 26) (f := fc) (pc2 := 713) C 0 (wU_g0 ct a o 5 (fun _ => 0) x fc fb fp fq fn fl) rfl (rfl) (by decide) (by decide) dL_rigs_712 rfl ?_
    refine q_eqi (y := nI h) (hc0) ?_
    refine q_isub (v := nI (1 - h)) (pc2 := 714) C dL_rigs_713 (pk_sub (by omega)) rfl ?_
    refine q_iast (q0 := 26) (f := fc) (ws' := (wU ct a o 5 (fun _ => 0) x (upd fc 0 (nI (1 - h))) fb fp fq fn fl)) (pc2 := 715) C 0 (wU_g0 ct a o 5 (fun _ => 0) x fc fb fp fq fn fl) rfl (rfl) (by decide) (by decide) (wU_a0 ct a o 5 (fun _ => 0) x fc fb fp fq fn fl (upd fc 0 (nI (1 - h)))) dL_rigs_714 rfl ?_
    refine q_iconst (v := nI 0) (pc2 := 716) C dL_rigs_715 (by decide) rfl ?_
    refine q_istore (lv' := [(10, .int (nI 0)), (9, .int (nI 0)), (8, .ref o), (7, .int z), (6, .int v), (0, .ref (a 30)), (1, .int (nI 4)), (2, .int y), (3, .ref (a 40)), (4, .ref (a 41)), (5, .ref (a 42))]) (pc2 := 718) C dL_rigs_716 (by decide) rfl rfl ?_
    refine q_lv (lv' := [(10, .int (nI 0)), (9, .int (nI 0)), (8, .ref o), (7, .int z), (6, .int v), (5, .ref (a 42)), (4, .ref (a 41)), (3, .ref (a 40)), (2, .int y), (1, .int (nI 4)), (0, .ref (a 30))]) [0, 1, 2, 3, 4, 10, 9, 8, 7, 6, 5] rfl ?_
    refine q_eqw (ws' := (wU ct a o 5 (onN fp 0) x (upd fc 0 (nI (1 - h))) fb (dnN fp 0) fq fn fl)) (congrArg (fun z9 => wU ct a o 5 z9 x (upd fc 0 (nI (1 - h))) fb fp fq fn fl) (onN_0 fp) |>.trans (congrArg (fun z9 => wU ct a o 5 (onN fp 0) x (upd fc 0 (nI (1 - h))) fb z9 fq fn fl) (dnN_0 fp))) ?_
    refine (lp_up (P := fun k7 => Cf p l e ({ frames := 6, cells := 2, slots := 12, locals := 134 }) s m args below meth c D A 14 1 5 Q 718 [(10, .int (nI k7)), (9, .int (nI 0)), (8, .ref o), (7, .int z), (6, .int v), (5, .ref (a 42)), (4, .ref (a 41)), (3, .ref (a 40)), (2, .int y), (1, .int (nI 4)), (0, .ref (a 30))] [] (wU ct a o 5 (onN fp k7) x (upd fc 0 (nI (1 - h))) fb (dnN fp k7) fq fn fl)) n (fun k7 hk7 ihk7 => ?_) ?_ : Cf p l e ({ frames := 6, cells := 2, slots := 12, locals := 134 }) s m args below meth c D A 14 1 5 Q 718 [(10, .int (nI 0)), (9, .int (nI 0)), (8, .ref o), (7, .int z), (6, .int v), (5, .ref (a 42)), (4, .ref (a 41)), (3, .ref (a 40)), (2, .int y), (1, .int (nI 4)), (0, .ref (a 30))] [] (wU ct a o 5 (onN fp 0) x (upd fc 0 (nI (1 - h))) fb (dnN fp 0) fq fn fl))
    · skip
      refine q_iload (pc2 := 720) C 0 dL_rigs_718 rfl rfl ?_
      refine q_aload_n (pc2 := 721) C 7 dL_rigs_720 rfl rfl rfl ?_
      refine q_iconst (v := nI 3) (pc2 := 722) C dL_rigs_721 (by decide) rfl ?_
      refine q_iald (q0 := 26) (f := (upd fc 0 (nI (1 - h)))) (pc2 := 723) C 3 (wU_g0 ct a o 5 (onN fp k7) x (upd fc 0 (nI (1 - h))) fb (dnN fp k7) fq fn fl) rfl (rfl) (by decide) (by decide) dL_rigs_722 rfl ?_
      refine q_eqi (y := nI n) ((upd_n (by decide)).trans (hc3)) ?_
      refine q_icmp_ge (tgt := 754) (pc2 := 726) C dL_rigs_723 (by decide) rfl (fun h9 => absurd h9 (nI_ge (a := k7) (b := n) (by omega) (by omega))) (fun _ => ?_)
      refine q_aload (pc2 := 728) C 2 dL_rigs_726 rfl rfl ?_
      refine q_iload (pc2 := 730) C 0 dL_rigs_728 rfl rfl ?_
      refine q_aload (pc2 := 732) C 5 dL_rigs_730 rfl rfl ?_
      refine q_bipush (v := nI 10) (pc2 := 734) C dL_rigs_732 (by decide) rfl ?_
      refine q_iload (pc2 := 736) C 0 dL_rigs_734 rfl rfl ?_
      refine q_iadd (v := nI (10 + k7)) (pc2 := 737) C dL_rigs_736 (nI_add 10 k7) rfl ?_
      refine q_iald (q0 := 28) (f := (dnN fp k7)) (pc2 := 738) C (10 + k7) (wU_g2 ct a o 5 (onN fp k7) x (upd fc 0 (nI (1 - h))) fb (dnN fp k7) fq fn fl) rfl (rfl) (by omega) (by decide) dL_rigs_737 rfl ?_
      refine q_eqi (y := (fp (10 + k7))) (dnN_v (by omega)) ?_
      refine q_iast (q0 := 32) (f := (onN fp k7)) (ws' := (wU ct a o 5 (upd (onN fp k7) k7 (fp (10 + k7))) x (upd fc 0 (nI (1 - h))) fb (dnN fp k7) fq fn fl)) (pc2 := 739) C k7 (wU_g6 ct a o 5 (onN fp k7) x (upd fc 0 (nI (1 - h))) fb (dnN fp k7) fq fn fl) rfl (rfl) (by omega) (by decide) (wU_a6 ct a o 5 (onN fp k7) x (upd fc 0 (nI (1 - h))) fb (dnN fp k7) fq fn fl (upd (onN fp k7) k7 (fp (10 + k7)))) dL_rigs_738 rfl ?_
      refine q_aload (pc2 := 741) C 5 dL_rigs_739 rfl rfl ?_
      refine q_bipush (v := nI 10) (pc2 := 743) C dL_rigs_741 (by decide) rfl ?_
      refine q_iload (pc2 := 745) C 0 dL_rigs_743 rfl rfl ?_
      refine q_iadd (v := nI (10 + k7)) (pc2 := 746) C dL_rigs_745 (nI_add 10 k7) rfl ?_
      refine q_iconst (v := (-1)) (pc2 := 747) C dL_rigs_746 (by decide) rfl ?_
      refine q_iast (q0 := 28) (f := (dnN fp k7)) (ws' := (wU ct a o 5 (upd (onN fp k7) k7 (fp (10 + k7))) x (upd fc 0 (nI (1 - h))) fb (upd (dnN fp k7) (10 + k7) (-1)) fq fn fl)) (pc2 := 748) C (10 + k7) (wU_g2 ct a o 5 (upd (onN fp k7) k7 (fp (10 + k7))) x (upd fc 0 (nI (1 - h))) fb (dnN fp k7) fq fn fl) rfl (rfl) (by omega) (by decide) (wU_a2 ct a o 5 (upd (onN fp k7) k7 (fp (10 + k7))) x (upd fc 0 (nI (1 - h))) fb (dnN fp k7) fq fn fl (upd (dnN fp k7) (10 + k7) (-1))) dL_rigs_747 rfl ?_
      refine q_iinc (v := nI (k7 + 1)) (lv' := [(10, .int (nI (k7 + 1))), (9, .int (nI 0)), (8, .ref o), (7, .int z), (6, .int v), (5, .ref (a 42)), (4, .ref (a 41)), (3, .ref (a 40)), (2, .int y), (1, .int (nI 4)), (0, .ref (a 30))]) (pc2 := 751) C 0 dL_rigs_748 rfl (show nI k7 + Int32.ofInt 1 = nI (k7 + 1) by rw [show Int32.ofInt 1 = nI 1 from by decide]; exact nI_add k7 1) (by decide) rfl rfl ?_
      refine q_goto (pc2 := 718) C dL_rigs_751 (by decide) ?_
      refine q_eqw (ws' := (wU ct a o 5 (onN fp (k7 + 1)) x (upd fc 0 (nI (1 - h))) fb (dnN fp (k7 + 1)) fq fn fl)) (by rw [onN_s, dnN_s]) ?_
      exact ihk7
    · skip
      refine q_iload (pc2 := 720) C 0 dL_rigs_718 rfl rfl ?_
      refine q_aload_n (pc2 := 721) C 7 dL_rigs_720 rfl rfl rfl ?_
      refine q_iconst (v := nI 3) (pc2 := 722) C dL_rigs_721 (by decide) rfl ?_
      refine q_iald (q0 := 26) (f := (upd fc 0 (nI (1 - h)))) (pc2 := 723) C 3 (wU_g0 ct a o 5 (onN fp n) x (upd fc 0 (nI (1 - h))) fb (dnN fp n) fq fn fl) rfl (rfl) (by decide) (by decide) dL_rigs_722 rfl ?_
      refine q_eqi (y := nI n) ((upd_n (by decide)).trans (hc3)) ?_
      refine q_icmp_ge (tgt := 754) (pc2 := 726) C dL_rigs_723 (by decide) rfl (fun _ => ?_) (fun h9 => absurd (nI_le (a := n) (b := n) (by omega) (by omega)) h9)
      refine q_iconst (v := nI 0) (pc2 := 755) C dL_rigs_754 (by decide) rfl ?_
      refine q_istore (lv' := [(10, .int (nI 0)), (9, .int (nI 0)), (8, .ref o), (7, .int z), (6, .int v), (5, .ref (a 42)), (4, .ref (a 41)), (3, .ref (a 40)), (2, .int y), (1, .int (nI 4)), (0, .ref (a 30))]) (pc2 := 757) C dL_rigs_755 (by decide) rfl rfl ?_
      refine (lp_up (P := fun k8 => ∀ (fp1 : Nat → Int32), (tI n (1 - h) kb K (tr0 x (1 - h)) (upd fc 0 (nI (1 - h))) k8 fp1) → Cf p l e ({ frames := 6, cells := 2, slots := 12, locals := 134 }) s m args below meth c D A 14 1 5 Q 757 [(10, .int (nI k8)), (9, .int ((trn (tr0 x (1 - h)) (1 - h) k8).2.2)), (8, .ref o), (7, .int z), (6, .int v), (5, .ref (a 42)), (4, .ref (a 41)), (3, .ref (a 40)), (2, .int y), (1, .int (nI 4)), (0, .ref (a 30))] [] (wU ct a o 5 (onN fp n) x (upd fc 0 (nI (1 - h))) fb fp1 fq fn fl)) n (fun k8 hk8 ihk8 => ?_) ?_ : ∀ (fp1 : Nat → Int32), (tI n (1 - h) kb K (tr0 x (1 - h)) (upd fc 0 (nI (1 - h))) 0 fp1) → Cf p l e ({ frames := 6, cells := 2, slots := 12, locals := 134 }) s m args below meth c D A 14 1 5 Q 757 [(10, .int (nI 0)), (9, .int ((trn (tr0 x (1 - h)) (1 - h) 0).2.2)), (8, .ref o), (7, .int z), (6, .int v), (5, .ref (a 42)), (4, .ref (a 41)), (3, .ref (a 40)), (2, .int y), (1, .int (nI 4)), (0, .ref (a 30))] [] (wU ct a o 5 (onN fp n) x (upd fc 0 (nI (1 - h))) fb fp1 fq fn fl)) (dnN fp n) (tI_0 rl rr (1 - h) (nI (1 - h)))
      · intro fp1 hyk8
        obtain ⟨tl, tr, tp, tn⟩ := id hyk8
        obtain ⟨w9, hw9, ew⟩ := (tr.2 k8 (by omega)).1
        have hm1 := tn k8 (Nat.le_refl k8) hk8
        have hz10 : tr0 x (1 - h) 10 k8 = fp (10 + k8) := (if_pos (show k8 < 10 by omega) : tr0 x (1 - h) 10 k8 = x 9 k8).trans (hlow k8 hk8).2.2.2.2.2.2.1
        rcases rp.1 k8 hk8 with ej | ⟨j9, hj9, ej⟩
        · skip
          refine q_iload (pc2 := 759) C 0 dL_rigs_757 rfl rfl ?_
          refine q_aload_n (pc2 := 760) C 7 dL_rigs_759 rfl rfl rfl ?_
          refine q_iconst (v := nI 3) (pc2 := 761) C dL_rigs_760 (by decide) rfl ?_
          refine q_iald (q0 := 26) (f := (upd fc 0 (nI (1 - h)))) (pc2 := 762) C 3 (wU_g0 ct a o 5 (onN fp n) x (upd fc 0 (nI (1 - h))) fb fp1 fq fn fl) rfl (rfl) (by decide) (by decide) dL_rigs_761 rfl ?_
          refine q_eqi (y := nI n) ((upd_n (by decide)).trans (hc3)) ?_
          refine q_icmp_ge (tgt := 952) (pc2 := 765) C dL_rigs_762 (by decide) rfl (fun h9 => absurd h9 (nI_ge (a := k8) (b := n) (by omega) (by omega))) (fun _ => ?_)
          refine q_aload (pc2 := 767) C 5 dL_rigs_765 rfl rfl ?_
          refine q_bipush (v := nI 15) (pc2 := 769) C dL_rigs_767 (by decide) rfl ?_
          refine q_iload (pc2 := 771) C 0 dL_rigs_769 rfl rfl ?_
          refine q_iadd (v := nI (15 + k8)) (pc2 := 772) C dL_rigs_771 (nI_add 15 k8) rfl ?_
          refine q_iald (q0 := 28) (f := fp1) (pc2 := 773) C (15 + k8) (wU_g2 ct a o 5 (onN fp n) x (upd fc 0 (nI (1 - h))) fb fp1 fq fn fl) rfl (rfl) (by omega) (by decide) dL_rigs_772 rfl ?_
          refine q_eqi (y := nI w9) (ew) ?_
          refine q_istore (lv' := [(11, .int (nI w9)), (10, .int (nI k8)), (9, .int ((trn (tr0 x (1 - h)) (1 - h) k8).2.2)), (8, .ref o), (7, .int z), (6, .int v), (5, .ref (a 42)), (4, .ref (a 41)), (3, .ref (a 40)), (2, .int y), (1, .int (nI 4)), (0, .ref (a 30))]) (pc2 := 775) C dL_rigs_773 (by decide) rfl rfl ?_
          refine q_iconst (v := nI 0) (pc2 := 776) C dL_rigs_775 (by decide) rfl ?_
          refine q_istore (lv' := [(12, .int (nI 0)), (11, .int (nI w9)), (10, .int (nI k8)), (9, .int ((trn (tr0 x (1 - h)) (1 - h) k8).2.2)), (8, .ref o), (7, .int z), (6, .int v), (5, .ref (a 42)), (4, .ref (a 41)), (3, .ref (a 40)), (2, .int y), (1, .int (nI 4)), (0, .ref (a 30))]) (pc2 := 778) C dL_rigs_776 (by decide) rfl rfl ?_
          refine q_iload (pc2 := 780) C 0 dL_rigs_778 rfl rfl ?_
          refine q_bipush (v := nI 101) (pc2 := 782) C dL_rigs_780 (by decide) rfl ?_
          refine q_icmp_ge (tgt := 917) (pc2 := 785) C dL_rigs_782 (by decide) rfl (fun h9 => absurd h9 (by decide)) (fun _ => ?_)
          refine q_aload (pc2 := 787) C 4 dL_rigs_785 rfl rfl ?_
          refine q_iload (pc2 := 789) C 2 dL_rigs_787 rfl rfl ?_
          refine q_iald (q0 := 32) (f := (onN fp n)) (pc2 := 790) C k8 (wU_g6 ct a o 5 (onN fp n) x (upd fc 0 (nI (1 - h))) fb fp1 fq fn fl) rfl (rfl) (by omega) (by decide) dL_rigs_789 rfl ?_
          refine q_eqi (y := (-1)) ((onN_v hk8).trans ej) ?_
          refine q_if_lt (tgt := 917) (pc2 := 793) C dL_rigs_790 (by decide) rfl (fun _ => ?_) (fun h9 => absurd (by decide) h9)
          have hst := tI_no hyk8 (hz10.trans ej)
          refine q_iload (pc2 := 919) C 3 dL_rigs_917 rfl rfl ?_
          refine q_aload (pc2 := 921) C 4 dL_rigs_919 rfl rfl ?_
          refine q_iload (pc2 := 923) C 2 dL_rigs_921 rfl rfl ?_
          refine q_iald (q0 := 32) (f := (onN fp n)) (pc2 := 924) C k8 (wU_g6 ct a o 5 (onN fp n) x (upd fc 0 (nI (1 - h))) fb fp1 fq fn fl) rfl (rfl) (by omega) (by decide) dL_rigs_923 rfl ?_
          refine q_eqi (y := (-1)) ((onN_v hk8).trans ej) ?_
          refine q_if_lt (tgt := 942) (pc2 := 927) C dL_rigs_924 (by decide) rfl (fun _ => ?_) (fun h9 => absurd (by decide) h9)
          refine q_iconst (v := nI 0) (pc2 := 943) C dL_rigs_942 (by decide) rfl ?_
          refine q_iadd (v := ((trn (tr0 x (1 - h)) (1 - h) k8).2.2 + nI 0)) (pc2 := 944) C dL_rigs_943 (rfl) rfl ?_
          refine q_eqi (y := (trn (tr0 x (1 - h)) (1 - h) (k8 + 1)).2.2) (by rw [hst.2]; exact Int32.add_zero _) ?_
          refine q_istore (lv' := [(9, .int ((trn (tr0 x (1 - h)) (1 - h) (k8 + 1)).2.2)), (12, .int (nI 0)), (11, .int (nI w9)), (10, .int (nI k8)), (8, .ref o), (7, .int z), (6, .int v), (5, .ref (a 42)), (4, .ref (a 41)), (3, .ref (a 40)), (2, .int y), (1, .int (nI 4)), (0, .ref (a 30))]) (pc2 := 946) C dL_rigs_944 (by decide) rfl rfl ?_
          refine q_iinc (v := nI (k8 + 1)) (lv' := [(10, .int (nI (k8 + 1))), (9, .int ((trn (tr0 x (1 - h)) (1 - h) (k8 + 1)).2.2)), (12, .int (nI 0)), (11, .int (nI w9)), (8, .ref o), (7, .int z), (6, .int v), (5, .ref (a 42)), (4, .ref (a 41)), (3, .ref (a 40)), (2, .int y), (1, .int (nI 4)), (0, .ref (a 30))]) (pc2 := 949) C 3 dL_rigs_946 rfl (show nI k8 + Int32.ofInt 1 = nI (k8 + 1) by rw [show Int32.ofInt 1 = nI 1 from by decide]; exact nI_add k8 1) (by decide) rfl rfl ?_
          refine q_goto (pc2 := 757) C dL_rigs_949 (by decide) ?_
          refine q_lv (lv' := [(10, .int (nI (k8 + 1))), (9, .int ((trn (tr0 x (1 - h)) (1 - h) (k8 + 1)).2.2)), (8, .ref o), (7, .int z), (6, .int v), (5, .ref (a 42)), (4, .ref (a 41)), (3, .ref (a 40)), (2, .int y), (1, .int (nI 4)), (0, .ref (a 30))]) [0, 1, 4, 5, 6, 7, 8, 9, 10, 11, 12] rfl ?_
          exact ihk8 fp1 hst.1
        · skip
          have hj2 : j9 < 2 := by omega
          have hkn := hkbs (1 - h) (by omega)
          refine q_iload (pc2 := 759) C 0 dL_rigs_757 rfl rfl ?_
          refine q_aload_n (pc2 := 760) C 7 dL_rigs_759 rfl rfl rfl ?_
          refine q_iconst (v := nI 3) (pc2 := 761) C dL_rigs_760 (by decide) rfl ?_
          refine q_iald (q0 := 26) (f := (upd fc 0 (nI (1 - h)))) (pc2 := 762) C 3 (wU_g0 ct a o 5 (onN fp n) x (upd fc 0 (nI (1 - h))) fb fp1 fq fn fl) rfl (rfl) (by decide) (by decide) dL_rigs_761 rfl ?_
          refine q_eqi (y := nI n) ((upd_n (by decide)).trans (hc3)) ?_
          refine q_icmp_ge (tgt := 952) (pc2 := 765) C dL_rigs_762 (by decide) rfl (fun h9 => absurd h9 (nI_ge (a := k8) (b := n) (by omega) (by omega))) (fun _ => ?_)
          refine q_aload (pc2 := 767) C 5 dL_rigs_765 rfl rfl ?_
          refine q_bipush (v := nI 15) (pc2 := 769) C dL_rigs_767 (by decide) rfl ?_
          refine q_iload (pc2 := 771) C 0 dL_rigs_769 rfl rfl ?_
          refine q_iadd (v := nI (15 + k8)) (pc2 := 772) C dL_rigs_771 (nI_add 15 k8) rfl ?_
          refine q_iald (q0 := 28) (f := fp1) (pc2 := 773) C (15 + k8) (wU_g2 ct a o 5 (onN fp n) x (upd fc 0 (nI (1 - h))) fb fp1 fq fn fl) rfl (rfl) (by omega) (by decide) dL_rigs_772 rfl ?_
          refine q_eqi (y := nI w9) (ew) ?_
          refine q_istore (lv' := [(11, .int (nI w9)), (10, .int (nI k8)), (9, .int ((trn (tr0 x (1 - h)) (1 - h) k8).2.2)), (8, .ref o), (7, .int z), (6, .int v), (5, .ref (a 42)), (4, .ref (a 41)), (3, .ref (a 40)), (2, .int y), (1, .int (nI 4)), (0, .ref (a 30))]) (pc2 := 775) C dL_rigs_773 (by decide) rfl rfl ?_
          refine q_iconst (v := nI 0) (pc2 := 776) C dL_rigs_775 (by decide) rfl ?_
          refine q_istore (lv' := [(12, .int (nI 0)), (11, .int (nI w9)), (10, .int (nI k8)), (9, .int ((trn (tr0 x (1 - h)) (1 - h) k8).2.2)), (8, .ref o), (7, .int z), (6, .int v), (5, .ref (a 42)), (4, .ref (a 41)), (3, .ref (a 40)), (2, .int y), (1, .int (nI 4)), (0, .ref (a 30))]) (pc2 := 778) C dL_rigs_776 (by decide) rfl rfl ?_
          refine (lp_up (P := fun i8 => (nrst (fun v => fitL fb fp1 K n (1 - h) (kb (1 - h)) k8 j9 v n) (nI w9) (101 - i8) i8 = (nrst (fun v => fitL fb fp1 K n (1 - h) (kb (1 - h)) k8 j9 v n) (nI w9) 101 0)) → Cf p l e ({ frames := 6, cells := 2, slots := 12, locals := 134 }) s m args below meth c D A 14 1 5 Q 778 [(12, .int (nI i8)), (11, .int (nI w9)), (10, .int (nI k8)), (9, .int ((trn (tr0 x (1 - h)) (1 - h) k8).2.2)), (8, .ref o), (7, .int z), (6, .int v), (5, .ref (a 42)), (4, .ref (a 41)), (3, .ref (a 40)), (2, .int y), (1, .int (nI 4)), (0, .ref (a 30))] [] (wU ct a o 5 (onN fp n) x (upd fc 0 (nI (1 - h))) fb fp1 fq fn fl)) 101 (fun i8 hi8 ihi8 => ?_) ?_ : (nrst (fun v => fitL fb fp1 K n (1 - h) (kb (1 - h)) k8 j9 v n) (nI w9) (101 - 0) 0 = (nrst (fun v => fitL fb fp1 K n (1 - h) (kb (1 - h)) k8 j9 v n) (nI w9) 101 0)) → Cf p l e ({ frames := 6, cells := 2, slots := 12, locals := 134 }) s m args below meth c D A 14 1 5 Q 778 [(12, .int (nI 0)), (11, .int (nI w9)), (10, .int (nI k8)), (9, .int ((trn (tr0 x (1 - h)) (1 - h) k8).2.2)), (8, .ref o), (7, .int z), (6, .int v), (5, .ref (a 42)), (4, .ref (a 41)), (3, .ref (a 40)), (2, .int y), (1, .int (nI 4)), (0, .ref (a 30))] [] (wU ct a o 5 (onN fp n) x (upd fc 0 (nI (1 - h))) fb fp1 fq fn fl)) rfl
          · intro hyi8
            refine q_iload (pc2 := 780) C 0 dL_rigs_778 rfl rfl ?_
            refine q_bipush (v := nI 101) (pc2 := 782) C dL_rigs_780 (by decide) rfl ?_
            refine q_icmp_ge (tgt := 917) (pc2 := 785) C dL_rigs_782 (by decide) rfl (fun h9 => absurd h9 (nI_ge (a := i8) (b := 101) (by omega) (by omega))) (fun _ => ?_)
            refine q_aload (pc2 := 787) C 4 dL_rigs_785 rfl rfl ?_
            refine q_iload (pc2 := 789) C 2 dL_rigs_787 rfl rfl ?_
            refine q_iald (q0 := 32) (f := (onN fp n)) (pc2 := 790) C k8 (wU_g6 ct a o 5 (onN fp n) x (upd fc 0 (nI (1 - h))) fb fp1 fq fn fl) rfl (rfl) (by omega) (by decide) dL_rigs_789 rfl ?_
            refine q_eqi (y := nI j9) ((onN_v hk8).trans ej) ?_
            refine q_if_lt (tgt := 917) (pc2 := 793) C dL_rigs_790 (by decide) rfl (fun h9 => absurd h9 (nI_nlt (a := j9) (b := 0) (by omega) (by omega))) (fun _ => ?_)
            refine q_aload (pc2 := 795) C 7 dL_rigs_793 rfl rfl ?_
            refine q_bipush (v := nI 10) (pc2 := 797) C dL_rigs_795 (by decide) rfl ?_
            refine q_iload (pc2 := 799) C 2 dL_rigs_797 rfl rfl ?_
            refine q_iadd (v := nI (10 + k8)) (pc2 := 800) C dL_rigs_799 (nI_add 10 k8) rfl ?_
            refine q_iald (q0 := 28) (f := fp1) (pc2 := 801) C (10 + k8) (wU_g2 ct a o 5 (onN fp n) x (upd fc 0 (nI (1 - h))) fb fp1 fq fn fl) rfl (rfl) (by omega) (by decide) dL_rigs_800 rfl ?_
            refine q_eqi (y := (-1)) (hm1) ?_
            refine q_if_ge (tgt := 917) (pc2 := 804) C dL_rigs_801 (by decide) rfl (fun h9 => absurd h9 (by decide)) (fun _ => ?_)
            refine q_aload_n (pc2 := 805) C 9 dL_rigs_804 rfl rfl rfl ?_
            refine q_aload (pc2 := 807) C 8 dL_rigs_805 rfl rfl ?_
            refine q_aload (pc2 := 809) C 7 dL_rigs_807 rfl rfl ?_
            refine q_iload (pc2 := 811) C 2 dL_rigs_809 rfl rfl ?_
            refine q_aload (pc2 := 813) C 4 dL_rigs_811 rfl rfl ?_
            refine q_iload (pc2 := 815) C 2 dL_rigs_813 rfl rfl ?_
            refine q_iald (q0 := 32) (f := (onN fp n)) (pc2 := 816) C k8 (wU_g6 ct a o 5 (onN fp n) x (upd fc 0 (nI (1 - h))) fb fp1 fq fn fl) rfl (rfl) (by omega) (by decide) dL_rigs_815 rfl ?_
            refine q_eqi (y := nI j9) ((onN_v hk8).trans ej) ?_
            refine q_iload (pc2 := 818) C 1 dL_rigs_816 rfl rfl ?_
            refine q_iload (pc2 := 820) C 0 dL_rigs_818 rfl rfl ?_
            refine q_isub (v := (nI w9 - nI i8)) (pc2 := 821) C dL_rigs_820 (rfl) rfl ?_
            refine q_NS_wU (pc2 := 824) (As := [.ref (a 40), .ref (a 41), .ref (a 42), .int (nI k8), .int (nI j9), .int (nI w9 - nI i8)]) (st := []) (st2 := [.int (b2 (fitL fb fp1 K n (1 - h) (kb (1 - h)) k8 j9 (nI w9 - nI i8) n))]) C (c_L_fits l D ct a (upd fc 0 (nI (1 - h))) fb fp1 fq fn fl n ((upd_n (by decide)).trans hc3) hn5 K (fun k hk => ⟨(tl.2.2.2.1 k hk).2.1, (tl.2.2.2.1 k hk).1⟩) (1 - h) (kb (1 - h)) upd_s (by omega) ((upd_n (by omega)).trans hkn.2.2) hkn.1 k8 j9 hk8 hj2 (nI w9 - nI i8)) (va_cwS 6 C.w gL_rigs_L_fits rfl rfl rfl (by decide +kernel) ⟨Nat.le_of_ble_eq_true rfl, Nat.le_of_ble_eq_true rfl⟩) dL_rigs_821 rfl rfl (Nat.le_of_ble_eq_true rfl) ⟨Nat.le_of_ble_eq_true rfl, Nat.le_of_ble_eq_true rfl⟩ rfl rfl ?_
            refine q_if_eq (tgt := 835) (pc2 := 827) C dL_rigs_824 (by decide) rfl (fun c824 => ?_) (fun c824 => ?_)
            · skip
              refine q_aload_n (pc2 := 836) C 9 dL_rigs_835 rfl rfl rfl ?_
              refine q_aload (pc2 := 838) C 8 dL_rigs_836 rfl rfl ?_
              refine q_aload (pc2 := 840) C 7 dL_rigs_838 rfl rfl ?_
              refine q_iload (pc2 := 842) C 2 dL_rigs_840 rfl rfl ?_
              refine q_aload (pc2 := 844) C 4 dL_rigs_842 rfl rfl ?_
              refine q_iload (pc2 := 846) C 2 dL_rigs_844 rfl rfl ?_
              refine q_iald (q0 := 32) (f := (onN fp n)) (pc2 := 847) C k8 (wU_g6 ct a o 5 (onN fp n) x (upd fc 0 (nI (1 - h))) fb fp1 fq fn fl) rfl (rfl) (by omega) (by decide) dL_rigs_846 rfl ?_
              refine q_eqi (y := nI j9) ((onN_v hk8).trans ej) ?_
              refine q_iload (pc2 := 849) C 1 dL_rigs_847 rfl rfl ?_
              refine q_iload (pc2 := 851) C 0 dL_rigs_849 rfl rfl ?_
              refine q_iadd (v := (nI w9 + nI i8)) (pc2 := 852) C dL_rigs_851 (rfl) rfl ?_
              refine q_NS_wU (pc2 := 855) (As := [.ref (a 40), .ref (a 41), .ref (a 42), .int (nI k8), .int (nI j9), .int (nI w9 + nI i8)]) (st := []) (st2 := [.int (b2 (fitL fb fp1 K n (1 - h) (kb (1 - h)) k8 j9 (nI w9 + nI i8) n))]) C (c_L_fits l D ct a (upd fc 0 (nI (1 - h))) fb fp1 fq fn fl n ((upd_n (by decide)).trans hc3) hn5 K (fun k hk => ⟨(tl.2.2.2.1 k hk).2.1, (tl.2.2.2.1 k hk).1⟩) (1 - h) (kb (1 - h)) upd_s (by omega) ((upd_n (by omega)).trans hkn.2.2) hkn.1 k8 j9 hk8 hj2 (nI w9 + nI i8)) (va_cwS 6 C.w gL_rigs_L_fits rfl rfl rfl (by decide +kernel) ⟨Nat.le_of_ble_eq_true rfl, Nat.le_of_ble_eq_true rfl⟩) dL_rigs_852 rfl rfl (Nat.le_of_ble_eq_true rfl) ⟨Nat.le_of_ble_eq_true rfl, Nat.le_of_ble_eq_true rfl⟩ rfl rfl ?_
              refine q_if_eq (tgt := 866) (pc2 := 858) C dL_rigs_855 (by decide) rfl (fun c855 => ?_) (fun c855 => ?_)
              · skip
                refine q_iconst (v := (-1)) (pc2 := 867) C dL_rigs_866 (by decide) rfl ?_
                refine q_istore (lv' := [(13, .int (-1)), (12, .int (nI i8)), (11, .int (nI w9)), (10, .int (nI k8)), (9, .int ((trn (tr0 x (1 - h)) (1 - h) k8).2.2)), (8, .ref o), (7, .int z), (6, .int v), (5, .ref (a 42)), (4, .ref (a 41)), (3, .ref (a 40)), (2, .int y), (1, .int (nI 4)), (0, .ref (a 30))]) (pc2 := 869) C dL_rigs_867 (by decide) rfl rfl ?_
                refine q_aload (pc2 := 871) C 8 dL_rigs_869 rfl rfl ?_
                refine q_bipush (v := nI 10) (pc2 := 873) C dL_rigs_871 (by decide) rfl ?_
                refine q_iload (pc2 := 875) C 3 dL_rigs_873 rfl rfl ?_
                refine q_iadd (v := nI (10 + k8)) (pc2 := 876) C dL_rigs_875 (nI_add 10 k8) rfl ?_
                refine q_iload (pc2 := 878) C 0 dL_rigs_876 rfl rfl ?_
                refine q_if_lt (tgt := 889) (pc2 := 881) C dL_rigs_878 (by decide) rfl (fun _ => ?_) (fun h9 => absurd (by decide) h9)
                refine q_iconst (v := (-1)) (pc2 := 890) C dL_rigs_889 (by decide) rfl ?_
                refine q_iast (q0 := 28) (f := fp1) (ws' := (wU ct a o 5 (onN fp n) x (upd fc 0 (nI (1 - h))) fb (upd fp1 (10 + k8) (-1)) fq fn fl)) (pc2 := 891) C (10 + k8) (wU_g2 ct a o 5 (onN fp n) x (upd fc 0 (nI (1 - h))) fb fp1 fq fn fl) rfl (rfl) (by omega) (by decide) (wU_a2 ct a o 5 (onN fp n) x (upd fc 0 (nI (1 - h))) fb fp1 fq fn fl (upd fp1 (10 + k8) (-1))) dL_rigs_890 rfl ?_
                refine q_aload (pc2 := 893) C 8 dL_rigs_891 rfl rfl ?_
                refine q_bipush (v := nI 15) (pc2 := 895) C dL_rigs_893 (by decide) rfl ?_
                refine q_iload (pc2 := 897) C 3 dL_rigs_895 rfl rfl ?_
                refine q_iadd (v := nI (15 + k8)) (pc2 := 898) C dL_rigs_897 (nI_add 15 k8) rfl ?_
                refine q_iload (pc2 := 900) C 0 dL_rigs_898 rfl rfl ?_
                refine q_if_lt (tgt := 908) (pc2 := 903) C dL_rigs_900 (by decide) rfl (fun _ => ?_) (fun h9 => absurd (by decide) h9)
                refine q_iload (pc2 := 910) C 2 dL_rigs_908 rfl rfl ?_
                refine q_iast (q0 := 28) (f := (upd fp1 (10 + k8) (-1))) (ws' := (wU ct a o 5 (onN fp n) x (upd fc 0 (nI (1 - h))) fb (upd (upd fp1 (10 + k8) (-1)) (15 + k8) (nI w9)) fq fn fl)) (pc2 := 911) C (15 + k8) (wU_g2 ct a o 5 (onN fp n) x (upd fc 0 (nI (1 - h))) fb (upd fp1 (10 + k8) (-1)) fq fn fl) rfl (rfl) (by omega) (by decide) (wU_a2 ct a o 5 (onN fp n) x (upd fc 0 (nI (1 - h))) fb (upd fp1 (10 + k8) (-1)) fq fn fl (upd (upd fp1 (10 + k8) (-1)) (15 + k8) (nI w9))) dL_rigs_910 rfl ?_
                refine q_iinc (v := nI (i8 + 1)) (lv' := [(12, .int (nI (i8 + 1))), (13, .int (-1)), (11, .int (nI w9)), (10, .int (nI k8)), (9, .int ((trn (tr0 x (1 - h)) (1 - h) k8).2.2)), (8, .ref o), (7, .int z), (6, .int v), (5, .ref (a 42)), (4, .ref (a 41)), (3, .ref (a 40)), (2, .int y), (1, .int (nI 4)), (0, .ref (a 30))]) (pc2 := 914) C 1 dL_rigs_911 rfl (show nI i8 + Int32.ofInt 1 = nI (i8 + 1) by rw [show Int32.ofInt 1 = nI 1 from by decide]; exact nI_add i8 1) (by decide) rfl rfl ?_
                refine q_goto (pc2 := 778) C dL_rigs_914 (by decide) ?_
                refine q_lv (lv' := [(12, .int (nI (i8 + 1))), (11, .int (nI w9)), (10, .int (nI k8)), (9, .int ((trn (tr0 x (1 - h)) (1 - h) k8).2.2)), (8, .ref o), (7, .int z), (6, .int v), (5, .ref (a 42)), (4, .ref (a 41)), (3, .ref (a 40)), (2, .int y), (1, .int (nI 4)), (0, .ref (a 30))]) [0, 2, 3, 4, 5, 6, 7, 8, 9, 10, 11, 12, 13] rfl ?_
                refine q_eqw (ws' := (wU ct a o 5 (onN fp n) x (upd fc 0 (nI (1 - h))) fb fp1 fq fn fl)) (congrArg (fun z9 => wU ct a o 5 (onN fp n) x (upd fc 0 (nI (1 - h))) fb z9 fq fn fl) (by rw [upd_id hm1, upd_id ew])) ?_
                exact ihi8  (nrst_no hyi8 hi8 (b2_eq.mp c824) (b2_eq.mp c855))
              · skip
                refine q_iload (pc2 := 860) C 1 dL_rigs_858 rfl rfl ?_
                refine q_iload (pc2 := 862) C 0 dL_rigs_860 rfl rfl ?_
                refine q_iadd (v := (nI w9 + nI i8)) (pc2 := 863) C dL_rigs_862 (rfl) rfl ?_
                refine q_goto (pc2 := 867) C dL_rigs_863 (by decide) ?_
                have hfit := b2_ne.mp c855
                have hR : (nrst (fun v => fitL fb fp1 K n (1 - h) (kb (1 - h)) k8 j9 v n) (nI w9) 101 0) = (nI w9 + nI i8) := nrst_hi hyi8 hi8 (b2_eq.mp c824) hfit
                have hst := tI_hung (tour_rh rh) hyk8 hk8 hj2 (hz10.trans ej) (by rw [ew]; exact hR) hfit
                refine q_istore (lv' := [(13, .int (nI w9 + nI i8)), (12, .int (nI i8)), (11, .int (nI w9)), (10, .int (nI k8)), (9, .int ((trn (tr0 x (1 - h)) (1 - h) k8).2.2)), (8, .ref o), (7, .int z), (6, .int v), (5, .ref (a 42)), (4, .ref (a 41)), (3, .ref (a 40)), (2, .int y), (1, .int (nI 4)), (0, .ref (a 30))]) (pc2 := 869) C dL_rigs_867 (by decide) rfl rfl ?_
                refine q_aload (pc2 := 871) C 8 dL_rigs_869 rfl rfl ?_
                refine q_bipush (v := nI 10) (pc2 := 873) C dL_rigs_871 (by decide) rfl ?_
                refine q_iload (pc2 := 875) C 3 dL_rigs_873 rfl rfl ?_
                refine q_iadd (v := nI (10 + k8)) (pc2 := 876) C dL_rigs_875 (nI_add 10 k8) rfl ?_
                refine q_iload (pc2 := 878) C 0 dL_rigs_876 rfl rfl ?_
                refine q_if_lt (tgt := 889) (pc2 := 881) C dL_rigs_878 (by decide) rfl (fun h9 => absurd h9 (Int32.not_lt.mpr hfit.1.2.1)) (fun _ => ?_)
                refine q_aload (pc2 := 883) C 5 dL_rigs_881 rfl rfl ?_
                refine q_iload (pc2 := 885) C 3 dL_rigs_883 rfl rfl ?_
                refine q_iald (q0 := 32) (f := (onN fp n)) (pc2 := 886) C k8 (wU_g6 ct a o 5 (onN fp n) x (upd fc 0 (nI (1 - h))) fb fp1 fq fn fl) rfl (rfl) (by omega) (by decide) dL_rigs_885 rfl ?_
                refine q_eqi (y := nI j9) ((onN_v hk8).trans ej) ?_
                refine q_goto (pc2 := 890) C dL_rigs_886 (by decide) ?_
                refine q_iast (q0 := 28) (f := fp1) (ws' := (wU ct a o 5 (onN fp n) x (upd fc 0 (nI (1 - h))) fb (upd fp1 (10 + k8) (nI j9)) fq fn fl)) (pc2 := 891) C (10 + k8) (wU_g2 ct a o 5 (onN fp n) x (upd fc 0 (nI (1 - h))) fb fp1 fq fn fl) rfl (rfl) (by omega) (by decide) (wU_a2 ct a o 5 (onN fp n) x (upd fc 0 (nI (1 - h))) fb fp1 fq fn fl (upd fp1 (10 + k8) (nI j9))) dL_rigs_890 rfl ?_
                refine q_aload (pc2 := 893) C 8 dL_rigs_891 rfl rfl ?_
                refine q_bipush (v := nI 15) (pc2 := 895) C dL_rigs_893 (by decide) rfl ?_
                refine q_iload (pc2 := 897) C 3 dL_rigs_895 rfl rfl ?_
                refine q_iadd (v := nI (15 + k8)) (pc2 := 898) C dL_rigs_897 (nI_add 15 k8) rfl ?_
                refine q_iload (pc2 := 900) C 0 dL_rigs_898 rfl rfl ?_
                refine q_if_lt (tgt := 908) (pc2 := 903) C dL_rigs_900 (by decide) rfl (fun h9 => absurd h9 (Int32.not_lt.mpr hfit.1.2.1)) (fun _ => ?_)
                refine q_iload (pc2 := 905) C 0 dL_rigs_903 rfl rfl ?_
                refine q_goto (pc2 := 910) C dL_rigs_905 (by decide) ?_
                refine q_iast (q0 := 28) (f := (upd fp1 (10 + k8) (nI j9))) (ws' := (wU ct a o 5 (onN fp n) x (upd fc 0 (nI (1 - h))) fb (upd (upd fp1 (10 + k8) (nI j9)) (15 + k8) (nI w9 + nI i8)) fq fn fl)) (pc2 := 911) C (15 + k8) (wU_g2 ct a o 5 (onN fp n) x (upd fc 0 (nI (1 - h))) fb (upd fp1 (10 + k8) (nI j9)) fq fn fl) rfl (rfl) (by omega) (by decide) (wU_a2 ct a o 5 (onN fp n) x (upd fc 0 (nI (1 - h))) fb (upd fp1 (10 + k8) (nI j9)) fq fn fl (upd (upd fp1 (10 + k8) (nI j9)) (15 + k8) (nI w9 + nI i8))) dL_rigs_910 rfl ?_
                refine q_iinc (v := nI (i8 + 1)) (lv' := [(12, .int (nI (i8 + 1))), (13, .int (nI w9 + nI i8)), (11, .int (nI w9)), (10, .int (nI k8)), (9, .int ((trn (tr0 x (1 - h)) (1 - h) k8).2.2)), (8, .ref o), (7, .int z), (6, .int v), (5, .ref (a 42)), (4, .ref (a 41)), (3, .ref (a 40)), (2, .int y), (1, .int (nI 4)), (0, .ref (a 30))]) (pc2 := 914) C 1 dL_rigs_911 rfl (show nI i8 + Int32.ofInt 1 = nI (i8 + 1) by rw [show Int32.ofInt 1 = nI 1 from by decide]; exact nI_add i8 1) (by decide) rfl rfl ?_
                refine q_goto (pc2 := 778) C dL_rigs_914 (by decide) ?_
                refine q_iload (pc2 := 780) C 0 dL_rigs_778 rfl rfl ?_
                refine q_bipush (v := nI 101) (pc2 := 782) C dL_rigs_780 (by decide) rfl ?_
                refine q_icmp_ge (tgt := 917) (pc2 := 785) C dL_rigs_782 (by decide) rfl (fun c782 => ?_) (fun c782 => ?_)
                · skip
                  have k782 : 101 ≤ (i8 + 1) := (nI_leI (a := 101) (b := (i8 + 1)) (by omega) (by omega)).mp c782
                  refine q_iload (pc2 := 919) C 4 dL_rigs_917 rfl rfl ?_
                  refine q_aload (pc2 := 921) C 5 dL_rigs_919 rfl rfl ?_
                  refine q_iload (pc2 := 923) C 3 dL_rigs_921 rfl rfl ?_
                  refine q_iald (q0 := 32) (f := (onN fp n)) (pc2 := 924) C k8 (wU_g6 ct a o 5 (onN fp n) x (upd fc 0 (nI (1 - h))) fb (upd (upd fp1 (10 + k8) (nI j9)) (15 + k8) (nI w9 + nI i8)) fq fn fl) rfl (rfl) (by omega) (by decide) dL_rigs_923 rfl ?_
                  refine q_eqi (y := nI j9) ((onN_v hk8).trans ej) ?_
                  refine q_if_lt (tgt := 942) (pc2 := 927) C dL_rigs_924 (by decide) rfl (fun h9 => absurd h9 (nI_nlt (a := j9) (b := 0) (by omega) (by omega))) (fun _ => ?_)
                  refine q_aload (pc2 := 929) C 8 dL_rigs_927 rfl rfl ?_
                  refine q_bipush (v := nI 10) (pc2 := 931) C dL_rigs_929 (by decide) rfl ?_
                  refine q_iload (pc2 := 933) C 3 dL_rigs_931 rfl rfl ?_
                  refine q_iadd (v := nI (10 + k8)) (pc2 := 934) C dL_rigs_933 (nI_add 10 k8) rfl ?_
                  refine q_iald (q0 := 28) (f := (upd (upd fp1 (10 + k8) (nI j9)) (15 + k8) (nI w9 + nI i8))) (pc2 := 935) C (10 + k8) (wU_g2 ct a o 5 (onN fp n) x (upd fc 0 (nI (1 - h))) fb (upd (upd fp1 (10 + k8) (nI j9)) (15 + k8) (nI w9 + nI i8)) fq fn fl) rfl (rfl) (by omega) (by decide) dL_rigs_934 rfl ?_
                  refine q_eqi (y := nI j9) ((upd_n (by omega)).trans (upd_s)) ?_
                  refine q_if_ge (tgt := 942) (pc2 := 938) C dL_rigs_935 (by decide) rfl (fun _ => ?_) (fun h9 => absurd (nI_le (a := 0) (b := j9) (by omega) (by omega)) h9)
                  refine q_iconst (v := nI 0) (pc2 := 943) C dL_rigs_942 (by decide) rfl ?_
                  refine q_iadd (v := ((trn (tr0 x (1 - h)) (1 - h) k8).2.2 + nI 0)) (pc2 := 944) C dL_rigs_943 (rfl) rfl ?_
                  refine q_eqi (y := (trn (tr0 x (1 - h)) (1 - h) (k8 + 1)).2.2) (by rw [hst.2]) ?_
                  refine q_istore (lv' := [(9, .int ((trn (tr0 x (1 - h)) (1 - h) (k8 + 1)).2.2)), (12, .int (nI (i8 + 1))), (13, .int (nI w9 + nI i8)), (11, .int (nI w9)), (10, .int (nI k8)), (8, .ref o), (7, .int z), (6, .int v), (5, .ref (a 42)), (4, .ref (a 41)), (3, .ref (a 40)), (2, .int y), (1, .int (nI 4)), (0, .ref (a 30))]) (pc2 := 946) C dL_rigs_944 (by decide) rfl rfl ?_
                  refine q_iinc (v := nI (k8 + 1)) (lv' := [(10, .int (nI (k8 + 1))), (9, .int ((trn (tr0 x (1 - h)) (1 - h) (k8 + 1)).2.2)), (12, .int (nI (i8 + 1))), (13, .int (nI w9 + nI i8)), (11, .int (nI w9)), (8, .ref o), (7, .int z), (6, .int v), (5, .ref (a 42)), (4, .ref (a 41)), (3, .ref (a 40)), (2, .int y), (1, .int (nI 4)), (0, .ref (a 30))]) (pc2 := 949) C 4 dL_rigs_946 rfl (show nI k8 + Int32.ofInt 1 = nI (k8 + 1) by rw [show Int32.ofInt 1 = nI 1 from by decide]; exact nI_add k8 1) (by decide) rfl rfl ?_
                  refine q_goto (pc2 := 757) C dL_rigs_949 (by decide) ?_
                  refine q_lv (lv' := [(10, .int (nI (k8 + 1))), (9, .int ((trn (tr0 x (1 - h)) (1 - h) (k8 + 1)).2.2)), (8, .ref o), (7, .int z), (6, .int v), (5, .ref (a 42)), (4, .ref (a 41)), (3, .ref (a 40)), (2, .int y), (1, .int (nI 4)), (0, .ref (a 30))]) [0, 1, 5, 6, 7, 8, 9, 10, 11, 12, 13] rfl ?_
                  exact ihk8 _ hst.1
                · skip
                  have k782 : (i8 + 1) < 101 := (nI_ltI (a := (i8 + 1)) (b := 101) (by omega) (by omega)).mp (Int32.not_le.mp c782)
                  refine q_aload (pc2 := 787) C 5 dL_rigs_785 rfl rfl ?_
                  refine q_iload (pc2 := 789) C 3 dL_rigs_787 rfl rfl ?_
                  refine q_iald (q0 := 32) (f := (onN fp n)) (pc2 := 790) C k8 (wU_g6 ct a o 5 (onN fp n) x (upd fc 0 (nI (1 - h))) fb (upd (upd fp1 (10 + k8) (nI j9)) (15 + k8) (nI w9 + nI i8)) fq fn fl) rfl (rfl) (by omega) (by decide) dL_rigs_789 rfl ?_
                  refine q_eqi (y := nI j9) ((onN_v hk8).trans ej) ?_
                  refine q_if_lt (tgt := 917) (pc2 := 793) C dL_rigs_790 (by decide) rfl (fun h9 => absurd h9 (nI_nlt (a := j9) (b := 0) (by omega) (by omega))) (fun _ => ?_)
                  refine q_aload (pc2 := 795) C 8 dL_rigs_793 rfl rfl ?_
                  refine q_bipush (v := nI 10) (pc2 := 797) C dL_rigs_795 (by decide) rfl ?_
                  refine q_iload (pc2 := 799) C 3 dL_rigs_797 rfl rfl ?_
                  refine q_iadd (v := nI (10 + k8)) (pc2 := 800) C dL_rigs_799 (nI_add 10 k8) rfl ?_
                  refine q_iald (q0 := 28) (f := (upd (upd fp1 (10 + k8) (nI j9)) (15 + k8) (nI w9 + nI i8))) (pc2 := 801) C (10 + k8) (wU_g2 ct a o 5 (onN fp n) x (upd fc 0 (nI (1 - h))) fb (upd (upd fp1 (10 + k8) (nI j9)) (15 + k8) (nI w9 + nI i8)) fq fn fl) rfl (rfl) (by omega) (by decide) dL_rigs_800 rfl ?_
                  refine q_eqi (y := nI j9) ((upd_n (by omega)).trans (upd_s)) ?_
                  refine q_if_ge (tgt := 917) (pc2 := 804) C dL_rigs_801 (by decide) rfl (fun _ => ?_) (fun h9 => absurd (nI_le (a := 0) (b := j9) (by omega) (by omega)) h9)
                  refine q_iload (pc2 := 919) C 4 dL_rigs_917 rfl rfl ?_
                  refine q_aload (pc2 := 921) C 5 dL_rigs_919 rfl rfl ?_
                  refine q_iload (pc2 := 923) C 3 dL_rigs_921 rfl rfl ?_
                  refine q_iald (q0 := 32) (f := (onN fp n)) (pc2 := 924) C k8 (wU_g6 ct a o 5 (onN fp n) x (upd fc 0 (nI (1 - h))) fb (upd (upd fp1 (10 + k8) (nI j9)) (15 + k8) (nI w9 + nI i8)) fq fn fl) rfl (rfl) (by omega) (by decide) dL_rigs_923 rfl ?_
                  refine q_eqi (y := nI j9) ((onN_v hk8).trans ej) ?_
                  refine q_if_lt (tgt := 942) (pc2 := 927) C dL_rigs_924 (by decide) rfl (fun h9 => absurd h9 (nI_nlt (a := j9) (b := 0) (by omega) (by omega))) (fun _ => ?_)
                  refine q_aload (pc2 := 929) C 8 dL_rigs_927 rfl rfl ?_
                  refine q_bipush (v := nI 10) (pc2 := 931) C dL_rigs_929 (by decide) rfl ?_
                  refine q_iload (pc2 := 933) C 3 dL_rigs_931 rfl rfl ?_
                  refine q_iadd (v := nI (10 + k8)) (pc2 := 934) C dL_rigs_933 (nI_add 10 k8) rfl ?_
                  refine q_iald (q0 := 28) (f := (upd (upd fp1 (10 + k8) (nI j9)) (15 + k8) (nI w9 + nI i8))) (pc2 := 935) C (10 + k8) (wU_g2 ct a o 5 (onN fp n) x (upd fc 0 (nI (1 - h))) fb (upd (upd fp1 (10 + k8) (nI j9)) (15 + k8) (nI w9 + nI i8)) fq fn fl) rfl (rfl) (by omega) (by decide) dL_rigs_934 rfl ?_
                  refine q_eqi (y := nI j9) ((upd_n (by omega)).trans (upd_s)) ?_
                  refine q_if_ge (tgt := 942) (pc2 := 938) C dL_rigs_935 (by decide) rfl (fun _ => ?_) (fun h9 => absurd (nI_le (a := 0) (b := j9) (by omega) (by omega)) h9)
                  refine q_iconst (v := nI 0) (pc2 := 943) C dL_rigs_942 (by decide) rfl ?_
                  refine q_iadd (v := ((trn (tr0 x (1 - h)) (1 - h) k8).2.2 + nI 0)) (pc2 := 944) C dL_rigs_943 (rfl) rfl ?_
                  refine q_eqi (y := (trn (tr0 x (1 - h)) (1 - h) (k8 + 1)).2.2) (by rw [hst.2]) ?_
                  refine q_istore (lv' := [(9, .int ((trn (tr0 x (1 - h)) (1 - h) (k8 + 1)).2.2)), (12, .int (nI (i8 + 1))), (13, .int (nI w9 + nI i8)), (11, .int (nI w9)), (10, .int (nI k8)), (8, .ref o), (7, .int z), (6, .int v), (5, .ref (a 42)), (4, .ref (a 41)), (3, .ref (a 40)), (2, .int y), (1, .int (nI 4)), (0, .ref (a 30))]) (pc2 := 946) C dL_rigs_944 (by decide) rfl rfl ?_
                  refine q_iinc (v := nI (k8 + 1)) (lv' := [(10, .int (nI (k8 + 1))), (9, .int ((trn (tr0 x (1 - h)) (1 - h) (k8 + 1)).2.2)), (12, .int (nI (i8 + 1))), (13, .int (nI w9 + nI i8)), (11, .int (nI w9)), (8, .ref o), (7, .int z), (6, .int v), (5, .ref (a 42)), (4, .ref (a 41)), (3, .ref (a 40)), (2, .int y), (1, .int (nI 4)), (0, .ref (a 30))]) (pc2 := 949) C 4 dL_rigs_946 rfl (show nI k8 + Int32.ofInt 1 = nI (k8 + 1) by rw [show Int32.ofInt 1 = nI 1 from by decide]; exact nI_add k8 1) (by decide) rfl rfl ?_
                  refine q_goto (pc2 := 757) C dL_rigs_949 (by decide) ?_
                  refine q_lv (lv' := [(10, .int (nI (k8 + 1))), (9, .int ((trn (tr0 x (1 - h)) (1 - h) (k8 + 1)).2.2)), (8, .ref o), (7, .int z), (6, .int v), (5, .ref (a 42)), (4, .ref (a 41)), (3, .ref (a 40)), (2, .int y), (1, .int (nI 4)), (0, .ref (a 30))]) [0, 1, 5, 6, 7, 8, 9, 10, 11, 12, 13] rfl ?_
                  exact ihk8 _ hst.1
            · skip
              refine q_iload (pc2 := 829) C 1 dL_rigs_827 rfl rfl ?_
              refine q_iload (pc2 := 831) C 0 dL_rigs_829 rfl rfl ?_
              refine q_isub (v := (nI w9 - nI i8)) (pc2 := 832) C dL_rigs_831 (rfl) rfl ?_
              refine q_goto (pc2 := 867) C dL_rigs_832 (by decide) ?_
              have hfit := b2_ne.mp c824
              have hR : (nrst (fun v => fitL fb fp1 K n (1 - h) (kb (1 - h)) k8 j9 v n) (nI w9) 101 0) = (nI w9 - nI i8) := nrst_lo hyi8 hi8 hfit
              have hst := tI_hung (tour_rh rh) hyk8 hk8 hj2 (hz10.trans ej) (by rw [ew]; exact hR) hfit
              refine q_istore (lv' := [(13, .int (nI w9 - nI i8)), (12, .int (nI i8)), (11, .int (nI w9)), (10, .int (nI k8)), (9, .int ((trn (tr0 x (1 - h)) (1 - h) k8).2.2)), (8, .ref o), (7, .int z), (6, .int v), (5, .ref (a 42)), (4, .ref (a 41)), (3, .ref (a 40)), (2, .int y), (1, .int (nI 4)), (0, .ref (a 30))]) (pc2 := 869) C dL_rigs_867 (by decide) rfl rfl ?_
              refine q_aload (pc2 := 871) C 8 dL_rigs_869 rfl rfl ?_
              refine q_bipush (v := nI 10) (pc2 := 873) C dL_rigs_871 (by decide) rfl ?_
              refine q_iload (pc2 := 875) C 3 dL_rigs_873 rfl rfl ?_
              refine q_iadd (v := nI (10 + k8)) (pc2 := 876) C dL_rigs_875 (nI_add 10 k8) rfl ?_
              refine q_iload (pc2 := 878) C 0 dL_rigs_876 rfl rfl ?_
              refine q_if_lt (tgt := 889) (pc2 := 881) C dL_rigs_878 (by decide) rfl (fun h9 => absurd h9 (Int32.not_lt.mpr hfit.1.2.1)) (fun _ => ?_)
              refine q_aload (pc2 := 883) C 5 dL_rigs_881 rfl rfl ?_
              refine q_iload (pc2 := 885) C 3 dL_rigs_883 rfl rfl ?_
              refine q_iald (q0 := 32) (f := (onN fp n)) (pc2 := 886) C k8 (wU_g6 ct a o 5 (onN fp n) x (upd fc 0 (nI (1 - h))) fb fp1 fq fn fl) rfl (rfl) (by omega) (by decide) dL_rigs_885 rfl ?_
              refine q_eqi (y := nI j9) ((onN_v hk8).trans ej) ?_
              refine q_goto (pc2 := 890) C dL_rigs_886 (by decide) ?_
              refine q_iast (q0 := 28) (f := fp1) (ws' := (wU ct a o 5 (onN fp n) x (upd fc 0 (nI (1 - h))) fb (upd fp1 (10 + k8) (nI j9)) fq fn fl)) (pc2 := 891) C (10 + k8) (wU_g2 ct a o 5 (onN fp n) x (upd fc 0 (nI (1 - h))) fb fp1 fq fn fl) rfl (rfl) (by omega) (by decide) (wU_a2 ct a o 5 (onN fp n) x (upd fc 0 (nI (1 - h))) fb fp1 fq fn fl (upd fp1 (10 + k8) (nI j9))) dL_rigs_890 rfl ?_
              refine q_aload (pc2 := 893) C 8 dL_rigs_891 rfl rfl ?_
              refine q_bipush (v := nI 15) (pc2 := 895) C dL_rigs_893 (by decide) rfl ?_
              refine q_iload (pc2 := 897) C 3 dL_rigs_895 rfl rfl ?_
              refine q_iadd (v := nI (15 + k8)) (pc2 := 898) C dL_rigs_897 (nI_add 15 k8) rfl ?_
              refine q_iload (pc2 := 900) C 0 dL_rigs_898 rfl rfl ?_
              refine q_if_lt (tgt := 908) (pc2 := 903) C dL_rigs_900 (by decide) rfl (fun h9 => absurd h9 (Int32.not_lt.mpr hfit.1.2.1)) (fun _ => ?_)
              refine q_iload (pc2 := 905) C 0 dL_rigs_903 rfl rfl ?_
              refine q_goto (pc2 := 910) C dL_rigs_905 (by decide) ?_
              refine q_iast (q0 := 28) (f := (upd fp1 (10 + k8) (nI j9))) (ws' := (wU ct a o 5 (onN fp n) x (upd fc 0 (nI (1 - h))) fb (upd (upd fp1 (10 + k8) (nI j9)) (15 + k8) (nI w9 - nI i8)) fq fn fl)) (pc2 := 911) C (15 + k8) (wU_g2 ct a o 5 (onN fp n) x (upd fc 0 (nI (1 - h))) fb (upd fp1 (10 + k8) (nI j9)) fq fn fl) rfl (rfl) (by omega) (by decide) (wU_a2 ct a o 5 (onN fp n) x (upd fc 0 (nI (1 - h))) fb (upd fp1 (10 + k8) (nI j9)) fq fn fl (upd (upd fp1 (10 + k8) (nI j9)) (15 + k8) (nI w9 - nI i8))) dL_rigs_910 rfl ?_
              refine q_iinc (v := nI (i8 + 1)) (lv' := [(12, .int (nI (i8 + 1))), (13, .int (nI w9 - nI i8)), (11, .int (nI w9)), (10, .int (nI k8)), (9, .int ((trn (tr0 x (1 - h)) (1 - h) k8).2.2)), (8, .ref o), (7, .int z), (6, .int v), (5, .ref (a 42)), (4, .ref (a 41)), (3, .ref (a 40)), (2, .int y), (1, .int (nI 4)), (0, .ref (a 30))]) (pc2 := 914) C 1 dL_rigs_911 rfl (show nI i8 + Int32.ofInt 1 = nI (i8 + 1) by rw [show Int32.ofInt 1 = nI 1 from by decide]; exact nI_add i8 1) (by decide) rfl rfl ?_
              refine q_goto (pc2 := 778) C dL_rigs_914 (by decide) ?_
              refine q_iload (pc2 := 780) C 0 dL_rigs_778 rfl rfl ?_
              refine q_bipush (v := nI 101) (pc2 := 782) C dL_rigs_780 (by decide) rfl ?_
              refine q_icmp_ge (tgt := 917) (pc2 := 785) C dL_rigs_782 (by decide) rfl (fun c782 => ?_) (fun c782 => ?_)
              · skip
                have k782 : 101 ≤ (i8 + 1) := (nI_leI (a := 101) (b := (i8 + 1)) (by omega) (by omega)).mp c782
                refine q_iload (pc2 := 919) C 4 dL_rigs_917 rfl rfl ?_
                refine q_aload (pc2 := 921) C 5 dL_rigs_919 rfl rfl ?_
                refine q_iload (pc2 := 923) C 3 dL_rigs_921 rfl rfl ?_
                refine q_iald (q0 := 32) (f := (onN fp n)) (pc2 := 924) C k8 (wU_g6 ct a o 5 (onN fp n) x (upd fc 0 (nI (1 - h))) fb (upd (upd fp1 (10 + k8) (nI j9)) (15 + k8) (nI w9 - nI i8)) fq fn fl) rfl (rfl) (by omega) (by decide) dL_rigs_923 rfl ?_
                refine q_eqi (y := nI j9) ((onN_v hk8).trans ej) ?_
                refine q_if_lt (tgt := 942) (pc2 := 927) C dL_rigs_924 (by decide) rfl (fun h9 => absurd h9 (nI_nlt (a := j9) (b := 0) (by omega) (by omega))) (fun _ => ?_)
                refine q_aload (pc2 := 929) C 8 dL_rigs_927 rfl rfl ?_
                refine q_bipush (v := nI 10) (pc2 := 931) C dL_rigs_929 (by decide) rfl ?_
                refine q_iload (pc2 := 933) C 3 dL_rigs_931 rfl rfl ?_
                refine q_iadd (v := nI (10 + k8)) (pc2 := 934) C dL_rigs_933 (nI_add 10 k8) rfl ?_
                refine q_iald (q0 := 28) (f := (upd (upd fp1 (10 + k8) (nI j9)) (15 + k8) (nI w9 - nI i8))) (pc2 := 935) C (10 + k8) (wU_g2 ct a o 5 (onN fp n) x (upd fc 0 (nI (1 - h))) fb (upd (upd fp1 (10 + k8) (nI j9)) (15 + k8) (nI w9 - nI i8)) fq fn fl) rfl (rfl) (by omega) (by decide) dL_rigs_934 rfl ?_
                refine q_eqi (y := nI j9) ((upd_n (by omega)).trans (upd_s)) ?_
                refine q_if_ge (tgt := 942) (pc2 := 938) C dL_rigs_935 (by decide) rfl (fun _ => ?_) (fun h9 => absurd (nI_le (a := 0) (b := j9) (by omega) (by omega)) h9)
                refine q_iconst (v := nI 0) (pc2 := 943) C dL_rigs_942 (by decide) rfl ?_
                refine q_iadd (v := ((trn (tr0 x (1 - h)) (1 - h) k8).2.2 + nI 0)) (pc2 := 944) C dL_rigs_943 (rfl) rfl ?_
                refine q_eqi (y := (trn (tr0 x (1 - h)) (1 - h) (k8 + 1)).2.2) (by rw [hst.2]) ?_
                refine q_istore (lv' := [(9, .int ((trn (tr0 x (1 - h)) (1 - h) (k8 + 1)).2.2)), (12, .int (nI (i8 + 1))), (13, .int (nI w9 - nI i8)), (11, .int (nI w9)), (10, .int (nI k8)), (8, .ref o), (7, .int z), (6, .int v), (5, .ref (a 42)), (4, .ref (a 41)), (3, .ref (a 40)), (2, .int y), (1, .int (nI 4)), (0, .ref (a 30))]) (pc2 := 946) C dL_rigs_944 (by decide) rfl rfl ?_
                refine q_iinc (v := nI (k8 + 1)) (lv' := [(10, .int (nI (k8 + 1))), (9, .int ((trn (tr0 x (1 - h)) (1 - h) (k8 + 1)).2.2)), (12, .int (nI (i8 + 1))), (13, .int (nI w9 - nI i8)), (11, .int (nI w9)), (8, .ref o), (7, .int z), (6, .int v), (5, .ref (a 42)), (4, .ref (a 41)), (3, .ref (a 40)), (2, .int y), (1, .int (nI 4)), (0, .ref (a 30))]) (pc2 := 949) C 4 dL_rigs_946 rfl (show nI k8 + Int32.ofInt 1 = nI (k8 + 1) by rw [show Int32.ofInt 1 = nI 1 from by decide]; exact nI_add k8 1) (by decide) rfl rfl ?_
                refine q_goto (pc2 := 757) C dL_rigs_949 (by decide) ?_
                refine q_lv (lv' := [(10, .int (nI (k8 + 1))), (9, .int ((trn (tr0 x (1 - h)) (1 - h) (k8 + 1)).2.2)), (8, .ref o), (7, .int z), (6, .int v), (5, .ref (a 42)), (4, .ref (a 41)), (3, .ref (a 40)), (2, .int y), (1, .int (nI 4)), (0, .ref (a 30))]) [0, 1, 5, 6, 7, 8, 9, 10, 11, 12, 13] rfl ?_
                exact ihk8 _ hst.1
              · skip
                have k782 : (i8 + 1) < 101 := (nI_ltI (a := (i8 + 1)) (b := 101) (by omega) (by omega)).mp (Int32.not_le.mp c782)
                refine q_aload (pc2 := 787) C 5 dL_rigs_785 rfl rfl ?_
                refine q_iload (pc2 := 789) C 3 dL_rigs_787 rfl rfl ?_
                refine q_iald (q0 := 32) (f := (onN fp n)) (pc2 := 790) C k8 (wU_g6 ct a o 5 (onN fp n) x (upd fc 0 (nI (1 - h))) fb (upd (upd fp1 (10 + k8) (nI j9)) (15 + k8) (nI w9 - nI i8)) fq fn fl) rfl (rfl) (by omega) (by decide) dL_rigs_789 rfl ?_
                refine q_eqi (y := nI j9) ((onN_v hk8).trans ej) ?_
                refine q_if_lt (tgt := 917) (pc2 := 793) C dL_rigs_790 (by decide) rfl (fun h9 => absurd h9 (nI_nlt (a := j9) (b := 0) (by omega) (by omega))) (fun _ => ?_)
                refine q_aload (pc2 := 795) C 8 dL_rigs_793 rfl rfl ?_
                refine q_bipush (v := nI 10) (pc2 := 797) C dL_rigs_795 (by decide) rfl ?_
                refine q_iload (pc2 := 799) C 3 dL_rigs_797 rfl rfl ?_
                refine q_iadd (v := nI (10 + k8)) (pc2 := 800) C dL_rigs_799 (nI_add 10 k8) rfl ?_
                refine q_iald (q0 := 28) (f := (upd (upd fp1 (10 + k8) (nI j9)) (15 + k8) (nI w9 - nI i8))) (pc2 := 801) C (10 + k8) (wU_g2 ct a o 5 (onN fp n) x (upd fc 0 (nI (1 - h))) fb (upd (upd fp1 (10 + k8) (nI j9)) (15 + k8) (nI w9 - nI i8)) fq fn fl) rfl (rfl) (by omega) (by decide) dL_rigs_800 rfl ?_
                refine q_eqi (y := nI j9) ((upd_n (by omega)).trans (upd_s)) ?_
                refine q_if_ge (tgt := 917) (pc2 := 804) C dL_rigs_801 (by decide) rfl (fun _ => ?_) (fun h9 => absurd (nI_le (a := 0) (b := j9) (by omega) (by omega)) h9)
                refine q_iload (pc2 := 919) C 4 dL_rigs_917 rfl rfl ?_
                refine q_aload (pc2 := 921) C 5 dL_rigs_919 rfl rfl ?_
                refine q_iload (pc2 := 923) C 3 dL_rigs_921 rfl rfl ?_
                refine q_iald (q0 := 32) (f := (onN fp n)) (pc2 := 924) C k8 (wU_g6 ct a o 5 (onN fp n) x (upd fc 0 (nI (1 - h))) fb (upd (upd fp1 (10 + k8) (nI j9)) (15 + k8) (nI w9 - nI i8)) fq fn fl) rfl (rfl) (by omega) (by decide) dL_rigs_923 rfl ?_
                refine q_eqi (y := nI j9) ((onN_v hk8).trans ej) ?_
                refine q_if_lt (tgt := 942) (pc2 := 927) C dL_rigs_924 (by decide) rfl (fun h9 => absurd h9 (nI_nlt (a := j9) (b := 0) (by omega) (by omega))) (fun _ => ?_)
                refine q_aload (pc2 := 929) C 8 dL_rigs_927 rfl rfl ?_
                refine q_bipush (v := nI 10) (pc2 := 931) C dL_rigs_929 (by decide) rfl ?_
                refine q_iload (pc2 := 933) C 3 dL_rigs_931 rfl rfl ?_
                refine q_iadd (v := nI (10 + k8)) (pc2 := 934) C dL_rigs_933 (nI_add 10 k8) rfl ?_
                refine q_iald (q0 := 28) (f := (upd (upd fp1 (10 + k8) (nI j9)) (15 + k8) (nI w9 - nI i8))) (pc2 := 935) C (10 + k8) (wU_g2 ct a o 5 (onN fp n) x (upd fc 0 (nI (1 - h))) fb (upd (upd fp1 (10 + k8) (nI j9)) (15 + k8) (nI w9 - nI i8)) fq fn fl) rfl (rfl) (by omega) (by decide) dL_rigs_934 rfl ?_
                refine q_eqi (y := nI j9) ((upd_n (by omega)).trans (upd_s)) ?_
                refine q_if_ge (tgt := 942) (pc2 := 938) C dL_rigs_935 (by decide) rfl (fun _ => ?_) (fun h9 => absurd (nI_le (a := 0) (b := j9) (by omega) (by omega)) h9)
                refine q_iconst (v := nI 0) (pc2 := 943) C dL_rigs_942 (by decide) rfl ?_
                refine q_iadd (v := ((trn (tr0 x (1 - h)) (1 - h) k8).2.2 + nI 0)) (pc2 := 944) C dL_rigs_943 (rfl) rfl ?_
                refine q_eqi (y := (trn (tr0 x (1 - h)) (1 - h) (k8 + 1)).2.2) (by rw [hst.2]) ?_
                refine q_istore (lv' := [(9, .int ((trn (tr0 x (1 - h)) (1 - h) (k8 + 1)).2.2)), (12, .int (nI (i8 + 1))), (13, .int (nI w9 - nI i8)), (11, .int (nI w9)), (10, .int (nI k8)), (8, .ref o), (7, .int z), (6, .int v), (5, .ref (a 42)), (4, .ref (a 41)), (3, .ref (a 40)), (2, .int y), (1, .int (nI 4)), (0, .ref (a 30))]) (pc2 := 946) C dL_rigs_944 (by decide) rfl rfl ?_
                refine q_iinc (v := nI (k8 + 1)) (lv' := [(10, .int (nI (k8 + 1))), (9, .int ((trn (tr0 x (1 - h)) (1 - h) (k8 + 1)).2.2)), (12, .int (nI (i8 + 1))), (13, .int (nI w9 - nI i8)), (11, .int (nI w9)), (8, .ref o), (7, .int z), (6, .int v), (5, .ref (a 42)), (4, .ref (a 41)), (3, .ref (a 40)), (2, .int y), (1, .int (nI 4)), (0, .ref (a 30))]) (pc2 := 949) C 4 dL_rigs_946 rfl (show nI k8 + Int32.ofInt 1 = nI (k8 + 1) by rw [show Int32.ofInt 1 = nI 1 from by decide]; exact nI_add k8 1) (by decide) rfl rfl ?_
                refine q_goto (pc2 := 757) C dL_rigs_949 (by decide) ?_
                refine q_lv (lv' := [(10, .int (nI (k8 + 1))), (9, .int ((trn (tr0 x (1 - h)) (1 - h) (k8 + 1)).2.2)), (8, .ref o), (7, .int z), (6, .int v), (5, .ref (a 42)), (4, .ref (a 41)), (3, .ref (a 40)), (2, .int y), (1, .int (nI 4)), (0, .ref (a 30))]) [0, 1, 5, 6, 7, 8, 9, 10, 11, 12, 13] rfl ?_
                exact ihk8 _ hst.1
          · intro hyi8
            refine q_iload (pc2 := 780) C 0 dL_rigs_778 rfl rfl ?_
            refine q_bipush (v := nI 101) (pc2 := 782) C dL_rigs_780 (by decide) rfl ?_
            refine q_icmp_ge (tgt := 917) (pc2 := 785) C dL_rigs_782 (by decide) rfl (fun _ => ?_) (fun h9 => absurd (nI_le (a := 101) (b := 101) (by omega) (by omega)) h9)
            have hR : (nrst (fun v => fitL fb fp1 K n (1 - h) (kb (1 - h)) k8 j9 v n) (nI w9) 101 0) = -1 := nrst_end hyi8
            have hst := tI_lost (tour_rh rh) hyk8 hk8 hj2 (hz10.trans ej) (by rw [ew]; exact hR)
            refine q_iload (pc2 := 919) C 3 dL_rigs_917 rfl rfl ?_
            refine q_aload (pc2 := 921) C 4 dL_rigs_919 rfl rfl ?_
            refine q_iload (pc2 := 923) C 2 dL_rigs_921 rfl rfl ?_
            refine q_iald (q0 := 32) (f := (onN fp n)) (pc2 := 924) C k8 (wU_g6 ct a o 5 (onN fp n) x (upd fc 0 (nI (1 - h))) fb fp1 fq fn fl) rfl (rfl) (by omega) (by decide) dL_rigs_923 rfl ?_
            refine q_eqi (y := nI j9) ((onN_v hk8).trans ej) ?_
            refine q_if_lt (tgt := 942) (pc2 := 927) C dL_rigs_924 (by decide) rfl (fun h9 => absurd h9 (nI_nlt (a := j9) (b := 0) (by omega) (by omega))) (fun _ => ?_)
            refine q_aload (pc2 := 929) C 7 dL_rigs_927 rfl rfl ?_
            refine q_bipush (v := nI 10) (pc2 := 931) C dL_rigs_929 (by decide) rfl ?_
            refine q_iload (pc2 := 933) C 2 dL_rigs_931 rfl rfl ?_
            refine q_iadd (v := nI (10 + k8)) (pc2 := 934) C dL_rigs_933 (nI_add 10 k8) rfl ?_
            refine q_iald (q0 := 28) (f := fp1) (pc2 := 935) C (10 + k8) (wU_g2 ct a o 5 (onN fp n) x (upd fc 0 (nI (1 - h))) fb fp1 fq fn fl) rfl (rfl) (by omega) (by decide) dL_rigs_934 rfl ?_
            refine q_eqi (y := (-1)) (hm1) ?_
            refine q_if_ge (tgt := 942) (pc2 := 938) C dL_rigs_935 (by decide) rfl (fun h9 => absurd h9 (by decide)) (fun _ => ?_)
            refine q_iconst (v := nI 1) (pc2 := 939) C dL_rigs_938 (by decide) rfl ?_
            refine q_goto (pc2 := 943) C dL_rigs_939 (by decide) ?_
            refine q_iadd (v := ((trn (tr0 x (1 - h)) (1 - h) k8).2.2 + nI 1)) (pc2 := 944) C dL_rigs_943 (rfl) rfl ?_
            refine q_eqi (y := (trn (tr0 x (1 - h)) (1 - h) (k8 + 1)).2.2) (by rw [hst.2]) ?_
            refine q_istore (lv' := [(9, .int ((trn (tr0 x (1 - h)) (1 - h) (k8 + 1)).2.2)), (12, .int (nI 101)), (11, .int (nI w9)), (10, .int (nI k8)), (8, .ref o), (7, .int z), (6, .int v), (5, .ref (a 42)), (4, .ref (a 41)), (3, .ref (a 40)), (2, .int y), (1, .int (nI 4)), (0, .ref (a 30))]) (pc2 := 946) C dL_rigs_944 (by decide) rfl rfl ?_
            refine q_iinc (v := nI (k8 + 1)) (lv' := [(10, .int (nI (k8 + 1))), (9, .int ((trn (tr0 x (1 - h)) (1 - h) (k8 + 1)).2.2)), (12, .int (nI 101)), (11, .int (nI w9)), (8, .ref o), (7, .int z), (6, .int v), (5, .ref (a 42)), (4, .ref (a 41)), (3, .ref (a 40)), (2, .int y), (1, .int (nI 4)), (0, .ref (a 30))]) (pc2 := 949) C 3 dL_rigs_946 rfl (show nI k8 + Int32.ofInt 1 = nI (k8 + 1) by rw [show Int32.ofInt 1 = nI 1 from by decide]; exact nI_add k8 1) (by decide) rfl rfl ?_
            refine q_goto (pc2 := 757) C dL_rigs_949 (by decide) ?_
            refine q_lv (lv' := [(10, .int (nI (k8 + 1))), (9, .int ((trn (tr0 x (1 - h)) (1 - h) (k8 + 1)).2.2)), (8, .ref o), (7, .int z), (6, .int v), (5, .ref (a 42)), (4, .ref (a 41)), (3, .ref (a 40)), (2, .int y), (1, .int (nI 4)), (0, .ref (a 30))]) [0, 1, 4, 5, 6, 7, 8, 9, 10, 11, 12] rfl ?_
            exact ihk8 fp1 hst.1
      · intro fp1 hyk8
        refine q_iload (pc2 := 759) C 0 dL_rigs_757 rfl rfl ?_
        refine q_aload_n (pc2 := 760) C 7 dL_rigs_759 rfl rfl rfl ?_
        refine q_iconst (v := nI 3) (pc2 := 761) C dL_rigs_760 (by decide) rfl ?_
        refine q_iald (q0 := 26) (f := (upd fc 0 (nI (1 - h)))) (pc2 := 762) C 3 (wU_g0 ct a o 5 (onN fp n) x (upd fc 0 (nI (1 - h))) fb fp1 fq fn fl) rfl (rfl) (by decide) (by decide) dL_rigs_761 rfl ?_
        refine q_eqi (y := nI n) ((upd_n (by decide)).trans (hc3)) ?_
        refine q_icmp_ge (tgt := 952) (pc2 := 765) C dL_rigs_762 (by decide) rfl (fun _ => ?_) (fun h9 => absurd (nI_le (a := n) (b := n) (by omega) (by omega)) h9)
        refine q_aload_n (pc2 := 953) C 10 dL_rigs_952 rfl rfl rfl ?_
        refine q_XV_wU (pc2 := 956) (As := []) (st := []) (st2 := [.int ((trn (tr0 x (1 - h)) (1 - h) 10).2.2)]) (x' := (set2 (set2 (tr0 x (1 - h)) 9 (trn (tr0 x (1 - h)) (1 - h) 10).1) 11 (trn (tr0 x (1 - h)) (1 - h) 10).2.1)) C (c_X3_tour l D ct a x h hx4 hlt (kb (1 - h)) (hkbs (1 - h) (by omega)).2.1 (by have := (hkbs (1 - h) (by omega)).1; omega)) (cwV 0 C.w gL_rigs_X3_tour rfl rfl rfl (by decide +kernel) ⟨Nat.le_of_ble_eq_true rfl, Nat.le_of_ble_eq_true rfl⟩) dL_rigs_953 rfl rfl (Nat.le_of_ble_eq_true rfl) ⟨Nat.le_of_ble_eq_true rfl, Nat.le_of_ble_eq_true rfl⟩ rfl rfl ?_
        refine q_iload (pc2 := 958) C 1 dL_rigs_956 rfl rfl ?_
        refine q_icmp_ne (tgt := 965) (pc2 := 961) C dL_rigs_958 (by decide) rfl (fun h9 => absurd ((st_tour r hyk8).2) h9) (fun _ => ?_)
        refine q_iconst (v := nI 1) (pc2 := 962) C dL_rigs_961 (by decide) rfl ?_
        refine q_goto (pc2 := 966) C dL_rigs_962 (by decide) ?_
        refine q_drop ?_
        exact q_zret C hQ rfl (rfl) (by omega) (by omega) dL_rigs_966 ⟨rfl, _, _, _, _, _, _, _, rfl, ⟨n, _, q, b, t, kb, K, S, F, V, Nat.le_trans ht (Nat.le_add_right M 50), (st_tour r hyk8).1⟩⟩
  refine q_iload_n (pc2 := 1) C 2 dL_rigs_0 rfl rfl rfl ?_
  refine q_aload_n (pc2 := 2) C 3 dL_rigs_1 rfl rfl rfl ?_
  refine q_iconst (v := nI 3) (pc2 := 3) C dL_rigs_2 (by decide) rfl ?_
  refine q_iald (q0 := 26) (f := fc) (pc2 := 4) C 3 (wT_g0 ct a x fc fb fp fq fn fl) rfl (rfl) (by decide) (by decide) dL_rigs_3 rfl ?_
  refine q_eqi (y := nI n) (hc3) ?_
  refine q_iconst (v := nI 1) (pc2 := 5) C dL_rigs_4 (by decide) rfl ?_
  refine q_iadd (v := nI (n + 1)) (pc2 := 6) C dL_rigs_5 (nI_add n 1) rfl ?_
  refine q_some (pc2 := 9) C (v := y) (n + 1) (by omega) (by omega) (va_cwS 2 C.w gL_rigs_L_some rfl rfl rfl (by decide +kernel) ⟨Nat.le_of_ble_eq_true rfl, Nat.le_of_ble_eq_true rfl⟩) dL_rigs_6 rfl ⟨Nat.le_of_ble_eq_true rfl, Nat.le_of_ble_eq_true rfl⟩ (Nat.le_of_ble_eq_true rfl) (fun m6 hm6 => ?_)
  have hj26 : ∀ e1 : Nat, (e1 ≤ 1) → Cf p l e ({ frames := 6, cells := 2, slots := 12, locals := 134 }) s m args below meth c D A 14 0 0 Q 26 [(0, .ref (a 30)), (1, .int (nI 4)), (2, .int y), (3, .ref (a 40)), (4, .ref (a 41)), (5, .ref (a 42))] [.int (nI e1), .int (nI m6)] (wT ct a x fc fb fp fq fn fl) := by
    intro e1 he1
    rcases pick_lamp hn5 hm6 he1 with ⟨i, hi, ei⟩ | hv
    · skip
      refine q_isub (v := nI i) (pc2 := 27) C dL_rigs_26 (ei) rfl ?_
      refine q_istore (lv' := [(6, .int (nI i)), (0, .ref (a 30)), (1, .int (nI 4)), (2, .int y), (3, .ref (a 40)), (4, .ref (a 41)), (5, .ref (a 42))]) (pc2 := 29) C dL_rigs_27 (by decide) rfl rfl ?_
      refine q_iload (pc2 := 31) C 0 dL_rigs_29 rfl rfl ?_
      refine q_if_lt (tgt := 46) (pc2 := 34) C dL_rigs_31 (by decide) rfl (fun h9 => absurd h9 (nI_nlt (a := i) (b := 0) (by omega) (by omega))) (fun _ => ?_)
      refine q_iload (pc2 := 36) C 0 dL_rigs_34 rfl rfl ?_
      refine q_aload_n (pc2 := 37) C 4 dL_rigs_36 rfl rfl rfl ?_
      refine q_iconst (v := nI 3) (pc2 := 38) C dL_rigs_37 (by decide) rfl ?_
      refine q_iald (q0 := 26) (f := fc) (pc2 := 39) C 3 (wT_g0 ct a x fc fb fp fq fn fl) rfl (rfl) (by decide) (by decide) dL_rigs_38 rfl ?_
      refine q_eqi (y := nI n) (hc3) ?_
      refine q_icmp_ge (tgt := 46) (pc2 := 42) C dL_rigs_39 (by decide) rfl (fun h9 => absurd h9 (nI_ge (a := i) (b := n) (by omega) (by omega))) (fun _ => ?_)
      refine q_iconst (v := nI 1) (pc2 := 43) C dL_rigs_42 (by decide) rfl ?_
      refine q_goto (pc2 := 47) C dL_rigs_43 (by decide) ?_
      refine q_istore (lv' := [(7, .int (nI 1)), (6, .int (nI i)), (0, .ref (a 30)), (1, .int (nI 4)), (2, .int y), (3, .ref (a 40)), (4, .ref (a 41)), (5, .ref (a 42))]) (pc2 := 49) C dL_rigs_47 (by decide) rfl rfl ?_
      exact hG _ _
    · skip
      refine q_isub (v := (nI m6 - nI e1)) (pc2 := 27) C dL_rigs_26 (rfl) rfl ?_
      refine q_istore (lv' := [(6, .int (nI m6 - nI e1)), (0, .ref (a 30)), (1, .int (nI 4)), (2, .int y), (3, .ref (a 40)), (4, .ref (a 41)), (5, .ref (a 42))]) (pc2 := 29) C dL_rigs_27 (by decide) rfl rfl ?_
      refine q_iload (pc2 := 31) C 0 dL_rigs_29 rfl rfl ?_
      refine q_if_lt (tgt := 46) (pc2 := 34) C dL_rigs_31 (by decide) rfl (fun c31 => ?_) (fun c31 => ?_)
      · skip
        refine q_iconst (v := nI 0) (pc2 := 47) C dL_rigs_46 (by decide) rfl ?_
        refine q_istore (lv' := [(7, .int (nI 0)), (6, .int (nI m6 - nI e1)), (0, .ref (a 30)), (1, .int (nI 4)), (2, .int y), (3, .ref (a 40)), (4, .ref (a 41)), (5, .ref (a 42))]) (pc2 := 49) C dL_rigs_47 (by decide) rfl rfl ?_
        exact hG _ _
      · skip
        refine q_iload (pc2 := 36) C 0 dL_rigs_34 rfl rfl ?_
        refine q_aload_n (pc2 := 37) C 4 dL_rigs_36 rfl rfl rfl ?_
        refine q_iconst (v := nI 3) (pc2 := 38) C dL_rigs_37 (by decide) rfl ?_
        refine q_iald (q0 := 26) (f := fc) (pc2 := 39) C 3 (wT_g0 ct a x fc fb fp fq fn fl) rfl (rfl) (by decide) (by decide) dL_rigs_38 rfl ?_
        refine q_eqi (y := nI n) (hc3) ?_
        refine q_icmp_ge (tgt := 46) (pc2 := 42) C dL_rigs_39 (by decide) rfl (fun _ => ?_) (fun h9 => absurd (Int32.not_lt.mp (fun z9 => hv ⟨Int32.not_lt.mp c31, z9⟩)) h9)
        refine q_iconst (v := nI 0) (pc2 := 47) C dL_rigs_46 (by decide) rfl ?_
        refine q_istore (lv' := [(7, .int (nI 0)), (6, .int (nI m6 - nI e1)), (0, .ref (a 30)), (1, .int (nI 4)), (2, .int y), (3, .ref (a 40)), (4, .ref (a 41)), (5, .ref (a 42))]) (pc2 := 49) C dL_rigs_47 (by decide) rfl rfl ?_
        exact hG _ _
  refine q_iload_n (pc2 := 10) C 2 dL_rigs_9 rfl rfl rfl ?_
  refine q_bipush (v := nI 11) (pc2 := 12) C dL_rigs_10 (by decide) rfl ?_
  refine q_ishr (v := (y >>> (nI 11 &&& 31))) (pc2 := 13) C dL_rigs_12 (rfl) rfl ?_
  refine q_bipush (v := nI 19) (pc2 := 15) C dL_rigs_13 (by decide) rfl ?_
  refine q_some (pc2 := 18) C (v := (y >>> (nI 11 &&& 31))) 19 (by omega) (by omega) (va_cwS 2 C.w gL_rigs_L_some rfl rfl rfl (by decide +kernel) ⟨Nat.le_of_ble_eq_true rfl, Nat.le_of_ble_eq_true rfl⟩) dL_rigs_15 rfl ⟨Nat.le_of_ble_eq_true rfl, Nat.le_of_ble_eq_true rfl⟩ (Nat.le_of_ble_eq_true rfl) (fun m15 hm15 => ?_)
  refine q_if_ne (tgt := 25) (pc2 := 21) C dL_rigs_18 (by decide) rfl (fun c18 => ?_) (fun c18 => ?_)
  · skip
    have k18 : m15 ≠ 0 := fun z => c18 ((nI_eq (a := m15) (b := 0) (by omega) (by omega)).mpr z)
    refine q_iconst (v := nI 0) (pc2 := 26) C dL_rigs_25 (by decide) rfl ?_
    exact hj26 0 (by omega)
  · skip
    have k18 : m15 = 0 := (nI_eq (a := m15) (b := 0) (by omega) (by omega)).mp (c18)
    refine q_iconst (v := nI 1) (pc2 := 22) C dL_rigs_21 (by decide) rfl ?_
    refine q_goto (pc2 := 26) C dL_rigs_22 (by decide) ?_
    exact hj26 1 (by omega)
