/-! plays: bulb -/
set_option maxHeartbeats 4000000 in
set_option maxRecDepth 100000 in
theorem c_L_plays_5 (l : Launch) (D : va_G) (ct : Nat → ClassId) (hl : l.stackTraces = false) (a : Nat → Nat) (x : Nat → Nat → Int32) (fc fb fp fq fn fl : Nat → Int32) (y : Int32) (M : Nat) (hM4 : M ≤ 10000) (r0 : RE M x fc fb fp fq fn fl) : qM l yL_plays wsL_plays ({ frames := 9, cells := 2, slots := 12, locals := 158 }) D ct [.ref (a 30), .int (nI 5), .int y, .ref (a 40), .ref (a 42), .ref (a 43), .ref (a 44), .ref (a 45)] (wT ct a x fc fb fp fq fn fl) (pR ct a (M + 50)) 2 12 := by
  refine q_start (ret := some .boolean) (lv := [(0, .ref (a 30)), (1, .int (nI 5)), (2, .int y), (3, .ref (a 40)), (4, .ref (a 42)), (5, .ref (a 43)), (6, .ref (a 44)), (7, .ref (a 45))]) (by decide +kernel) rfl (Nat.le_of_ble_eq_true rfl) rfl ?_
  intro p e s m args below meth c A Q C hQ hnm
  obtain ⟨n, h, q, b, t, kb, K, S, F, V, ht, r⟩ := r0
  obtain ⟨rh, rl, rr, rp, rc, rs, hbq⟩ := id r
  obtain ⟨hlt, hx4, hc0, hkbs, hlen⟩ := id rh
  obtain ⟨hn5, hx0, hc3, hlow, hall, hhigh⟩ := id rl
  obtain ⟨hq4, hx16, hc4, hcue, hfd, hnam, hnaz⟩ := id rc
  obtain ⟨hx22, hc5, hx21, hc7, hc6, hx23, hfl, hlvr, hlev⟩ := id rs
  obtain ⟨hkb2, hx5, hck⟩ := hkbs h hlt
  have hK : ∀ k, k < n → fp k = nI (K k) ∧ K k < 4 := fun k hk => ⟨(hlow k hk).2.1, (hlow k hk).1⟩
  have hb4 : b ≤ 4 := by omega
  have htB : t < 2 ^ 29 := by omega
  have hA : ∀ i, i < n → Cf p l e ({ frames := 9, cells := 2, slots := 12, locals := 158 }) s m args below meth c D A 15 0 0 Q 49 [(9, .int (nI 1)), (8, .int (nI i)), (0, .ref (a 30)), (1, .int (nI 5)), (2, .int y), (3, .ref (a 40)), (4, .ref (a 42)), (5, .ref (a 43)), (6, .ref (a 44)), (7, .ref (a 45))] [] (wT ct a x fc fb fp fq fn fl) := by
    intro i hi
    refine q_iload_n (pc2 := 50) C 3 dL_plays_49 rfl rfl rfl ?_
    refine q_if_ne (tgt := 277) (pc2 := 53) C dL_plays_50 (by decide) rfl (fun _ => ?_) (fun h9 => absurd h9 (by decide))
    refine q_iload_n (pc2 := 278) C 3 dL_plays_277 rfl rfl rfl ?_
    refine q_iconst (v := nI 1) (pc2 := 279) C dL_plays_278 (by decide) rfl ?_
    refine q_icmp_ne (tgt := 431) (pc2 := 282) C dL_plays_279 (by decide) rfl (fun _ => ?_) (fun h9 => absurd h9 (by decide))
    refine q_iload_n (pc2 := 432) C 3 dL_plays_431 rfl rfl rfl ?_
    refine q_iconst (v := nI 2) (pc2 := 433) C dL_plays_432 (by decide) rfl ?_
    refine q_icmp_ne (tgt := 491) (pc2 := 436) C dL_plays_433 (by decide) rfl (fun _ => ?_) (fun h9 => absurd h9 (by decide))
    refine q_iload_n (pc2 := 492) C 3 dL_plays_491 rfl rfl rfl ?_
    refine q_iconst (v := nI 3) (pc2 := 493) C dL_plays_492 (by decide) rfl ?_
    refine q_icmp_ne (tgt := 719) (pc2 := 496) C dL_plays_493 (by decide) rfl (fun _ => ?_) (fun h9 => absurd h9 (by decide))
    refine q_iload_n (pc2 := 720) C 3 dL_plays_719 rfl rfl rfl ?_
    refine q_iconst (v := nI 4) (pc2 := 721) C dL_plays_720 (by decide) rfl ?_
    refine q_icmp_ne (tgt := 748) (pc2 := 724) C dL_plays_721 (by decide) rfl (fun _ => ?_) (fun h9 => absurd h9 (by decide))
    refine q_iload_n (pc2 := 749) C 3 dL_plays_748 rfl rfl rfl ?_
    refine q_iconst (v := nI 5) (pc2 := 750) C dL_plays_749 (by decide) rfl ?_
    refine q_icmp_ne (tgt := 814) (pc2 := 753) C dL_plays_750 (by decide) rfl (fun h9 => absurd (by decide) h9) (fun _ => ?_)
    refine q_iload (pc2 := 755) C 0 dL_plays_753 rfl rfl ?_
    refine q_if_eq (tgt := 776) (pc2 := 758) C dL_plays_755 (by decide) rfl (fun h9 => absurd h9 (by decide)) (fun _ => ?_)
    refine q_aload (pc2 := 760) C 6 dL_plays_758 rfl rfl ?_
    refine q_bipush (v := nI 30) (pc2 := 762) C dL_plays_760 (by decide) rfl ?_
    refine q_iload (pc2 := 764) C 1 dL_plays_762 rfl rfl ?_
    refine q_iadd (v := nI (30 + i)) (pc2 := 765) C dL_plays_764 (nI_add 30 i) rfl ?_
    refine q_iconst (v := nI 1) (pc2 := 766) C dL_plays_765 (by decide) rfl ?_
    refine q_aload (pc2 := 768) C 6 dL_plays_766 rfl rfl ?_
    refine q_bipush (v := nI 30) (pc2 := 770) C dL_plays_768 (by decide) rfl ?_
    refine q_iload (pc2 := 772) C 1 dL_plays_770 rfl rfl ?_
    refine q_iadd (v := nI (30 + i)) (pc2 := 773) C dL_plays_772 (nI_add 30 i) rfl ?_
    refine q_iald (q0 := 28) (f := fp) (pc2 := 774) C (30 + i) (wT_g2 ct a x fc fb fp fq fn fl) rfl (rfl) (by omega) (by decide) dL_plays_773 rfl ?_
    refine q_isub (v := (nI 1 - (fp (30 + i)))) (pc2 := 775) C dL_plays_774 (rfl) rfl ?_
    refine q_iast (q0 := 28) (f := fp) (ws' := (wT ct a x fc fb (upd fp (30 + i) (nI 1 - (fp (30 + i)))) fq fn fl)) (pc2 := 776) C (30 + i) (wT_g2 ct a x fc fb fp fq fn fl) rfl (rfl) (by omega) (by decide) (wT_a2 ct a x fc fb fp fq fn fl (upd fp (30 + i) (nI 1 - (fp (30 + i))))) dL_plays_775 rfl ?_
    refine q_aload_n (pc2 := 777) C 2 dL_plays_776 rfl rfl rfl ?_
    refine q_bipush (v := nI 8) (pc2 := 779) C dL_plays_777 (by decide) rfl ?_
    refine q_iload (pc2 := 781) C 1 dL_plays_779 rfl rfl ?_
    refine q_iconst (v := nI 0) (pc2 := 782) C dL_plays_781 (by decide) rfl ?_
    have hM := c_X3_bulb l hl D ct a x n hx0 (by omega) (nI i)
    rw [hx0] at hM
    rw [nI_clamp (show i < 2 ^ 31 by omega)] at hM
    refine q_Hok_wT (pc2 := 785) (As := [.ref (a 30), .int (nI 8), .int (nI i), .int (nI 0)]) (st := []) (st2 := [.int (b2 ((b2 (x 3 i = 0)) = 0))]) (x' := (set2 x 3 (upd (x 3) i (b2 (x 3 i = 0))))) C (c_L_of8 l D ct a x _ (nI i) (nI 0) _ _ (b2_01 _) hM) (if_pos (show 0 ≤ nI i ∧ nI i < nI n from ⟨nI_pos' (by omega), nI_lt hi (by omega)⟩)) (vx_cwSW 4 C.w gL_plays_L_of rfl rfl rfl (by decide +kernel) ⟨Nat.le_of_ble_eq_true rfl, Nat.le_of_ble_eq_true rfl⟩) dL_plays_782 rfl rfl (Nat.le_of_ble_eq_true rfl) ⟨Nat.zero_le _, Nat.zero_le _⟩ rfl rfl ?_
    refine q_iload (pc2 := 787) C 0 dL_plays_785 rfl rfl ?_
    refine q_if_eq (tgt := 803) (pc2 := 790) C dL_plays_787 (by decide) rfl (fun h9 => absurd h9 (by decide)) (fun _ => ?_)
    refine q_iconst (v := nI 1) (pc2 := 791) C dL_plays_790 (by decide) rfl ?_
    refine q_aload (pc2 := 793) C 6 dL_plays_791 rfl rfl ?_
    refine q_bipush (v := nI 30) (pc2 := 795) C dL_plays_793 (by decide) rfl ?_
    refine q_iload (pc2 := 797) C 1 dL_plays_795 rfl rfl ?_
    refine q_iadd (v := nI (30 + i)) (pc2 := 798) C dL_plays_797 (nI_add 30 i) rfl ?_
    refine q_iald (q0 := 28) (f := (upd fp (30 + i) (nI 1 - (fp (30 + i))))) (pc2 := 799) C (30 + i) (wT_g2 ct a (set2 x 3 (upd (x 3) i (b2 (x 3 i = 0)))) fc fb (upd fp (30 + i) (nI 1 - (fp (30 + i)))) fq fn fl) rfl (rfl) (by omega) (by decide) dL_plays_798 rfl ?_
    refine q_eqi (y := (nI 1 - (fp (30 + i)))) (upd_s) ?_
    refine q_isub (v := (nI 1 - (nI 1 - (fp (30 + i))))) (pc2 := 800) C dL_plays_799 (rfl) rfl ?_
    refine q_goto (pc2 := 805) C dL_plays_800 (by decide) ?_
    refine q_icmp_ne (tgt := 812) (pc2 := 808) C dL_plays_805 (by decide) rfl (fun h9 => absurd ((st_bulb r hi).2) h9) (fun _ => ?_)
    refine q_iconst (v := nI 1) (pc2 := 809) C dL_plays_808 (by decide) rfl ?_
    refine q_goto (pc2 := 813) C dL_plays_809 (by decide) ?_
    exact q_zret C hQ rfl (rfl) (Nat.zero_le _) (Nat.zero_le _) dL_plays_813 ⟨rfl, _, _, _, _, _, _, _, rfl, ⟨n, h, q, b, t, kb, K, S, F, V, Nat.le_trans ht (Nat.le_add_right M 50), (st_bulb r hi).1⟩⟩
  have hB : ∀ v : Int32, ¬ (0 ≤ v ∧ v < nI n) → Cf p l e ({ frames := 9, cells := 2, slots := 12, locals := 158 }) s m args below meth c D A 15 0 0 Q 49 [(9, .int (nI 0)), (8, .int v), (0, .ref (a 30)), (1, .int (nI 5)), (2, .int y), (3, .ref (a 40)), (4, .ref (a 42)), (5, .ref (a 43)), (6, .ref (a 44)), (7, .ref (a 45))] [] (wT ct a x fc fb fp fq fn fl) := by
    intro v hv
    refine q_iload_n (pc2 := 50) C 3 dL_plays_49 rfl rfl rfl ?_
    refine q_if_ne (tgt := 277) (pc2 := 53) C dL_plays_50 (by decide) rfl (fun _ => ?_) (fun h9 => absurd h9 (by decide))
    refine q_iload_n (pc2 := 278) C 3 dL_plays_277 rfl rfl rfl ?_
    refine q_iconst (v := nI 1) (pc2 := 279) C dL_plays_278 (by decide) rfl ?_
    refine q_icmp_ne (tgt := 431) (pc2 := 282) C dL_plays_279 (by decide) rfl (fun _ => ?_) (fun h9 => absurd h9 (by decide))
    refine q_iload_n (pc2 := 432) C 3 dL_plays_431 rfl rfl rfl ?_
    refine q_iconst (v := nI 2) (pc2 := 433) C dL_plays_432 (by decide) rfl ?_
    refine q_icmp_ne (tgt := 491) (pc2 := 436) C dL_plays_433 (by decide) rfl (fun _ => ?_) (fun h9 => absurd h9 (by decide))
    refine q_iload_n (pc2 := 492) C 3 dL_plays_491 rfl rfl rfl ?_
    refine q_iconst (v := nI 3) (pc2 := 493) C dL_plays_492 (by decide) rfl ?_
    refine q_icmp_ne (tgt := 719) (pc2 := 496) C dL_plays_493 (by decide) rfl (fun _ => ?_) (fun h9 => absurd h9 (by decide))
    refine q_iload_n (pc2 := 720) C 3 dL_plays_719 rfl rfl rfl ?_
    refine q_iconst (v := nI 4) (pc2 := 721) C dL_plays_720 (by decide) rfl ?_
    refine q_icmp_ne (tgt := 748) (pc2 := 724) C dL_plays_721 (by decide) rfl (fun _ => ?_) (fun h9 => absurd h9 (by decide))
    refine q_iload_n (pc2 := 749) C 3 dL_plays_748 rfl rfl rfl ?_
    refine q_iconst (v := nI 5) (pc2 := 750) C dL_plays_749 (by decide) rfl ?_
    refine q_icmp_ne (tgt := 814) (pc2 := 753) C dL_plays_750 (by decide) rfl (fun h9 => absurd (by decide) h9) (fun _ => ?_)
    refine q_iload (pc2 := 755) C 0 dL_plays_753 rfl rfl ?_
    refine q_if_eq (tgt := 776) (pc2 := 758) C dL_plays_755 (by decide) rfl (fun _ => ?_) (fun h9 => absurd (by decide) h9)
    refine q_aload_n (pc2 := 777) C 2 dL_plays_776 rfl rfl rfl ?_
    refine q_bipush (v := nI 8) (pc2 := 779) C dL_plays_777 (by decide) rfl ?_
    refine q_iload (pc2 := 781) C 1 dL_plays_779 rfl rfl ?_
    refine q_iconst (v := nI 0) (pc2 := 782) C dL_plays_781 (by decide) rfl ?_
    have hM := c_X3_bulb l hl D ct a x n hx0 (by omega) (v)
    rw [hx0] at hM
    refine q_Hno_wT (pc2 := 785) (As := [.ref (a 30), .int (nI 8), .int v, .int (nI 0)]) (st := []) (st2 := [.int (-101)]) (c2 := 1) (s2 := 6) C (c_L_of8 l D ct a x _ (v) (nI 0) _ _ (b2_01 _) hM) (if_neg hv) (by decide +kernel) (vx_cwSW 4 C.w gL_plays_L_of rfl rfl rfl (by decide +kernel) ⟨Nat.le_of_ble_eq_true rfl, Nat.le_of_ble_eq_true rfl⟩) dL_plays_782 rfl rfl (Nat.le_of_ble_eq_true rfl) ⟨Nat.le_of_ble_eq_true rfl, Nat.le_of_ble_eq_true rfl⟩ rfl rfl (hcd1I _) rfl rfl ?_
    refine q_iload (pc2 := 787) C 0 dL_plays_785 rfl rfl ?_
    refine q_if_eq (tgt := 803) (pc2 := 790) C dL_plays_787 (by decide) rfl (fun _ => ?_) (fun h9 => absurd (by decide) h9)
    refine q_bipush (v := (-101)) (pc2 := 805) C dL_plays_803 (by decide) rfl ?_
    refine q_icmp_ne (tgt := 812) (pc2 := 808) C dL_plays_805 (by decide) rfl (fun h9 => absurd (by decide) h9) (fun _ => ?_)
    refine q_iconst (v := nI 1) (pc2 := 809) C dL_plays_808 (by decide) rfl ?_
    refine q_goto (pc2 := 813) C dL_plays_809 (by decide) ?_
    exact q_zret C hQ rfl (rfl) (by omega) (by omega) dL_plays_813 ⟨rfl, _, _, _, _, _, _, _, rfl, (RE.mono (Nat.le_add_right M 50) ⟨n, h, q, b, t, kb, K, S, F, V, ht, r⟩)⟩
  refine q_iload_n (pc2 := 1) C 2 dL_plays_0 rfl rfl rfl ?_
  refine q_aload_n (pc2 := 2) C 3 dL_plays_1 rfl rfl rfl ?_
  refine q_iconst (v := nI 3) (pc2 := 3) C dL_plays_2 (by decide) rfl ?_
  refine q_iald (q0 := 26) (f := fc) (pc2 := 4) C 3 (wT_g0 ct a x fc fb fp fq fn fl) rfl (rfl) (by decide) (by decide) dL_plays_3 rfl ?_
  refine q_eqi (y := nI n) (hc3) ?_
  refine q_iconst (v := nI 1) (pc2 := 5) C dL_plays_4 (by decide) rfl ?_
  refine q_iadd (v := nI (n + 1)) (pc2 := 6) C dL_plays_5 (nI_add n 1) rfl ?_
  refine q_some (pc2 := 9) C (v := y) (n + 1) (by omega) (by omega) (va_cwS 2 C.w gL_plays_L_some rfl rfl rfl (by decide +kernel) ⟨Nat.le_of_ble_eq_true rfl, Nat.le_of_ble_eq_true rfl⟩) dL_plays_6 rfl ⟨Nat.le_of_ble_eq_true rfl, Nat.le_of_ble_eq_true rfl⟩ (Nat.le_of_ble_eq_true rfl) (fun m6 hm6 => ?_)
  have hj26 : ∀ e1 : Nat, (e1 ≤ 1) → Cf p l e ({ frames := 9, cells := 2, slots := 12, locals := 158 }) s m args below meth c D A 15 0 0 Q 26 [(0, .ref (a 30)), (1, .int (nI 5)), (2, .int y), (3, .ref (a 40)), (4, .ref (a 42)), (5, .ref (a 43)), (6, .ref (a 44)), (7, .ref (a 45))] [.int (nI e1), .int (nI m6)] (wT ct a x fc fb fp fq fn fl) := by
    intro e1 he1
    rcases pick_lamp hn5 hm6 he1 with ⟨i, hi, ei⟩ | hv
    · skip
      refine q_isub (v := nI i) (pc2 := 27) C dL_plays_26 (ei) rfl ?_
      refine q_istore (lv' := [(8, .int (nI i)), (0, .ref (a 30)), (1, .int (nI 5)), (2, .int y), (3, .ref (a 40)), (4, .ref (a 42)), (5, .ref (a 43)), (6, .ref (a 44)), (7, .ref (a 45))]) (pc2 := 29) C dL_plays_27 (by decide) rfl rfl ?_
      refine q_iload (pc2 := 31) C 0 dL_plays_29 rfl rfl ?_
      refine q_if_lt (tgt := 46) (pc2 := 34) C dL_plays_31 (by decide) rfl (fun h9 => absurd h9 (nI_nlt (a := i) (b := 0) (by omega) (by omega))) (fun _ => ?_)
      refine q_iload (pc2 := 36) C 0 dL_plays_34 rfl rfl ?_
      refine q_aload_n (pc2 := 37) C 4 dL_plays_36 rfl rfl rfl ?_
      refine q_iconst (v := nI 3) (pc2 := 38) C dL_plays_37 (by decide) rfl ?_
      refine q_iald (q0 := 26) (f := fc) (pc2 := 39) C 3 (wT_g0 ct a x fc fb fp fq fn fl) rfl (rfl) (by decide) (by decide) dL_plays_38 rfl ?_
      refine q_eqi (y := nI n) (hc3) ?_
      refine q_icmp_ge (tgt := 46) (pc2 := 42) C dL_plays_39 (by decide) rfl (fun h9 => absurd h9 (nI_ge (a := i) (b := n) (by omega) (by omega))) (fun _ => ?_)
      refine q_iconst (v := nI 1) (pc2 := 43) C dL_plays_42 (by decide) rfl ?_
      refine q_goto (pc2 := 47) C dL_plays_43 (by decide) ?_
      refine q_istore (lv' := [(9, .int (nI 1)), (8, .int (nI i)), (0, .ref (a 30)), (1, .int (nI 5)), (2, .int y), (3, .ref (a 40)), (4, .ref (a 42)), (5, .ref (a 43)), (6, .ref (a 44)), (7, .ref (a 45))]) (pc2 := 49) C dL_plays_47 (by decide) rfl rfl ?_
      exact hA i hi
    · skip
      refine q_isub (v := (nI m6 - nI e1)) (pc2 := 27) C dL_plays_26 (rfl) rfl ?_
      refine q_istore (lv' := [(8, .int (nI m6 - nI e1)), (0, .ref (a 30)), (1, .int (nI 5)), (2, .int y), (3, .ref (a 40)), (4, .ref (a 42)), (5, .ref (a 43)), (6, .ref (a 44)), (7, .ref (a 45))]) (pc2 := 29) C dL_plays_27 (by decide) rfl rfl ?_
      refine q_iload (pc2 := 31) C 0 dL_plays_29 rfl rfl ?_
      refine q_if_lt (tgt := 46) (pc2 := 34) C dL_plays_31 (by decide) rfl (fun c31 => ?_) (fun c31 => ?_)
      · skip
        refine q_iconst (v := nI 0) (pc2 := 47) C dL_plays_46 (by decide) rfl ?_
        refine q_istore (lv' := [(9, .int (nI 0)), (8, .int (nI m6 - nI e1)), (0, .ref (a 30)), (1, .int (nI 5)), (2, .int y), (3, .ref (a 40)), (4, .ref (a 42)), (5, .ref (a 43)), (6, .ref (a 44)), (7, .ref (a 45))]) (pc2 := 49) C dL_plays_47 (by decide) rfl rfl ?_
        exact hB _ hv
      · skip
        refine q_iload (pc2 := 36) C 0 dL_plays_34 rfl rfl ?_
        refine q_aload_n (pc2 := 37) C 4 dL_plays_36 rfl rfl rfl ?_
        refine q_iconst (v := nI 3) (pc2 := 38) C dL_plays_37 (by decide) rfl ?_
        refine q_iald (q0 := 26) (f := fc) (pc2 := 39) C 3 (wT_g0 ct a x fc fb fp fq fn fl) rfl (rfl) (by decide) (by decide) dL_plays_38 rfl ?_
        refine q_eqi (y := nI n) (hc3) ?_
        refine q_icmp_ge (tgt := 46) (pc2 := 42) C dL_plays_39 (by decide) rfl (fun _ => ?_) (fun h9 => absurd (Int32.not_lt.mp (fun z9 => hv ⟨Int32.not_lt.mp c31, z9⟩)) h9)
        refine q_iconst (v := nI 0) (pc2 := 47) C dL_plays_46 (by decide) rfl ?_
        refine q_istore (lv' := [(9, .int (nI 0)), (8, .int (nI m6 - nI e1)), (0, .ref (a 30)), (1, .int (nI 5)), (2, .int y), (3, .ref (a 40)), (4, .ref (a 42)), (5, .ref (a 43)), (6, .ref (a 44)), (7, .ref (a 45))]) (pc2 := 49) C dL_plays_47 (by decide) rfl rfl ?_
        exact hB _ hv
  refine q_iload_n (pc2 := 10) C 2 dL_plays_9 rfl rfl rfl ?_
  refine q_bipush (v := nI 11) (pc2 := 12) C dL_plays_10 (by decide) rfl ?_
  refine q_ishr (v := (y >>> (nI 11 &&& 31))) (pc2 := 13) C dL_plays_12 (rfl) rfl ?_
  refine q_bipush (v := nI 19) (pc2 := 15) C dL_plays_13 (by decide) rfl ?_
  refine q_some (pc2 := 18) C (v := (y >>> (nI 11 &&& 31))) 19 (by omega) (by omega) (va_cwS 2 C.w gL_plays_L_some rfl rfl rfl (by decide +kernel) ⟨Nat.le_of_ble_eq_true rfl, Nat.le_of_ble_eq_true rfl⟩) dL_plays_15 rfl ⟨Nat.le_of_ble_eq_true rfl, Nat.le_of_ble_eq_true rfl⟩ (Nat.le_of_ble_eq_true rfl) (fun m15 hm15 => ?_)
  refine q_if_ne (tgt := 25) (pc2 := 21) C dL_plays_18 (by decide) rfl (fun c18 => ?_) (fun c18 => ?_)
  · skip
    have k18 : m15 ≠ 0 := fun z => c18 ((nI_eq (a := m15) (b := 0) (by omega) (by omega)).mpr z)
    refine q_iconst (v := nI 0) (pc2 := 26) C dL_plays_25 (by decide) rfl ?_
    exact hj26 0 (by omega)
  · skip
    have k18 : m15 = 0 := (nI_eq (a := m15) (b := 0) (by omega) (by omega)).mp (c18)
    refine q_iconst (v := nI 1) (pc2 := 22) C dL_plays_21 (by decide) rfl ?_
    refine q_goto (pc2 := 26) C dL_plays_22 (by decide) ?_
    exact hj26 1 (by omega)

