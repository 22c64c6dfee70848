/-! plays: a stand-in -/
theorem hvL_le (f : Nat → Int32) (d o : Nat) : ∀ k, (hvL f d o k).2 ≤ k
  | 0 => Nat.le_refl 0
  | k + 1 => by
    have := hvL_le f d o k
    rw [hvL_s]
    split
    · omega
    · show (hvL f d o k).2 + 1 ≤ k + 1; omega

set_option maxHeartbeats 4000000 in
set_option maxRecDepth 100000 in
theorem c_L_plays_6 (l : Launch) (D : va_G) (ct : Nat → ClassId) (hl : l.stackTraces = false) (a : Nat → Nat) (x : Nat → Nat → Int32) (fc fb fp fq fn fl : Nat → Int32) (y : Int32) (M : Nat) (hM4 : M ≤ 10000) (r0 : RE M x fc fb fp fq fn fl) : qM l yL_plays wsL_plays ({ frames := 9, cells := 2, slots := 12, locals := 162 }) D ct [.ref (a 30), .int (nI 6), .int y, .ref (a 40), .ref (a 42), .ref (a 43), .ref (a 44), .ref (a 45)] (wT ct a x fc fb fp fq fn fl) (pR ct a (M + 50)) 2 12 := by
  refine q_start (ret := some .boolean) (lv := [(0, .ref (a 30)), (1, .int (nI 6)), (2, .int y), (3, .ref (a 40)), (4, .ref (a 42)), (5, .ref (a 43)), (6, .ref (a 44)), (7, .ref (a 45))]) (by decide +kernel) rfl (Nat.le_of_ble_eq_true rfl) rfl ?_
  intro p e s m args below meth c A Q C hQ hnm
  obtain ⟨n, h, q, b, t, kb, K, S, F, V, ht, r⟩ := r0
  obtain ⟨rh, rl, rr, rp, rc, rs, hbq⟩ := id r
  obtain ⟨hlt, hx4, hc0, hkbs, hlen⟩ := id rh
  obtain ⟨hn5, hx0, hc3, hlow, hall, hhigh⟩ := id rl
  obtain ⟨hq4, hx16, hc4, hcue, hfd, hnam, hnaz⟩ := id rc
  obtain ⟨hx22, hc5, hx21, hc7, hc6, hx23, hfl, hlvr, hlev⟩ := id rs
  obtain ⟨hkb2, hx5, hck⟩ := hkbs h hlt
  have hK : ∀ k, k < n → fp k = nI (K k) ∧ K k < 4 := fun k hk => ⟨(hlow k hk).2.1, (hlow k hk).1⟩
  have hb4 : b ≤ 4 := by omega
  have htB : t < 2 ^ 29 := by omega
  have hA : ∀ i, i < n → Cf p l e ({ frames := 9, cells := 2, slots := 12, locals := 162 }) s m args below meth c D A 15 0 0 Q 49 [(9, .int (nI 1)), (8, .int (nI i)), (0, .ref (a 30)), (1, .int (nI 6)), (2, .int y), (3, .ref (a 40)), (4, .ref (a 42)), (5, .ref (a 43)), (6, .ref (a 44)), (7, .ref (a 45))] [] (wT ct a x fc fb fp fq fn fl) := by
    intro i hi
    refine q_iload_n (pc2 := 50) C 3 dL_plays_49 rfl rfl rfl ?_
    refine q_if_ne (tgt := 277) (pc2 := 53) C dL_plays_50 (by decide) rfl (fun _ => ?_) (fun h9 => absurd h9 (by decide))
    refine q_iload_n (pc2 := 278) C 3 dL_plays_277 rfl rfl rfl ?_
    refine q_iconst (v := nI 1) (pc2 := 279) C dL_plays_278 (by decide) rfl ?_
    refine q_icmp_ne (tgt := 431) (pc2 := 282) C dL_plays_279 (by decide) rfl (fun _ => ?_) (fun h9 => absurd h9 (by decide))
    refine q_iload_n (pc2 := 432) C 3 dL_plays_431 rfl rfl rfl ?_
    refine q_iconst (v := nI 2) (pc2 := 433) C dL_plays_432 (by decide) rfl ?_
    refine q_icmp_ne (tgt := 491) (pc2 := 436) C dL_plays_433 (by decide) rfl (fun _ => ?_) (fun h9 => absurd h9 (by decide))
    refine q_iload_n (pc2 := 492) C 3 dL_plays_491 rfl rfl rfl ?_
    refine q_iconst (v := nI 3) (pc2 := 493) C dL_plays_492 (by decide) rfl ?_
    refine q_icmp_ne (tgt := 719) (pc2 := 496) C dL_plays_493 (by decide) rfl (fun _ => ?_) (fun h9 => absurd h9 (by decide))
    refine q_iload_n (pc2 := 720) C 3 dL_plays_719 rfl rfl rfl ?_
    refine q_iconst (v := nI 4) (pc2 := 721) C dL_plays_720 (by decide) rfl ?_
    refine q_icmp_ne (tgt := 748) (pc2 := 724) C dL_plays_721 (by decide) rfl (fun _ => ?_) (fun h9 => absurd h9 (by decide))
    refine q_iload_n (pc2 := 749) C 3 dL_plays_748 rfl rfl rfl ?_
    refine q_iconst (v := nI 5) (pc2 := 750) C dL_plays_749 (by decide) rfl ?_
    refine q_icmp_ne (tgt := 814) (pc2 := 753) C dL_plays_750 (by decide) rfl (fun _ => ?_) (fun h9 => absurd h9 (by decide))
    refine q_iload_n (pc2 := 815) C 3 dL_plays_814 rfl rfl rfl ?_
    refine q_bipush (v := nI 6) (pc2 := 817) C dL_plays_815 (by decide) rfl ?_
    refine q_icmp_ne (tgt := 994) (pc2 := 820) C dL_plays_817 (by decide) rfl (fun h9 => absurd (by decide) h9) (fun _ => ?_)
    refine q_iload_n (pc2 := 821) C 4 dL_plays_820 rfl rfl rfl ?_
    refine q_iconst (v := nI 3) (pc2 := 822) C dL_plays_821 (by decide) rfl ?_
    refine q_ishr (v := (y >>> (nI 3 &&& 31))) (pc2 := 823) C dL_plays_822 (rfl) rfl ?_
    refine q_aload_n (pc2 := 824) C 5 dL_plays_823 rfl rfl rfl ?_
    refine q_iconst (v := nI 3) (pc2 := 825) C dL_plays_824 (by decide) rfl ?_
    refine q_iald (q0 := 26) (f := fc) (pc2 := 826) C 3 (wT_g0 ct a x fc fb fp fq fn fl) rfl (rfl) (by decide) (by decide) dL_plays_825 rfl ?_
    refine q_eqi (y := nI n) (hc3) ?_
    refine q_iconst (v := nI 1) (pc2 := 827) C dL_plays_826 (by decide) rfl ?_
    refine q_iadd (v := nI (n + 1)) (pc2 := 828) C dL_plays_827 (nI_add n 1) rfl ?_
    refine q_some (pc2 := 831) C (v := (y >>> (nI 3 &&& 31))) (n + 1) (by omega) (by omega) (va_cwS 2 C.w gL_plays_L_some rfl rfl rfl (by decide +kernel) ⟨Nat.le_of_ble_eq_true rfl, Nat.le_of_ble_eq_true rfl⟩) dL_plays_828 rfl ⟨Nat.le_of_ble_eq_true rfl, Nat.le_of_ble_eq_true rfl⟩ (Nat.le_of_ble_eq_true rfl) (fun m828 hm828 => ?_)
    refine q_istore (lv' := [(10, .int (nI m828)), (9, .int (nI 1)), (8, .int (nI i)), (0, .ref (a 30)), (1, .int (nI 6)), (2, .int y), (3, .ref (a 40)), (4, .ref (a 42)), (5, .ref (a 43)), (6, .ref (a 44)), (7, .ref (a 45))]) (pc2 := 833) C dL_plays_831 (by decide) rfl rfl ?_
    refine q_iload (pc2 := 835) C 1 dL_plays_833 rfl rfl ?_
    refine q_if_eq (tgt := 850) (pc2 := 838) C dL_plays_835 (by decide) rfl (fun h9 => absurd h9 (by decide)) (fun _ => ?_)
    refine q_iload (pc2 := 840) C 0 dL_plays_838 rfl rfl ?_
    refine q_aload_n (pc2 := 841) C 6 dL_plays_840 rfl rfl rfl ?_
    refine q_iconst (v := nI 3) (pc2 := 842) C dL_plays_841 (by decide) rfl ?_
    refine q_iald (q0 := 26) (f := fc) (pc2 := 843) C 3 (wT_g0 ct a x fc fb fp fq fn fl) rfl (rfl) (by decide) (by decide) dL_plays_842 rfl ?_
    refine q_eqi (y := nI n) (hc3) ?_
    refine q_icmp_ge (tgt := 850) (pc2 := 846) C dL_plays_843 (by decide) rfl (fun c843 => ?_) (fun c843 => ?_)
    · skip
      have k843 : n ≤ m828 := (nI_leI (a := n) (b := m828) (by omega) (by omega)).mp c843
      refine q_iconst (v := nI 0) (pc2 := 851) C dL_plays_850 (by decide) rfl ?_
      refine q_istore (lv' := [(9, .int (nI 0)), (10, .int (nI m828)), (8, .int (nI i)), (0, .ref (a 30)), (1, .int (nI 6)), (2, .int y), (3, .ref (a 40)), (4, .ref (a 42)), (5, .ref (a 43)), (6, .ref (a 44)), (7, .ref (a 45))]) (pc2 := 853) C dL_plays_851 (by decide) rfl rfl ?_
      refine q_iload (pc2 := 855) C 0 dL_plays_853 rfl rfl ?_
      refine q_if_ne (tgt := 863) (pc2 := 858) C dL_plays_855 (by decide) rfl (fun h9 => absurd (by decide) h9) (fun _ => ?_)
      refine q_bipush (v := (-101)) (pc2 := 860) C dL_plays_858 (by decide) rfl ?_
      refine q_goto (pc2 := 904) C dL_plays_860 (by decide) ?_
      refine q_istore (lv' := [(11, .int (-101)), (9, .int (nI 0)), (10, .int (nI m828)), (8, .int (nI i)), (0, .ref (a 30)), (1, .int (nI 6)), (2, .int y), (3, .ref (a 40)), (4, .ref (a 42)), (5, .ref (a 43)), (6, .ref (a 44)), (7, .ref (a 45))]) (pc2 := 906) C dL_plays_904 (by decide) rfl rfl ?_
      refine q_iconst (v := nI 0) (pc2 := 907) C dL_plays_906 (by decide) rfl ?_
      refine q_istore (lv' := [(12, .int (nI 0)), (11, .int (-101)), (9, .int (nI 0)), (10, .int (nI m828)), (8, .int (nI i)), (0, .ref (a 30)), (1, .int (nI 6)), (2, .int y), (3, .ref (a 40)), (4, .ref (a 42)), (5, .ref (a 43)), (6, .ref (a 44)), (7, .ref (a 45))]) (pc2 := 909) C dL_plays_907 (by decide) rfl rfl ?_
      refine q_iload (pc2 := 911) C 0 dL_plays_909 rfl rfl ?_
      refine q_iconst (v := nI 4) (pc2 := 912) C dL_plays_911 (by decide) rfl ?_
      refine q_icmp_ge (tgt := 973) (pc2 := 915) C dL_plays_912 (by decide) rfl (fun h9 => absurd h9 (by decide)) (fun _ => ?_)
      refine q_iload (pc2 := 917) C 1 dL_plays_915 rfl rfl ?_
      refine q_if_lt (tgt := 973) (pc2 := 920) C dL_plays_917 (by decide) rfl (fun _ => ?_) (fun h9 => absurd (by decide) h9)
      refine q_aload_n (pc2 := 974) C 5 dL_plays_973 rfl rfl rfl ?_
      refine q_iconst (v := nI 3) (pc2 := 975) C dL_plays_974 (by decide) rfl ?_
      refine q_iload (pc2 := 977) C 4 dL_plays_975 rfl rfl ?_
      refine q_iload (pc2 := 979) C 3 dL_plays_977 rfl rfl ?_
      refine q_iconst (v := nI 0) (pc2 := 980) C dL_plays_979 (by decide) rfl ?_
      have hM := c_X3_standIn l hl D ct a x n hx0 (by omega) q hx16 (by omega) (nI i) (nI m828)
      rw [hx0, nI_clamp (show m828 < 2 ^ 31 by omega)] at hM
      rw [nI_clamp (show i < 2 ^ 31 by omega)] at hM
      refine q_Hno_wT (pc2 := 983) (As := [.ref (a 30), .int (nI 3), .int (nI i), .int (nI m828), .int (nI 0)]) (st := []) (st2 := [.int (-101)]) (c2 := 1) (s2 := 6) C (c_L_set3 l D ct a x _ (nI i) (nI m828) (nI 0) _ _ hM) (by rw [if_pos (show 0 ≤ nI i ∧ nI i < nI n from ⟨nI_pos' (by omega), nI_lt hi (by omega)⟩), if_neg (fun z : 0 ≤ nI m828 ∧ nI m828 < nI n => absurd z.2 (nI_nlt (by omega) (by omega)))]) (by decide +kernel) (vx_cwSW 5 C.w gL_plays_L_set rfl rfl rfl (by decide +kernel) ⟨Nat.le_of_ble_eq_true rfl, Nat.le_of_ble_eq_true rfl⟩) dL_plays_980 rfl rfl (Nat.le_of_ble_eq_true rfl) ⟨Nat.le_of_ble_eq_true rfl, Nat.le_of_ble_eq_true rfl⟩ rfl rfl (hcd3I _) rfl rfl ?_
      refine q_iload (pc2 := 985) C 1 dL_plays_983 rfl rfl ?_
      refine q_icmp_ne (tgt := 992) (pc2 := 988) C dL_plays_985 (by decide) rfl (fun h9 => absurd (by decide) h9) (fun _ => ?_)
      refine q_iconst (v := nI 1) (pc2 := 989) C dL_plays_988 (by decide) rfl ?_
      refine q_goto (pc2 := 993) C dL_plays_989 (by decide) ?_
      exact q_zret C hQ rfl (rfl) (by omega) (by omega) dL_plays_993 ⟨rfl, _, _, _, _, _, _, _, rfl, (RE.mono (Nat.le_add_right M 50) ⟨n, h, q, b, t, kb, K, S, F, V, ht, r⟩)⟩
    · skip
      have k843 : m828 < n := (nI_ltI (a := m828) (b := n) (by omega) (by omega)).mp (Int32.not_le.mp c843)
      refine q_iconst (v := nI 1) (pc2 := 847) C dL_plays_846 (by decide) rfl ?_
      refine q_goto (pc2 := 851) C dL_plays_847 (by decide) ?_
      refine q_istore (lv' := [(9, .int (nI 1)), (10, .int (nI m828)), (8, .int (nI i)), (0, .ref (a 30)), (1, .int (nI 6)), (2, .int y), (3, .ref (a 40)), (4, .ref (a 42)), (5, .ref (a 43)), (6, .ref (a 44)), (7, .ref (a 45))]) (pc2 := 853) C dL_plays_851 (by decide) rfl rfl ?_
      refine q_iload (pc2 := 855) C 0 dL_plays_853 rfl rfl ?_
      refine q_if_ne (tgt := 863) (pc2 := 858) C dL_plays_855 (by decide) rfl (fun _ => ?_) (fun h9 => absurd h9 (by decide))
      refine q_iload (pc2 := 865) C 2 dL_plays_863 rfl rfl ?_
      refine q_iload (pc2 := 867) C 1 dL_plays_865 rfl rfl ?_
      refine q_icmp_ne (tgt := 875) (pc2 := 870) C dL_plays_867 (by decide) rfl (fun c867 => ?_) (fun c867 => ?_)
      · skip
        have k867 : i ≠ m828 := fun z => c867 ((nI_eq (a := i) (b := m828) (by omega) (by omega)).mpr z)
        refine q_aload (pc2 := 877) C 7 dL_plays_875 rfl rfl ?_
        refine q_bipush (v := nI 30) (pc2 := 879) C dL_plays_877 (by decide) rfl ?_
        refine q_iload (pc2 := 881) C 2 dL_plays_879 rfl rfl ?_
        refine q_iadd (v := nI (30 + i)) (pc2 := 882) C dL_plays_881 (nI_add 30 i) rfl ?_
        refine q_iald (q0 := 28) (f := fp) (pc2 := 883) C (30 + i) (wT_g2 ct a x fc fb fp fq fn fl) rfl (rfl) (by omega) (by decide) dL_plays_882 rfl ?_
        refine q_if_eq (tgt := 898) (pc2 := 886) C dL_plays_883 (by decide) rfl (fun c883 => ?_) (fun c883 => ?_)
        · skip
          refine q_bipush (v := (-103)) (pc2 := 900) C dL_plays_898 (by decide) rfl ?_
          refine q_goto (pc2 := 904) C dL_plays_900 (by decide) ?_
          refine q_istore (lv' := [(11, .int (-103)), (9, .int (nI 1)), (10, .int (nI m828)), (8, .int (nI i)), (0, .ref (a 30)), (1, .int (nI 6)), (2, .int y), (3, .ref (a 40)), (4, .ref (a 42)), (5, .ref (a 43)), (6, .ref (a 44)), (7, .ref (a 45))]) (pc2 := 906) C dL_plays_904 (by decide) rfl rfl ?_
          refine q_iconst (v := nI 0) (pc2 := 907) C dL_plays_906 (by decide) rfl ?_
          refine q_istore (lv' := [(12, .int (nI 0)), (11, .int (-103)), (9, .int (nI 1)), (10, .int (nI m828)), (8, .int (nI i)), (0, .ref (a 30)), (1, .int (nI 6)), (2, .int y), (3, .ref (a 40)), (4, .ref (a 42)), (5, .ref (a 43)), (6, .ref (a 44)), (7, .ref (a 45))]) (pc2 := 909) C dL_plays_907 (by decide) rfl rfl ?_
          refine q_iload (pc2 := 911) C 0 dL_plays_909 rfl rfl ?_
          refine q_iconst (v := nI 4) (pc2 := 912) C dL_plays_911 (by decide) rfl ?_
          refine q_icmp_ge (tgt := 973) (pc2 := 915) C dL_plays_912 (by decide) rfl (fun h9 => absurd h9 (by decide)) (fun _ => ?_)
          refine q_iload (pc2 := 917) C 1 dL_plays_915 rfl rfl ?_
          refine q_if_lt (tgt := 973) (pc2 := 920) C dL_plays_917 (by decide) rfl (fun _ => ?_) (fun h9 => absurd (by decide) h9)
          refine q_aload_n (pc2 := 974) C 5 dL_plays_973 rfl rfl rfl ?_
          refine q_iconst (v := nI 3) (pc2 := 975) C dL_plays_974 (by decide) rfl ?_
          refine q_iload (pc2 := 977) C 4 dL_plays_975 rfl rfl ?_
          refine q_iload (pc2 := 979) C 3 dL_plays_977 rfl rfl ?_
          refine q_iconst (v := nI 0) (pc2 := 980) C dL_plays_979 (by decide) rfl ?_
          have hM := c_X3_standIn l hl D ct a x n hx0 (by omega) q hx16 (by omega) (nI i) (nI m828)
          rw [hx0, nI_clamp (show m828 < 2 ^ 31 by omega)] at hM
          rw [nI_clamp (show i < 2 ^ 31 by omega)] at hM
          refine q_Hno_wT (pc2 := 983) (As := [.ref (a 30), .int (nI 3), .int (nI i), .int (nI m828), .int (nI 0)]) (st := []) (st2 := [.int (-103)]) (c2 := 1) (s2 := 6) C (c_L_set3 l D ct a x _ (nI i) (nI m828) (nI 0) _ _ hM) (by rw [if_pos (show 0 ≤ nI i ∧ nI i < nI n from ⟨nI_pos' (by omega), nI_lt hi (by omega)⟩), if_pos (show 0 ≤ nI m828 ∧ nI m828 < nI n from ⟨nI_pos' (by omega), nI_lt (by omega) (by omega)⟩), if_pos (show nI i ≠ nI m828 from fun z => k867 ((nI_eq (by omega) (by omega)).mp z)), if_neg (fun z : x 3 i ≠ 0 ∧ x 3 m828 = 0 => z.1 ((hall i (by omega)).2.1.trans c883))]) (by decide +kernel) (vx_cwSW 5 C.w gL_plays_L_set rfl rfl rfl (by decide +kernel) ⟨Nat.le_of_ble_eq_true rfl, Nat.le_of_ble_eq_true rfl⟩) dL_plays_980 rfl rfl (Nat.le_of_ble_eq_true rfl) ⟨Nat.le_of_ble_eq_true rfl, Nat.le_of_ble_eq_true rfl⟩ rfl rfl (hcd3S _) rfl rfl ?_
          refine q_iload (pc2 := 985) C 1 dL_plays_983 rfl rfl ?_
          refine q_icmp_ne (tgt := 992) (pc2 := 988) C dL_plays_985 (by decide) rfl (fun h9 => absurd (by decide) h9) (fun _ => ?_)
          refine q_iconst (v := nI 1) (pc2 := 989) C dL_plays_988 (by decide) rfl ?_
          refine q_goto (pc2 := 993) C dL_plays_989 (by decide) ?_
          exact q_zret C hQ rfl (rfl) (by omega) (by omega) dL_plays_993 ⟨rfl, _, _, _, _, _, _, _, rfl, (RE.mono (Nat.le_add_right M 50) ⟨n, h, q, b, t, kb, K, S, F, V, ht, r⟩)⟩
        · skip
          refine q_aload (pc2 := 888) C 7 dL_plays_886 rfl rfl ?_
          refine q_bipush (v := nI 30) (pc2 := 890) C dL_plays_888 (by decide) rfl ?_
          refine q_iload (pc2 := 892) C 1 dL_plays_890 rfl rfl ?_
          refine q_iadd (v := nI (30 + m828)) (pc2 := 893) C dL_plays_892 (nI_add 30 m828) rfl ?_
          refine q_iald (q0 := 28) (f := fp) (pc2 := 894) C (30 + m828) (wT_g2 ct a x fc fb fp fq fn fl) rfl (rfl) (by omega) (by decide) dL_plays_893 rfl ?_
          refine q_iconst (v := nI 1) (pc2 := 895) C dL_plays_894 (by decide) rfl ?_
          refine q_icmp_ne (tgt := 903) (pc2 := 898) C dL_plays_895 (by decide) rfl (fun c895 => ?_) (fun c895 => ?_)
          · skip
            refine q_iconst (v := nI 0) (pc2 := 904) C dL_plays_903 (by decide) rfl ?_
            refine q_istore (lv' := [(11, .int (nI 0)), (9, .int (nI 1)), (10, .int (nI m828)), (8, .int (nI i)), (0, .ref (a 30)), (1, .int (nI 6)), (2, .int y), (3, .ref (a 40)), (4, .ref (a 42)), (5, .ref (a 43)), (6, .ref (a 44)), (7, .ref (a 45))]) (pc2 := 906) C dL_plays_904 (by decide) rfl rfl ?_
            refine q_iconst (v := nI 0) (pc2 := 907) C dL_plays_906 (by decide) rfl ?_
            refine q_istore (lv' := [(12, .int (nI 0)), (11, .int (nI 0)), (9, .int (nI 1)), (10, .int (nI m828)), (8, .int (nI i)), (0, .ref (a 30)), (1, .int (nI 6)), (2, .int y), (3, .ref (a 40)), (4, .ref (a 42)), (5, .ref (a 43)), (6, .ref (a 44)), (7, .ref (a 45))]) (pc2 := 909) C dL_plays_907 (by decide) rfl rfl ?_
            refine q_lv (lv' := [(12, .int (nI 0)), (11, .int (nI 0)), (10, .int (nI m828)), (9, .int (nI 1)), (8, .int (nI i)), (7, .ref (a 45)), (6, .ref (a 44)), (5, .ref (a 43)), (4, .ref (a 42)), (3, .ref (a 40)), (2, .int y), (1, .int (nI 6)), (0, .ref (a 30))]) [0, 1, 3, 2, 4, 12, 11, 10, 9, 8, 7, 6, 5] rfl ?_
            refine q_eql (lv' := [(12, .int (nI 0)), (11, .int (nI ((hvL fn i m828 0).2))), (10, .int (nI m828)), (9, .int (nI 1)), (8, .int (nI i)), (7, .ref (a 45)), (6, .ref (a 44)), (5, .ref (a 43)), (4, .ref (a 42)), (3, .ref (a 40)), (2, .int y), (1, .int (nI 6)), (0, .ref (a 30))]) (rfl) ?_
            refine q_eqw (ws' := (wT ct a x fc fb fp fq (hvL fn i m828 0).1 fl)) (rfl) ?_
            refine (lp_up (P := fun j8 => Cf p l e ({ frames := 9, cells := 2, slots := 12, locals := 162 }) s m args below meth c D A 15 0 0 Q 909 [(12, .int (nI j8)), (11, .int (nI ((hvL fn i m828 j8).2))), (10, .int (nI m828)), (9, .int (nI 1)), (8, .int (nI i)), (7, .ref (a 45)), (6, .ref (a 44)), (5, .ref (a 43)), (4, .ref (a 42)), (3, .ref (a 40)), (2, .int y), (1, .int (nI 6)), (0, .ref (a 30))] [] (wT ct a x fc fb fp fq (hvL fn i m828 j8).1 fl)) 4 (fun j8 hj8 ihj8 => ?_) ?_ : Cf p l e ({ frames := 9, cells := 2, slots := 12, locals := 162 }) s m args below meth c D A 15 0 0 Q 909 [(12, .int (nI 0)), (11, .int (nI ((hvL fn i m828 0).2))), (10, .int (nI m828)), (9, .int (nI 1)), (8, .int (nI i)), (7, .ref (a 45)), (6, .ref (a 44)), (5, .ref (a 43)), (4, .ref (a 42)), (3, .ref (a 40)), (2, .int y), (1, .int (nI 6)), (0, .ref (a 30))] [] (wT ct a x fc fb fp fq (hvL fn i m828 0).1 fl))
            · skip
              refine q_iload (pc2 := 911) C 0 dL_plays_909 rfl rfl ?_
              refine q_iconst (v := nI 4) (pc2 := 912) C dL_plays_911 (by decide) rfl ?_
              refine q_icmp_ge (tgt := 973) (pc2 := 915) C dL_plays_912 (by decide) rfl (fun h9 => absurd h9 (nI_ge (a := j8) (b := 4) (by omega) (by omega))) (fun _ => ?_)
              refine q_iload (pc2 := 917) C 1 dL_plays_915 rfl rfl ?_
              refine q_if_lt (tgt := 973) (pc2 := 920) C dL_plays_917 (by decide) rfl (fun h9 => absurd h9 (nI_pos (by have := hvL_le fn i m828 j8; omega))) (fun _ => ?_)
              refine q_aload (pc2 := 922) C 6 dL_plays_920 rfl rfl ?_
              refine q_iconst (v := nI 5) (pc2 := 923) C dL_plays_922 (by decide) rfl ?_
              refine q_iload (pc2 := 925) C 0 dL_plays_923 rfl rfl ?_
              refine q_imul (v := nI (5 * j8)) (pc2 := 926) C dL_plays_925 (pk_mul 5 j8) rfl ?_
              refine q_iload (pc2 := 928) C 4 dL_plays_926 rfl rfl ?_
              refine q_iadd (v := nI ((5 * j8) + i)) (pc2 := 929) C dL_plays_928 (nI_add (5 * j8) i) rfl ?_
              refine q_iald (q0 := 30) (f := (hvL fn i m828 j8).1) (pc2 := 930) C ((5 * j8) + i) (wT_g4 ct a x fc fb fp fq (hvL fn i m828 j8).1 fl) rfl (rfl) (by omega) (by decide) dL_plays_929 rfl ?_
              refine q_if_lt (tgt := 967) (pc2 := 933) C dL_plays_930 (by decide) rfl (fun c930 => ?_) (fun c930 => ?_)
              · skip
                refine q_iinc (v := nI (j8 + 1)) (lv' := [(12, .int (nI (j8 + 1))), (11, .int (nI ((hvL fn i m828 j8).2))), (10, .int (nI m828)), (9, .int (nI 1)), (8, .int (nI i)), (7, .ref (a 45)), (6, .ref (a 44)), (5, .ref (a 43)), (4, .ref (a 42)), (3, .ref (a 40)), (2, .int y), (1, .int (nI 6)), (0, .ref (a 30))]) (pc2 := 970) C 0 dL_plays_967 rfl (show nI j8 + Int32.ofInt 1 = nI (j8 + 1) by rw [show Int32.ofInt 1 = nI 1 from by decide]; exact nI_add j8 1) (by decide) rfl rfl ?_
                refine q_goto (pc2 := 909) C dL_plays_970 (by decide) ?_
                refine q_eql (lv' := [(12, .int (nI (j8 + 1))), (11, .int (nI ((hvL fn i m828 (j8 + 1)).2))), (10, .int (nI m828)), (9, .int (nI 1)), (8, .int (nI i)), (7, .ref (a 45)), (6, .ref (a 44)), (5, .ref (a 43)), (4, .ref (a 42)), (3, .ref (a 40)), (2, .int y), (1, .int (nI 6)), (0, .ref (a 30))]) (by rw [hvL_s, if_pos c930]) ?_
                refine q_eqw (ws' := (wT ct a x fc fb fp fq (hvL fn i m828 (j8 + 1)).1 fl)) (by rw [hvL_s, if_pos c930]) ?_
                exact ihj8
              · skip
                refine q_aload (pc2 := 935) C 6 dL_plays_933 rfl rfl ?_
                refine q_iconst (v := nI 5) (pc2 := 936) C dL_plays_935 (by decide) rfl ?_
                refine q_iload (pc2 := 938) C 0 dL_plays_936 rfl rfl ?_
                refine q_imul (v := nI (5 * j8)) (pc2 := 939) C dL_plays_938 (pk_mul 5 j8) rfl ?_
                refine q_iload (pc2 := 941) C 2 dL_plays_939 rfl rfl ?_
                refine q_iadd (v := nI ((5 * j8) + m828)) (pc2 := 942) C dL_plays_941 (nI_add (5 * j8) m828) rfl ?_
                refine q_aload (pc2 := 944) C 6 dL_plays_942 rfl rfl ?_
                refine q_iconst (v := nI 5) (pc2 := 945) C dL_plays_944 (by decide) rfl ?_
                refine q_iload (pc2 := 947) C 0 dL_plays_945 rfl rfl ?_
                refine q_imul (v := nI (5 * j8)) (pc2 := 948) C dL_plays_947 (pk_mul 5 j8) rfl ?_
                refine q_iload (pc2 := 950) C 4 dL_plays_948 rfl rfl ?_
                refine q_iadd (v := nI ((5 * j8) + i)) (pc2 := 951) C dL_plays_950 (nI_add (5 * j8) i) rfl ?_
                refine q_iald (q0 := 30) (f := (hvL fn i m828 j8).1) (pc2 := 952) C ((5 * j8) + i) (wT_g4 ct a x fc fb fp fq (hvL fn i m828 j8).1 fl) rfl (rfl) (by omega) (by decide) dL_plays_951 rfl ?_
                refine q_iast (q0 := 30) (f := (hvL fn i m828 j8).1) (ws' := (wT ct a x fc fb fp fq (upd (hvL fn i m828 j8).1 ((5 * j8) + m828) ((hvL fn i m828 j8).1 ((5 * j8) + i))) fl)) (pc2 := 953) C ((5 * j8) + m828) (wT_g4 ct a x fc fb fp fq (hvL fn i m828 j8).1 fl) rfl (rfl) (by omega) (by decide) (wT_a4 ct a x fc fb fp fq (hvL fn i m828 j8).1 fl (upd (hvL fn i m828 j8).1 ((5 * j8) + m828) ((hvL fn i m828 j8).1 ((5 * j8) + i)))) dL_plays_952 rfl ?_
                refine q_aload (pc2 := 955) C 6 dL_plays_953 rfl rfl ?_
                refine q_iconst (v := nI 5) (pc2 := 956) C dL_plays_955 (by decide) rfl ?_
                refine q_iload (pc2 := 958) C 0 dL_plays_956 rfl rfl ?_
                refine q_imul (v := nI (5 * j8)) (pc2 := 959) C dL_plays_958 (pk_mul 5 j8) rfl ?_
                refine q_iload (pc2 := 961) C 4 dL_plays_959 rfl rfl ?_
                refine q_iadd (v := nI ((5 * j8) + i)) (pc2 := 962) C dL_plays_961 (nI_add (5 * j8) i) rfl ?_
                refine q_iconst (v := (-1)) (pc2 := 963) C dL_plays_962 (by decide) rfl ?_
                refine q_iast (q0 := 30) (f := (upd (hvL fn i m828 j8).1 ((5 * j8) + m828) ((hvL fn i m828 j8).1 ((5 * j8) + i)))) (ws' := (wT ct a x fc fb fp fq (upd (upd (hvL fn i m828 j8).1 ((5 * j8) + m828) ((hvL fn i m828 j8).1 ((5 * j8) + i))) ((5 * j8) + i) (-1)) fl)) (pc2 := 964) C ((5 * j8) + i) (wT_g4 ct a x fc fb fp fq (upd (hvL fn i m828 j8).1 ((5 * j8) + m828) ((hvL fn i m828 j8).1 ((5 * j8) + i))) fl) rfl (rfl) (by omega) (by decide) (wT_a4 ct a x fc fb fp fq (upd (hvL fn i m828 j8).1 ((5 * j8) + m828) ((hvL fn i m828 j8).1 ((5 * j8) + i))) fl (upd (upd (hvL fn i m828 j8).1 ((5 * j8) + m828) ((hvL fn i m828 j8).1 ((5 * j8) + i))) ((5 * j8) + i) (-1))) dL_plays_963 rfl ?_
                refine q_iinc (v := nI ((hvL fn i m828 j8).2 + 1)) (lv' := [(11, .int (nI ((hvL fn i m828 j8).2 + 1))), (12, .int (nI j8)), (10, .int (nI m828)), (9, .int (nI 1)), (8, .int (nI i)), (7, .ref (a 45)), (6, .ref (a 44)), (5, .ref (a 43)), (4, .ref (a 42)), (3, .ref (a 40)), (2, .int y), (1, .int (nI 6)), (0, .ref (a 30))]) (pc2 := 967) C 1 dL_plays_964 rfl (show nI ((hvL fn i m828 j8).2) + Int32.ofInt 1 = nI ((hvL fn i m828 j8).2 + 1) by rw [show Int32.ofInt 1 = nI 1 from by decide]; exact nI_add ((hvL fn i m828 j8).2) 1) (by decide) rfl rfl ?_
                refine q_iinc (v := nI (j8 + 1)) (lv' := [(12, .int (nI (j8 + 1))), (11, .int (nI ((hvL fn i m828 j8).2 + 1))), (10, .int (nI m828)), (9, .int (nI 1)), (8, .int (nI i)), (7, .ref (a 45)), (6, .ref (a 44)), (5, .ref (a 43)), (4, .ref (a 42)), (3, .ref (a 40)), (2, .int y), (1, .int (nI 6)), (0, .ref (a 30))]) (pc2 := 970) C 1 dL_plays_967 rfl (show nI j8 + Int32.ofInt 1 = nI (j8 + 1) by rw [show Int32.ofInt 1 = nI 1 from by decide]; exact nI_add j8 1) (by decide) rfl rfl ?_
                refine q_goto (pc2 := 909) C dL_plays_970 (by decide) ?_
                refine q_eql (lv' := [(12, .int (nI (j8 + 1))), (11, .int (nI ((hvL fn i m828 (j8 + 1)).2))), (10, .int (nI m828)), (9, .int (nI 1)), (8, .int (nI i)), (7, .ref (a 45)), (6, .ref (a 44)), (5, .ref (a 43)), (4, .ref (a 42)), (3, .ref (a 40)), (2, .int y), (1, .int (nI 6)), (0, .ref (a 30))]) (by rw [hvL_s, if_neg c930]) ?_
                refine q_eqw (ws' := (wT ct a x fc fb fp fq (hvL fn i m828 (j8 + 1)).1 fl)) (by rw [hvL_s, if_neg c930]) ?_
                exact ihj8
            · skip
              refine q_iload (pc2 := 911) C 0 dL_plays_909 rfl rfl ?_
              refine q_iconst (v := nI 4) (pc2 := 912) C dL_plays_911 (by decide) rfl ?_
              refine q_icmp_ge (tgt := 973) (pc2 := 915) C dL_plays_912 (by decide) rfl (fun _ => ?_) (fun h9 => absurd (nI_le (a := 4) (b := 4) (by omega) (by omega)) h9)
              refine q_aload_n (pc2 := 974) C 12 dL_plays_973 rfl rfl rfl ?_
              refine q_iconst (v := nI 3) (pc2 := 975) C dL_plays_974 (by decide) rfl ?_
              refine q_iload (pc2 := 977) C 4 dL_plays_975 rfl rfl ?_
              refine q_iload (pc2 := 979) C 2 dL_plays_977 rfl rfl ?_
              refine q_iconst (v := nI 0) (pc2 := 980) C dL_plays_979 (by decide) rfl ?_
              have hM := c_X3_standIn l hl D ct a x n hx0 (by omega) q hx16 (by omega) (nI i) (nI m828)
              rw [hx0, nI_clamp (show m828 < 2 ^ 31 by omega)] at hM
              rw [nI_clamp (show i < 2 ^ 31 by omega)] at hM
              have hs1 : x 3 i ≠ 0 ∧ x 3 m828 = 0 := ⟨fun z => c883 ((hall i (by omega)).2.1.symm.trans z), ((hall m828 (by omega)).2.1).trans ((rr.2 m828 (by omega)).2.resolve_right c895)⟩
              refine q_Hok_wT (pc2 := 983) (As := [.ref (a 30), .int (nI 3), .int (nI i), .int (nI m828), .int (nI 0)]) (st := []) (st2 := [.int ((hov (x 20) i m828 q).2)]) (x' := (set2 x 20 (hov (x 20) i m828 q).1)) C (c_L_set3 l D ct a x _ (nI i) (nI m828) (nI 0) _ _ hM) (by rw [if_pos (show 0 ≤ nI i ∧ nI i < nI n from ⟨nI_pos' (by omega), nI_lt hi (by omega)⟩), if_pos (show 0 ≤ nI m828 ∧ nI m828 < nI n from ⟨nI_pos' (by omega), nI_lt (by omega) (by omega)⟩), if_pos (show nI i ≠ nI m828 from fun z => k867 ((nI_eq (by omega) (by omega)).mp z)), if_pos hs1]) (vx_cwSW 5 C.w gL_plays_L_set rfl rfl rfl (by decide +kernel) ⟨Nat.le_of_ble_eq_true rfl, Nat.le_of_ble_eq_true rfl⟩) dL_plays_980 rfl rfl (Nat.le_of_ble_eq_true rfl) ⟨Nat.zero_le _, Nat.zero_le _⟩ rfl rfl ?_
              refine q_iload (pc2 := 985) C 1 dL_plays_983 rfl rfl ?_
              refine q_icmp_ne (tgt := 992) (pc2 := 988) C dL_plays_985 (by decide) rfl (fun h9 => absurd ((st_standIn r hi (by omega) k867).2) h9) (fun _ => ?_)
              refine q_iconst (v := nI 1) (pc2 := 989) C dL_plays_988 (by decide) rfl ?_
              refine q_goto (pc2 := 993) C dL_plays_989 (by decide) ?_
              exact q_zret C hQ rfl (rfl) (Nat.zero_le _) (Nat.zero_le _) dL_plays_993 ⟨rfl, _, _, _, _, _, _, _, rfl, ⟨n, h, q, b, t, kb, K, S, F, V, Nat.le_trans ht (Nat.le_add_right M 50), (st_standIn r hi (by omega) k867).1⟩⟩
          · skip
            refine q_bipush (v := (-103)) (pc2 := 900) C dL_plays_898 (by decide) rfl ?_
            refine q_goto (pc2 := 904) C dL_plays_900 (by decide) ?_
            refine q_istore (lv' := [(11, .int (-103)), (9, .int (nI 1)), (10, .int (nI m828)), (8, .int (nI i)), (0, .ref (a 30)), (1, .int (nI 6)), (2, .int y), (3, .ref (a 40)), (4, .ref (a 42)), (5, .ref (a 43)), (6, .ref (a 44)), (7, .ref (a 45))]) (pc2 := 906) C dL_plays_904 (by decide) rfl rfl ?_
            refine q_iconst (v := nI 0) (pc2 := 907) C dL_plays_906 (by decide) rfl ?_
            refine q_istore (lv' := [(12, .int (nI 0)), (11, .int (-103)), (9, .int (nI 1)), (10, .int (nI m828)), (8, .int (nI i)), (0, .ref (a 30)), (1, .int (nI 6)), (2, .int y), (3, .ref (a 40)), (4, .ref (a 42)), (5, .ref (a 43)), (6, .ref (a 44)), (7, .ref (a 45))]) (pc2 := 909) C dL_plays_907 (by decide) rfl rfl ?_
            refine q_iload (pc2 := 911) C 0 dL_plays_909 rfl rfl ?_
            refine q_iconst (v := nI 4) (pc2 := 912) C dL_plays_911 (by decide) rfl ?_
            refine q_icmp_ge (tgt := 973) (pc2 := 915) C dL_plays_912 (by decide) rfl (fun h9 => absurd h9 (by decide)) (fun _ => ?_)
            refine q_iload (pc2 := 917) C 1 dL_plays_915 rfl rfl ?_
            refine q_if_lt (tgt := 973) (pc2 := 920) C dL_plays_917 (by decide) rfl (fun _ => ?_) (fun h9 => absurd (by decide) h9)
            refine q_aload_n (pc2 := 974) C 5 dL_plays_973 rfl rfl rfl ?_
            refine q_iconst (v := nI 3) (pc2 := 975) C dL_plays_974 (by decide) rfl ?_
            refine q_iload (pc2 := 977) C 4 dL_plays_975 rfl rfl ?_
            refine q_iload (pc2 := 979) C 3 dL_plays_977 rfl rfl ?_
            refine q_iconst (v := nI 0) (pc2 := 980) C dL_plays_979 (by decide) rfl ?_
            have hM := c_X3_standIn l hl D ct a x n hx0 (by omega) q hx16 (by omega) (nI i) (nI m828)
            rw [hx0, nI_clamp (show m828 < 2 ^ 31 by omega)] at hM
            rw [nI_clamp (show i < 2 ^ 31 by omega)] at hM
            refine q_Hno_wT (pc2 := 983) (As := [.ref (a 30), .int (nI 3), .int (nI i), .int (nI m828), .int (nI 0)]) (st := []) (st2 := [.int (-103)]) (c2 := 1) (s2 := 6) C (c_L_set3 l D ct a x _ (nI i) (nI m828) (nI 0) _ _ hM) (by rw [if_pos (show 0 ≤ nI i ∧ nI i < nI n from ⟨nI_pos' (by omega), nI_lt hi (by omega)⟩), if_pos (show 0 ≤ nI m828 ∧ nI m828 < nI n from ⟨nI_pos' (by omega), nI_lt (by omega) (by omega)⟩), if_pos (show nI i ≠ nI m828 from fun z => k867 ((nI_eq (by omega) (by omega)).mp z)), if_neg (fun z : x 3 i ≠ 0 ∧ x 3 m828 = 0 => absurd (((hall m828 (by omega)).2.1.trans c895).symm.trans z.2) (by decide))]) (by decide +kernel) (vx_cwSW 5 C.w gL_plays_L_set rfl rfl rfl (by decide +kernel) ⟨Nat.le_of_ble_eq_true rfl, Nat.le_of_ble_eq_true rfl⟩) dL_plays_980 rfl rfl (Nat.le_of_ble_eq_true rfl) ⟨Nat.le_of_ble_eq_true rfl, Nat.le_of_ble_eq_true rfl⟩ rfl rfl (hcd3S _) rfl rfl ?_
            refine q_iload (pc2 := 985) C 1 dL_plays_983 rfl rfl ?_
            refine q_icmp_ne (tgt := 992) (pc2 := 988) C dL_plays_985 (by decide) rfl (fun h9 => absurd (by decide) h9) (fun _ => ?_)
            refine q_iconst (v := nI 1) (pc2 := 989) C dL_plays_988 (by decide) rfl ?_
            refine q_goto (pc2 := 993) C dL_plays_989 (by decide) ?_
            exact q_zret C hQ rfl (rfl) (by omega) (by omega) dL_plays_993 ⟨rfl, _, _, _, _, _, _, _, rfl, (RE.mono (Nat.le_add_right M 50) ⟨n, h, q, b, t, kb, K, S, F, V, ht, r⟩)⟩
      · skip
        have k867 : i = m828 := (nI_eq (a := i) (b := m828) (by omega) (by omega)).mp (c867)
        refine q_bipush (v := (-102)) (pc2 := 872) C dL_plays_870 (by decide) rfl ?_
        refine q_goto (pc2 := 904) C dL_plays_872 (by decide) ?_
        refine q_istore (lv' := [(11, .int (-102)), (9, .int (nI 1)), (10, .int (nI m828)), (8, .int (nI i)), (0, .ref (a 30)), (1, .int (nI 6)), (2, .int y), (3, .ref (a 40)), (4, .ref (a 42)), (5, .ref (a 43)), (6, .ref (a 44)), (7, .ref (a 45))]) (pc2 := 906) C dL_plays_904 (by decide) rfl rfl ?_
        refine q_iconst (v := nI 0) (pc2 := 907) C dL_plays_906 (by decide) rfl ?_
        refine q_istore (lv' := [(12, .int (nI 0)), (11, .int (-102)), (9, .int (nI 1)), (10, .int (nI m828)), (8, .int (nI i)), (0, .ref (a 30)), (1, .int (nI 6)), (2, .int y), (3, .ref (a 40)), (4, .ref (a 42)), (5, .ref (a 43)), (6, .ref (a 44)), (7, .ref (a 45))]) (pc2 := 909) C dL_plays_907 (by decide) rfl rfl ?_
        refine q_iload (pc2 := 911) C 0 dL_plays_909 rfl rfl ?_
        refine q_iconst (v := nI 4) (pc2 := 912) C dL_plays_911 (by decide) rfl ?_
        refine q_icmp_ge (tgt := 973) (pc2 := 915) C dL_plays_912 (by decide) rfl (fun h9 => absurd h9 (by decide)) (fun _ => ?_)
        refine q_iload (pc2 := 917) C 1 dL_plays_915 rfl rfl ?_
        refine q_if_lt (tgt := 973) (pc2 := 920) C dL_plays_917 (by decide) rfl (fun _ => ?_) (fun h9 => absurd (by decide) h9)
        refine q_aload_n (pc2 := 974) C 5 dL_plays_973 rfl rfl rfl ?_
        refine q_iconst (v := nI 3) (pc2 := 975) C dL_plays_974 (by decide) rfl ?_
        refine q_iload (pc2 := 977) C 4 dL_plays_975 rfl rfl ?_
        refine q_iload (pc2 := 979) C 3 dL_plays_977 rfl rfl ?_
        refine q_iconst (v := nI 0) (pc2 := 980) C dL_plays_979 (by decide) rfl ?_
        have hM := c_X3_standIn l hl D ct a x n hx0 (by omega) q hx16 (by omega) (nI i) (nI m828)
        rw [hx0, nI_clamp (show m828 < 2 ^ 31 by omega)] at hM
        rw [nI_clamp (show i < 2 ^ 31 by omega)] at hM
        refine q_Hno_wT (pc2 := 983) (As := [.ref (a 30), .int (nI 3), .int (nI i), .int (nI m828), .int (nI 0)]) (st := []) (st2 := [.int (-102)]) (c2 := 1) (s2 := 6) C (c_L_set3 l D ct a x _ (nI i) (nI m828) (nI 0) _ _ hM) (by rw [if_pos (show 0 ≤ nI i ∧ nI i < nI n from ⟨nI_pos' (by omega), nI_lt hi (by omega)⟩), if_pos (show 0 ≤ nI m828 ∧ nI m828 < nI n from ⟨nI_pos' (by omega), nI_lt (by omega) (by omega)⟩), if_neg (fun z : nI i ≠ nI m828 => z (by rw [k867]))]) (by decide +kernel) (vx_cwSW 5 C.w gL_plays_L_set rfl rfl rfl (by decide +kernel) ⟨Nat.le_of_ble_eq_true rfl, Nat.le_of_ble_eq_true rfl⟩) dL_plays_980 rfl rfl (Nat.le_of_ble_eq_true rfl) ⟨Nat.le_of_ble_eq_true rfl, Nat.le_of_ble_eq_true rfl⟩ rfl rfl (hcd3A _) rfl rfl ?_
        refine q_iload (pc2 := 985) C 1 dL_plays_983 rfl rfl ?_
        refine q_icmp_ne (tgt := 992) (pc2 := 988) C dL_plays_985 (by decide) rfl (fun h9 => absurd (by decide) h9) (fun _ => ?_)
        refine q_iconst (v := nI 1) (pc2 := 989) C dL_plays_988 (by decide) rfl ?_
        refine q_goto (pc2 := 993) C dL_plays_989 (by decide) ?_
        exact q_zret C hQ rfl (rfl) (by omega) (by omega) dL_plays_993 ⟨rfl, _, _, _, _, _, _, _, rfl, (RE.mono (Nat.le_add_right M 50) ⟨n, h, q, b, t, kb, K, S, F, V, ht, r⟩)⟩
  have hB : ∀ v : Int32, ¬ (0 ≤ v ∧ v < nI n) → Cf p l e ({ frames := 9, cells := 2, slots := 12, locals := 162 }) s m args below meth c D A 15 0 0 Q 49 [(9, .int (nI 0)), (8, .int v), (0, .ref (a 30)), (1, .int (nI 6)), (2, .int y), (3, .ref (a 40)), (4, .ref (a 42)), (5, .ref (a 43)), (6, .ref (a 44)), (7, .ref (a 45))] [] (wT ct a x fc fb fp fq fn fl) := by
    intro v hv
    refine q_iload_n (pc2 := 50) C 3 dL_plays_49 rfl rfl rfl ?_
    refine q_if_ne (tgt := 277) (pc2 := 53) C dL_plays_50 (by decide) rfl (fun _ => ?_) (fun h9 => absurd h9 (by decide))
    refine q_iload_n (pc2 := 278) C 3 dL_plays_277 rfl rfl rfl ?_
    refine q_iconst (v := nI 1) (pc2 := 279) C dL_plays_278 (by decide) rfl ?_
    refine q_icmp_ne (tgt := 431) (pc2 := 282) C dL_plays_279 (by decide) rfl (fun _ => ?_) (fun h9 => absurd h9 (by decide))
    refine q_iload_n (pc2 := 432) C 3 dL_plays_431 rfl rfl rfl ?_
    refine q_iconst (v := nI 2) (pc2 := 433) C dL_plays_432 (by decide) rfl ?_
    refine q_icmp_ne (tgt := 491) (pc2 := 436) C dL_plays_433 (by decide) rfl (fun _ => ?_) (fun h9 => absurd h9 (by decide))
    refine q_iload_n (pc2 := 492) C 3 dL_plays_491 rfl rfl rfl ?_
    refine q_iconst (v := nI 3) (pc2 := 493) C dL_plays_492 (by decide) rfl ?_
    refine q_icmp_ne (tgt := 719) (pc2 := 496) C dL_plays_493 (by decide) rfl (fun _ => ?_) (fun h9 => absurd h9 (by decide))
    refine q_iload_n (pc2 := 720) C 3 dL_plays_719 rfl rfl rfl ?_
    refine q_iconst (v := nI 4) (pc2 := 721) C dL_plays_720 (by decide) rfl ?_
    refine q_icmp_ne (tgt := 748) (pc2 := 724) C dL_plays_721 (by decide) rfl (fun _ => ?_) (fun h9 => absurd h9 (by decide))
    refine q_iload_n (pc2 := 749) C 3 dL_plays_748 rfl rfl rfl ?_
    refine q_iconst (v := nI 5) (pc2 := 750) C dL_plays_749 (by decide) rfl ?_
    refine q_icmp_ne (tgt := 814) (pc2 := 753) C dL_plays_750 (by decide) rfl (fun _ => ?_) (fun h9 => absurd h9 (by decide))
    refine q_iload_n (pc2 := 815) C 3 dL_plays_814 rfl rfl rfl ?_
    refine q_bipush (v := nI 6) (pc2 := 817) C dL_plays_815 (by decide) rfl ?_
    refine q_icmp_ne (tgt := 994) (pc2 := 820) C dL_plays_817 (by decide) rfl (fun h9 => absurd (by decide) h9) (fun _ => ?_)
    refine q_iload_n (pc2 := 821) C 4 dL_plays_820 rfl rfl rfl ?_
    refine q_iconst (v := nI 3) (pc2 := 822) C dL_plays_821 (by decide) rfl ?_
    refine q_ishr (v := (y >>> (nI 3 &&& 31))) (pc2 := 823) C dL_plays_822 (rfl) rfl ?_
    refine q_aload_n (pc2 := 824) C 5 dL_plays_823 rfl rfl rfl ?_
    refine q_iconst (v := nI 3) (pc2 := 825) C dL_plays_824 (by decide) rfl ?_
    refine q_iald (q0 := 26) (f := fc) (pc2 := 826) C 3 (wT_g0 ct a x fc fb fp fq fn fl) rfl (rfl) (by decide) (by decide) dL_plays_825 rfl ?_
    refine q_eqi (y := nI n) (hc3) ?_
    refine q_iconst (v := nI 1) (pc2 := 827) C dL_plays_826 (by decide) rfl ?_
    refine q_iadd (v := nI (n + 1)) (pc2 := 828) C dL_plays_827 (nI_add n 1) rfl ?_
    refine q_some (pc2 := 831) C (v := (y >>> (nI 3 &&& 31))) (n + 1) (by omega) (by omega) (va_cwS 2 C.w gL_plays_L_some rfl rfl rfl (by decide +kernel) ⟨Nat.le_of_ble_eq_true rfl, Nat.le_of_ble_eq_true rfl⟩) dL_plays_828 rfl ⟨Nat.le_of_ble_eq_true rfl, Nat.le_of_ble_eq_true rfl⟩ (Nat.le_of_ble_eq_true rfl) (fun m828 hm828 => ?_)
    refine q_istore (lv' := [(10, .int (nI m828)), (9, .int (nI 0)), (8, .int v), (0, .ref (a 30)), (1, .int (nI 6)), (2, .int y), (3, .ref (a 40)), (4, .ref (a 42)), (5, .ref (a 43)), (6, .ref (a 44)), (7, .ref (a 45))]) (pc2 := 833) C dL_plays_831 (by decide) rfl rfl ?_
    refine q_iload (pc2 := 835) C 1 dL_plays_833 rfl rfl ?_
    refine q_if_eq (tgt := 850) (pc2 := 838) C dL_plays_835 (by decide) rfl (fun _ => ?_) (fun h9 => absurd (by decide) h9)
    refine q_iconst (v := nI 0) (pc2 := 851) C dL_plays_850 (by decide) rfl ?_
    refine q_istore (lv' := [(9, .int (nI 0)), (10, .int (nI m828)), (8, .int v), (0, .ref (a 30)), (1, .int (nI 6)), (2, .int y), (3, .ref (a 40)), (4, .ref (a 42)), (5, .ref (a 43)), (6, .ref (a 44)), (7, .ref (a 45))]) (pc2 := 853) C dL_plays_851 (by decide) rfl rfl ?_
    refine q_iload (pc2 := 855) C 0 dL_plays_853 rfl rfl ?_
    refine q_if_ne (tgt := 863) (pc2 := 858) C dL_plays_855 (by decide) rfl (fun h9 => absurd (by decide) h9) (fun _ => ?_)
    refine q_bipush (v := (-101)) (pc2 := 860) C dL_plays_858 (by decide) rfl ?_
    refine q_goto (pc2 := 904) C dL_plays_860 (by decide) ?_
    refine q_istore (lv' := [(11, .int (-101)), (9, .int (nI 0)), (10, .int (nI m828)), (8, .int v), (0, .ref (a 30)), (1, .int (nI 6)), (2, .int y), (3, .ref (a 40)), (4, .ref (a 42)), (5, .ref (a 43)), (6, .ref (a 44)), (7, .ref (a 45))]) (pc2 := 906) C dL_plays_904 (by decide) rfl rfl ?_
    refine q_iconst (v := nI 0) (pc2 := 907) C dL_plays_906 (by decide) rfl ?_
    refine q_istore (lv' := [(12, .int (nI 0)), (11, .int (-101)), (9, .int (nI 0)), (10, .int (nI m828)), (8, .int v), (0, .ref (a 30)), (1, .int (nI 6)), (2, .int y), (3, .ref (a 40)), (4, .ref (a 42)), (5, .ref (a 43)), (6, .ref (a 44)), (7, .ref (a 45))]) (pc2 := 909) C dL_plays_907 (by decide) rfl rfl ?_
    refine q_iload (pc2 := 911) C 0 dL_plays_909 rfl rfl ?_
    refine q_iconst (v := nI 4) (pc2 := 912) C dL_plays_911 (by decide) rfl ?_
    refine q_icmp_ge (tgt := 973) (pc2 := 915) C dL_plays_912 (by decide) rfl (fun h9 => absurd h9 (by decide)) (fun _ => ?_)
    refine q_iload (pc2 := 917) C 1 dL_plays_915 rfl rfl ?_
    refine q_if_lt (tgt := 973) (pc2 := 920) C dL_plays_917 (by decide) rfl (fun _ => ?_) (fun h9 => absurd (by decide) h9)
    refine q_aload_n (pc2 := 974) C 5 dL_plays_973 rfl rfl rfl ?_
    refine q_iconst (v := nI 3) (pc2 := 975) C dL_plays_974 (by decide) rfl ?_
    refine q_iload (pc2 := 977) C 4 dL_plays_975 rfl rfl ?_
    refine q_iload (pc2 := 979) C 3 dL_plays_977 rfl rfl ?_
    refine q_iconst (v := nI 0) (pc2 := 980) C dL_plays_979 (by decide) rfl ?_
    have hM := c_X3_standIn l hl D ct a x n hx0 (by omega) q hx16 (by omega) (v) (nI m828)
    rw [hx0, nI_clamp (show m828 < 2 ^ 31 by omega)] at hM
    refine q_Hno_wT (pc2 := 983) (As := [.ref (a 30), .int (nI 3), .int v, .int (nI m828), .int (nI 0)]) (st := []) (st2 := [.int (-101)]) (c2 := 1) (s2 := 6) C (c_L_set3 l D ct a x _ (v) (nI m828) (nI 0) _ _ hM) (if_neg hv) (by decide +kernel) (vx_cwSW 5 C.w gL_plays_L_set rfl rfl rfl (by decide +kernel) ⟨Nat.le_of_ble_eq_true rfl, Nat.le_of_ble_eq_true rfl⟩) dL_plays_980 rfl rfl (Nat.le_of_ble_eq_true rfl) ⟨Nat.le_of_ble_eq_true rfl, Nat.le_of_ble_eq_true rfl⟩ rfl rfl (hcd3I _) rfl rfl ?_
    refine q_iload (pc2 := 985) C 1 dL_plays_983 rfl rfl ?_
    refine q_icmp_ne (tgt := 992) (pc2 := 988) C dL_plays_985 (by decide) rfl (fun h9 => absurd (by decide) h9) (fun _ => ?_)
    refine q_iconst (v := nI 1) (pc2 := 989) C dL_plays_988 (by decide) rfl ?_
    refine q_goto (pc2 := 993) C dL_plays_989 (by decide) ?_
    exact q_zret C hQ rfl (rfl) (by omega) (by omega) dL_plays_993 ⟨rfl, _, _, _, _, _, _, _, rfl, (RE.mono (Nat.le_add_right M 50) ⟨n, h, q, b, t, kb, K, S, F, V, ht, r⟩)⟩
  refine q_iload_n (pc2 := 1) C 2 dL_plays_0 rfl rfl rfl ?_
  refine q_aload_n (pc2 := 2) C 3 dL_plays_1 rfl rfl rfl ?_
  refine q_iconst (v := nI 3) (pc2 := 3) C dL_plays_2 (by decide) rfl ?_
  refine q_iald (q0 := 26) (f := fc) (pc2 := 4) C 3 (wT_g0 ct a x fc fb fp fq fn fl) rfl (rfl) (by decide) (by decide) dL_plays_3 rfl ?_
  refine q_eqi (y := nI n) (hc3) ?_
  refine q_iconst (v := nI 1) (pc2 := 5) C dL_plays_4 (by decide) rfl ?_
  refine q_iadd (v := nI (n + 1)) (pc2 := 6) C dL_plays_5 (nI_add n 1) rfl ?_
  refine q_some (pc2 := 9) C (v := y) (n + 1) (by omega) (by omega) (va_cwS 2 C.w gL_plays_L_some rfl rfl rfl (by decide +kernel) ⟨Nat.le_of_ble_eq_true rfl, Nat.le_of_ble_eq_true rfl⟩) dL_plays_6 rfl ⟨Nat.le_of_ble_eq_true rfl, Nat.le_of_ble_eq_true rfl⟩ (Nat.le_of_ble_eq_true rfl) (fun m6 hm6 => ?_)
  have hj26 : ∀ e1 : Nat, (e1 ≤ 1) → Cf p l e ({ frames := 9, cells := 2, slots := 12, locals := 162 }) s m args below meth c D A 15 0 0 Q 26 [(0, .ref (a 30)), (1, .int (nI 6)), (2, .int y), (3, .ref (a 40)), (4, .ref (a 42)), (5, .ref (a 43)), (6, .ref (a 44)), (7, .ref (a 45))] [.int (nI e1), .int (nI m6)] (wT ct a x fc fb fp fq fn fl) := by
    intro e1 he1
    rcases pick_lamp hn5 hm6 he1 with ⟨i, hi, ei⟩ | hv
    · skip
      refine q_isub (v := nI i) (pc2 := 27) C dL_plays_26 (ei) rfl ?_
      refine q_istore (lv' := [(8, .int (nI i)), (0, .ref (a 30)), (1, .int (nI 6)), (2, .int y), (3, .ref (a 40)), (4, .ref (a 42)), (5, .ref (a 43)), (6, .ref (a 44)), (7, .ref (a 45))]) (pc2 := 29) C dL_plays_27 (by decide) rfl rfl ?_
      refine q_iload (pc2 := 31) C 0 dL_plays_29 rfl rfl ?_
      refine q_if_lt (tgt := 46) (pc2 := 34) C dL_plays_31 (by decide) rfl (fun h9 => absurd h9 (nI_nlt (a := i) (b := 0) (by omega) (by omega))) (fun _ => ?_)
      refine q_iload (pc2 := 36) C 0 dL_plays_34 rfl rfl ?_
      refine q_aload_n (pc2 := 37) C 4 dL_plays_36 rfl rfl rfl ?_
      refine q_iconst (v := nI 3) (pc2 := 38) C dL_plays_37 (by decide) rfl ?_
      refine q_iald (q0 := 26) (f := fc) (pc2 := 39) C 3 (wT_g0 ct a x fc fb fp fq fn fl) rfl (rfl) (by decide) (by decide) dL_plays_38 rfl ?_
      refine q_eqi (y := nI n) (hc3) ?_
      refine q_icmp_ge (tgt := 46) (pc2 := 42) C dL_plays_39 (by decide) rfl (fun h9 => absurd h9 (nI_ge (a := i) (b := n) (by omega) (by omega))) (fun _ => ?_)
      refine q_iconst (v := nI 1) (pc2 := 43) C dL_plays_42 (by decide) rfl ?_
      refine q_goto (pc2 := 47) C dL_plays_43 (by decide) ?_
      refine q_istore (lv' := [(9, .int (nI 1)), (8, .int (nI i)), (0, .ref (a 30)), (1, .int (nI 6)), (2, .int y), (3, .ref (a 40)), (4, .ref (a 42)), (5, .ref (a 43)), (6, .ref (a 44)), (7, .ref (a 45))]) (pc2 := 49) C dL_plays_47 (by decide) rfl rfl ?_
      exact hA i hi
    · skip
      refine q_isub (v := (nI m6 - nI e1)) (pc2 := 27) C dL_plays_26 (rfl) rfl ?_
      refine q_istore (lv' := [(8, .int (nI m6 - nI e1)), (0, .ref (a 30)), (1, .int (nI 6)), (2, .int y), (3, .ref (a 40)), (4, .ref (a 42)), (5, .ref (a 43)), (6, .ref (a 44)), (7, .ref (a 45))]) (pc2 := 29) C dL_plays_27 (by decide) rfl rfl ?_
      refine q_iload (pc2 := 31) C 0 dL_plays_29 rfl rfl ?_
      refine q_if_lt (tgt := 46) (pc2 := 34) C dL_plays_31 (by decide) rfl (fun c31 => ?_) (fun c31 => ?_)
      · skip
        refine q_iconst (v := nI 0) (pc2 := 47) C dL_plays_46 (by decide) rfl ?_
        refine q_istore (lv' := [(9, .int (nI 0)), (8, .int (nI m6 - nI e1)), (0, .ref (a 30)), (1, .int (nI 6)), (2, .int y), (3, .ref (a 40)), (4, .ref (a 42)), (5, .ref (a 43)), (6, .ref (a 44)), (7, .ref (a 45))]) (pc2 := 49) C dL_plays_47 (by decide) rfl rfl ?_
        exact hB _ hv
      · skip
        refine q_iload (pc2 := 36) C 0 dL_plays_34 rfl rfl ?_
        refine q_aload_n (pc2 := 37) C 4 dL_plays_36 rfl rfl rfl ?_
        refine q_iconst (v := nI 3) (pc2 := 38) C dL_plays_37 (by decide) rfl ?_
        refine q_iald (q0 := 26) (f := fc) (pc2 := 39) C 3 (wT_g0 ct a x fc fb fp fq fn fl) rfl (rfl) (by decide) (by decide) dL_plays_38 rfl ?_
        refine q_eqi (y := nI n) (hc3) ?_
        refine q_icmp_ge (tgt := 46) (pc2 := 42) C dL_plays_39 (by decide) rfl (fun _ => ?_) (fun h9 => absurd (Int32.not_lt.mp (fun z9 => hv ⟨Int32.not_lt.mp c31, z9⟩)) h9)
        refine q_iconst (v := nI 0) (pc2 := 47) C dL_plays_46 (by decide) rfl ?_
        refine q_istore (lv' := [(9, .int (nI 0)), (8, .int (nI m6 - nI e1)), (0, .ref (a 30)), (1, .int (nI 6)), (2, .int y), (3, .ref (a 40)), (4, .ref (a 42)), (5, .ref (a 43)), (6, .ref (a 44)), (7, .ref (a 45))]) (pc2 := 49) C dL_plays_47 (by decide) rfl rfl ?_
        exact hB _ hv
  refine q_iload_n (pc2 := 10) C 2 dL_plays_9 rfl rfl rfl ?_
  refine q_bipush (v := nI 11) (pc2 := 12) C dL_plays_10 (by decide) rfl ?_
  refine q_ishr (v := (y >>> (nI 11 &&& 31))) (pc2 := 13) C dL_plays_12 (rfl) rfl ?_
  refine q_bipush (v := nI 19) (pc2 := 15) C dL_plays_13 (by decide) rfl ?_
  refine q_some (pc2 := 18) C (v := (y >>> (nI 11 &&& 31))) 19 (by omega) (by omega) (va_cwS 2 C.w gL_plays_L_some rfl rfl rfl (by decide +kernel) ⟨Nat.le_of_ble_eq_true rfl, Nat.le_of_ble_eq_true rfl⟩) dL_plays_15 rfl ⟨Nat.le_of_ble_eq_true rfl, Nat.le_of_ble_eq_true rfl⟩ (Nat.le_of_ble_eq_true rfl) (fun m15 hm15 => ?_)
  refine q_if_ne (tgt := 25) (pc2 := 21) C dL_plays_18 (by decide) rfl (fun c18 => ?_) (fun c18 => ?_)
  · skip
    have k18 : m15 ≠ 0 := fun z => c18 ((nI_eq (a := m15) (b := 0) (by omega) (by omega)).mpr z)
    refine q_iconst (v := nI 0) (pc2 := 26) C dL_plays_25 (by decide) rfl ?_
    exact hj26 0 (by omega)
  · skip
    have k18 : m15 = 0 := (nI_eq (a := m15) (b := 0) (by omega) (by omega)).mp (c18)
    refine q_iconst (v := nI 1) (pc2 := 22) C dL_plays_21 (by decide) rfl ?_
    refine q_goto (pc2 := 26) C dL_plays_22 (by decide) ?_
    exact hj26 1 (by omega)

