/-! plays: a colour -/
set_option maxHeartbeats 4000000 in
set_option maxRecDepth 100000 in
theorem c_L_plays_7 (l : Launch) (D : va_G) (ct : Nat → ClassId) (hl : l.stackTraces = false) (a : Nat → Nat) (x : Nat → Nat → Int32) (fc fb fp fq fn fl : Nat → Int32) (y : Int32) (M : Nat) (hM4 : M ≤ 10000) (r0 : RE M x fc fb fp fq fn fl) : qM l yL_plays wsL_plays ({ frames := 9, cells := 2, slots := 12, locals := 162 }) D ct [.ref (a 30), .int (nI 7), .int y, .ref (a 40), .ref (a 42), .ref (a 43), .ref (a 44), .ref (a 45)] (wT ct a x fc fb fp fq fn fl) (pR ct a (M + 50)) 2 12 := by
  refine q_start (ret := some .boolean) (lv := [(0, .ref (a 30)), (1, .int (nI 7)), (2, .int y), (3, .ref (a 40)), (4, .ref (a 42)), (5, .ref (a 43)), (6, .ref (a 44)), (7, .ref (a 45))]) (by decide +kernel) rfl (Nat.le_of_ble_eq_true rfl) rfl ?_
  intro p e s m args below meth c A Q C hQ hnm
  obtain ⟨n, h, q, b, t, kb, K, S, F, V, ht, r⟩ := r0
  obtain ⟨rh, rl, rr, rp, rc, rs, hbq⟩ := id r
  obtain ⟨hlt, hx4, hc0, hkbs, hlen⟩ := id rh
  obtain ⟨hn5, hx0, hc3, hlow, hall, hhigh⟩ := id rl
  obtain ⟨hq4, hx16, hc4, hcue, hfd, hnam, hnaz⟩ := id rc
  obtain ⟨hx22, hc5, hx21, hc7, hc6, hx23, hfl, hlvr, hlev⟩ := id rs
  obtain ⟨hkb2, hx5, hck⟩ := hkbs h hlt
  have hK : ∀ k, k < n → fp k = nI (K k) ∧ K k < 4 := fun k hk => ⟨(hlow k hk).2.1, (hlow k hk).1⟩
  have hb4 : b ≤ 4 := by omega
  have htB : t < 2 ^ 29 := by omega
  have hA : ∀ i, i < n → Cf p l e ({ frames := 9, cells := 2, slots := 12, locals := 162 }) s m args below meth c D A 15 0 0 Q 49 [(9, .int (nI 1)), (8, .int (nI i)), (0, .ref (a 30)), (1, .int (nI 7)), (2, .int y), (3, .ref (a 40)), (4, .ref (a 42)), (5, .ref (a 43)), (6, .ref (a 44)), (7, .ref (a 45))] [] (wT ct a x fc fb fp fq fn fl) := by
    intro i hi
    refine q_iload_n (pc2 := 50) C 3 dL_plays_49 rfl rfl rfl ?_
    refine q_if_ne (tgt := 277) (pc2 := 53) C dL_plays_50 (by decide) rfl (fun _ => ?_) (fun h9 => absurd h9 (by decide))
    refine q_iload_n (pc2 := 278) C 3 dL_plays_277 rfl rfl rfl ?_
    refine q_iconst (v := nI 1) (pc2 := 279) C dL_plays_278 (by decide) rfl ?_
    refine q_icmp_ne (tgt := 431) (pc2 := 282) C dL_plays_279 (by decide) rfl (fun _ => ?_) (fun h9 => absurd h9 (by decide))
    refine q_iload_n (pc2 := 432) C 3 dL_plays_431 rfl rfl rfl ?_
    refine q_iconst (v := nI 2) (pc2 := 433) C dL_plays_432 (by decide) rfl ?_
    refine q_icmp_ne (tgt := 491) (pc2 := 436) C dL_plays_433 (by decide) rfl (fun _ => ?_) (fun h9 => absurd h9 (by decide))
    refine q_iload_n (pc2 := 492) C 3 dL_plays_491 rfl rfl rfl ?_
    refine q_iconst (v := nI 3) (pc2 := 493) C dL_plays_492 (by decide) rfl ?_
    refine q_icmp_ne (tgt := 719) (pc2 := 496) C dL_plays_493 (by decide) rfl (fun _ => ?_) (fun h9 => absurd h9 (by decide))
    refine q_iload_n (pc2 := 720) C 3 dL_plays_719 rfl rfl rfl ?_
    refine q_iconst (v := nI 4) (pc2 := 721) C dL_plays_720 (by decide) rfl ?_
    refine q_icmp_ne (tgt := 748) (pc2 := 724) C dL_plays_721 (by decide) rfl (fun _ => ?_) (fun h9 => absurd h9 (by decide))
    refine q_iload_n (pc2 := 749) C 3 dL_plays_748 rfl rfl rfl ?_
    refine q_iconst (v := nI 5) (pc2 := 750) C dL_plays_749 (by decide) rfl ?_
    refine q_icmp_ne (tgt := 814) (pc2 := 753) C dL_plays_750 (by decide) rfl (fun _ => ?_) (fun h9 => absurd h9 (by decide))
    refine q_iload_n (pc2 := 815) C 3 dL_plays_814 rfl rfl rfl ?_
    refine q_bipush (v := nI 6) (pc2 := 817) C dL_plays_815 (by decide) rfl ?_
    refine q_icmp_ne (tgt := 994) (pc2 := 820) C dL_plays_817 (by decide) rfl (fun _ => ?_) (fun h9 => absurd h9 (by decide))
    have hj1018 : ∀ co : Nat, (co ≤ 21) → Cf p l e ({ frames := 9, cells := 2, slots := 12, locals := 162 }) s m args below meth c D A 15 0 0 Q 1018 [(9, .int (nI 1)), (8, .int (nI i)), (0, .ref (a 30)), (1, .int (nI 7)), (2, .int y), (3, .ref (a 40)), (4, .ref (a 42)), (5, .ref (a 43)), (6, .ref (a 44)), (7, .ref (a 45))] [.int (nI co)] (wT ct a x fc fb fp fq fn fl) := by
      intro co hco
      refine q_istore (lv' := [(10, .int (nI co)), (9, .int (nI 1)), (8, .int (nI i)), (0, .ref (a 30)), (1, .int (nI 7)), (2, .int y), (3, .ref (a 40)), (4, .ref (a 42)), (5, .ref (a 43)), (6, .ref (a 44)), (7, .ref (a 45))]) (pc2 := 1020) C dL_plays_1018 (by decide) rfl rfl ?_
      refine q_iload (pc2 := 1022) C 1 dL_plays_1020 rfl rfl ?_
      refine q_if_ne (tgt := 1030) (pc2 := 1025) C dL_plays_1022 (by decide) rfl (fun _ => ?_) (fun h9 => absurd h9 (by decide))
      refine q_iload (pc2 := 1032) C 0 dL_plays_1030 rfl rfl ?_
      refine q_bipush (v := nI 20) (pc2 := 1034) C dL_plays_1032 (by decide) rfl ?_
      refine q_icmp_le (tgt := 1042) (pc2 := 1037) C dL_plays_1034 (by decide) rfl (fun c1034 => ?_) (fun c1034 => ?_)
      · skip
        have k1034 : co ≤ 20 := (nI_leI (a := co) (b := 20) (by omega) (by omega)).mp c1034
        have hp9 : ¬ fp (5 + i) < 0 := by
          obtain ⟨m9, hm9, w⟩ := (rr.1 i hi).1
          rw [w]; exact nI_pos (by omega)
        refine q_aload (pc2 := 1044) C 7 dL_plays_1042 rfl rfl ?_
        refine q_iconst (v := nI 5) (pc2 := 1045) C dL_plays_1044 (by decide) rfl ?_
        refine q_iload (pc2 := 1047) C 2 dL_plays_1045 rfl rfl ?_
        refine q_iadd (v := nI (5 + i)) (pc2 := 1048) C dL_plays_1047 (nI_add 5 i) rfl ?_
        refine q_iald (q0 := 28) (f := fp) (pc2 := 1049) C (5 + i) (wT_g2 ct a x fc fb fp fq fn fl) rfl (rfl) (by omega) (by decide) dL_plays_1048 rfl ?_
        refine q_istore (lv' := [(11, .int (fp (5 + i))), (10, .int (nI co)), (9, .int (nI 1)), (8, .int (nI i)), (0, .ref (a 30)), (1, .int (nI 7)), (2, .int y), (3, .ref (a 40)), (4, .ref (a 42)), (5, .ref (a 43)), (6, .ref (a 44)), (7, .ref (a 45))]) (pc2 := 1051) C dL_plays_1049 (by decide) rfl rfl ?_
        refine q_iload (pc2 := 1053) C 0 dL_plays_1051 rfl rfl ?_
        refine q_if_lt (tgt := 1074) (pc2 := 1056) C dL_plays_1053 (by decide) rfl (fun h9 => absurd h9 (hp9)) (fun _ => ?_)
        refine q_aload (pc2 := 1058) C 8 dL_plays_1056 rfl rfl ?_
        refine q_iconst (v := nI 5) (pc2 := 1059) C dL_plays_1058 (by decide) rfl ?_
        refine q_iload (pc2 := 1061) C 3 dL_plays_1059 rfl rfl ?_
        refine q_iadd (v := nI (5 + i)) (pc2 := 1062) C dL_plays_1061 (nI_add 5 i) rfl ?_
        refine q_iload (pc2 := 1064) C 1 dL_plays_1062 rfl rfl ?_
        refine q_iast (q0 := 28) (f := fp) (ws' := (wT ct a x fc fb (upd fp (5 + i) (nI co)) fq fn fl)) (pc2 := 1065) C (5 + i) (wT_g2 ct a x fc fb fp fq fn fl) rfl (rfl) (by omega) (by decide) (wT_a2 ct a x fc fb fp fq fn fl (upd fp (5 + i) (nI co))) dL_plays_1064 rfl ?_
        refine q_aload (pc2 := 1067) C 8 dL_plays_1065 rfl rfl ?_
        refine q_bipush (v := nI 35) (pc2 := 1069) C dL_plays_1067 (by decide) rfl ?_
        refine q_iload (pc2 := 1071) C 3 dL_plays_1069 rfl rfl ?_
        refine q_iadd (v := nI (35 + i)) (pc2 := 1072) C dL_plays_1071 (nI_add 35 i) rfl ?_
        refine q_iconst (v := nI 0) (pc2 := 1073) C dL_plays_1072 (by decide) rfl ?_
        refine q_iast (q0 := 28) (f := (upd fp (5 + i) (nI co))) (ws' := (wT ct a x fc fb (upd (upd fp (5 + i) (nI co)) (35 + i) (nI 0)) fq fn fl)) (pc2 := 1074) C (35 + i) (wT_g2 ct a x fc fb (upd fp (5 + i) (nI co)) fq fn fl) rfl (rfl) (by omega) (by decide) (wT_a2 ct a x fc fb (upd fp (5 + i) (nI co)) fq fn fl (upd (upd fp (5 + i) (nI co)) (35 + i) (nI 0))) dL_plays_1073 rfl ?_
        refine q_aload_n (pc2 := 1075) C 4 dL_plays_1074 rfl rfl rfl ?_
        refine q_iconst (v := nI 2) (pc2 := 1076) C dL_plays_1075 (by decide) rfl ?_
        refine q_iload (pc2 := 1078) C 3 dL_plays_1076 rfl rfl ?_
        refine q_iload (pc2 := 1080) C 1 dL_plays_1078 rfl rfl ?_
        refine q_iconst (v := nI 0) (pc2 := 1081) C dL_plays_1080 (by decide) rfl ?_
        have hM := c_X3_colour l hl D ct a x n hx0 (by omega) (nI i) (nI co)
        rw [hx0] at hM
        rw [nI_clamp (show i < 2 ^ 31 by omega)] at hM
        refine q_Hok_wT (pc2 := 1084) (As := [.ref (a 30), .int (nI 2), .int (nI i), .int (nI co), .int (nI 0)]) (st := []) (st2 := [.int (x 1 i)]) (x' := (set2 (set2 x 1 (upd (x 1) i (nI co))) 2 (upd (x 2) i 0))) C (c_L_set2 l D ct a x _ (nI i) (nI co) (nI 0) _ _ hM) (by rw [if_pos (show 0 ≤ nI i ∧ nI i < nI n from ⟨nI_pos' (by omega), nI_lt hi (by omega)⟩), if_pos (show 0 ≤ nI co ∧ nI co ≤ 20 from ⟨nI_pos' (by omega), nI_le (b := 20) (by omega) (by omega)⟩)]) (vx_cwSW 5 C.w gL_plays_L_set rfl rfl rfl (by decide +kernel) ⟨Nat.le_of_ble_eq_true rfl, Nat.le_of_ble_eq_true rfl⟩) dL_plays_1081 rfl rfl (Nat.le_of_ble_eq_true rfl) ⟨Nat.zero_le _, Nat.zero_le _⟩ rfl rfl ?_
        refine q_iload (pc2 := 1086) C 0 dL_plays_1084 rfl rfl ?_
        refine q_icmp_ne (tgt := 1093) (pc2 := 1089) C dL_plays_1086 (by decide) rfl (fun h9 => absurd ((hlow i hi).2.2.2.2.2.1) h9) (fun _ => ?_)
        refine q_iconst (v := nI 1) (pc2 := 1090) C dL_plays_1089 (by decide) rfl ?_
        refine q_goto (pc2 := 1094) C dL_plays_1090 (by decide) ?_
        exact q_zret C hQ rfl (rfl) (Nat.zero_le _) (Nat.zero_le _) dL_plays_1094 ⟨rfl, _, _, _, _, _, _, _, rfl, ⟨n, h, q, b, t, kb, K, S, F, V, Nat.le_trans ht (Nat.le_add_right M 50), st_colour r hi (by omega)⟩⟩
      · skip
        have k1034 : 20 < co := (nI_ltI (a := 20) (b := co) (by omega) (by omega)).mp (Int32.not_le.mp c1034)
        refine q_bipush (v := (-102)) (pc2 := 1039) C dL_plays_1037 (by decide) rfl ?_
        refine q_goto (pc2 := 1049) C dL_plays_1039 (by decide) ?_
        refine q_istore (lv' := [(11, .int (-102)), (10, .int (nI co)), (9, .int (nI 1)), (8, .int (nI i)), (0, .ref (a 30)), (1, .int (nI 7)), (2, .int y), (3, .ref (a 40)), (4, .ref (a 42)), (5, .ref (a 43)), (6, .ref (a 44)), (7, .ref (a 45))]) (pc2 := 1051) C dL_plays_1049 (by decide) rfl rfl ?_
        refine q_iload (pc2 := 1053) C 0 dL_plays_1051 rfl rfl ?_
        refine q_if_lt (tgt := 1074) (pc2 := 1056) C dL_plays_1053 (by decide) rfl (fun _ => ?_) (fun h9 => absurd (by decide) h9)
        refine q_aload_n (pc2 := 1075) C 4 dL_plays_1074 rfl rfl rfl ?_
        refine q_iconst (v := nI 2) (pc2 := 1076) C dL_plays_1075 (by decide) rfl ?_
        refine q_iload (pc2 := 1078) C 3 dL_plays_1076 rfl rfl ?_
        refine q_iload (pc2 := 1080) C 1 dL_plays_1078 rfl rfl ?_
        refine q_iconst (v := nI 0) (pc2 := 1081) C dL_plays_1080 (by decide) rfl ?_
        have hM := c_X3_colour l hl D ct a x n hx0 (by omega) (nI i) (nI co)
        rw [hx0] at hM
        rw [nI_clamp (show i < 2 ^ 31 by omega)] at hM
        refine q_Hno_wT (pc2 := 1084) (As := [.ref (a 30), .int (nI 2), .int (nI i), .int (nI co), .int (nI 0)]) (st := []) (st2 := [.int (-102)]) (c2 := 1) (s2 := 6) C (c_L_set2 l D ct a x _ (nI i) (nI co) (nI 0) _ _ hM) (by rw [if_pos (show 0 ≤ nI i ∧ nI i < nI n from ⟨nI_pos' (by omega), nI_lt hi (by omega)⟩), if_neg (fun z : 0 ≤ nI co ∧ nI co ≤ 20 => absurd z.2 (nI_ge (b := co) (a := 20) (by omega) (by omega)))]) (by decide +kernel) (vx_cwSW 5 C.w gL_plays_L_set rfl rfl rfl (by decide +kernel) ⟨Nat.le_of_ble_eq_true rfl, Nat.le_of_ble_eq_true rfl⟩) dL_plays_1081 rfl rfl (Nat.le_of_ble_eq_true rfl) ⟨Nat.le_of_ble_eq_true rfl, Nat.le_of_ble_eq_true rfl⟩ rfl rfl (hcd3A _) rfl rfl ?_
        refine q_iload (pc2 := 1086) C 0 dL_plays_1084 rfl rfl ?_
        refine q_icmp_ne (tgt := 1093) (pc2 := 1089) C dL_plays_1086 (by decide) rfl (fun h9 => absurd (by decide) h9) (fun _ => ?_)
        refine q_iconst (v := nI 1) (pc2 := 1090) C dL_plays_1089 (by decide) rfl ?_
        refine q_goto (pc2 := 1094) C dL_plays_1090 (by decide) ?_
        exact q_zret C hQ rfl (rfl) (by omega) (by omega) dL_plays_1094 ⟨rfl, _, _, _, _, _, _, _, rfl, (RE.mono (Nat.le_add_right M 50) ⟨n, h, q, b, t, kb, K, S, F, V, ht, r⟩)⟩
    refine q_iload_n (pc2 := 995) C 4 dL_plays_994 rfl rfl rfl ?_
    refine q_iconst (v := nI 3) (pc2 := 996) C dL_plays_995 (by decide) rfl ?_
    refine q_ishr (v := (y >>> (nI 3 &&& 31))) (pc2 := 997) C dL_plays_996 (rfl) rfl ?_
    refine q_bipush (v := nI 20) (pc2 := 999) C dL_plays_997 (by decide) rfl ?_
    refine q_some (pc2 := 1002) C (v := (y >>> (nI 3 &&& 31))) 20 (by omega) (by omega) (va_cwS 2 C.w gL_plays_L_some rfl rfl rfl (by decide +kernel) ⟨Nat.le_of_ble_eq_true rfl, Nat.le_of_ble_eq_true rfl⟩) dL_plays_999 rfl ⟨Nat.le_of_ble_eq_true rfl, Nat.le_of_ble_eq_true rfl⟩ (Nat.le_of_ble_eq_true rfl) (fun m999 hm999 => ?_)
    refine q_if_ne (tgt := 1010) (pc2 := 1005) C dL_plays_1002 (by decide) rfl (fun c1002 => ?_) (fun c1002 => ?_)
    · skip
      have k1002 : m999 ≠ 0 := fun z => c1002 ((nI_eq (a := m999) (b := 0) (by omega) (by omega)).mpr z)
      refine q_iload_n (pc2 := 1011) C 4 dL_plays_1010 rfl rfl rfl ?_
      refine q_iconst (v := nI 3) (pc2 := 1012) C dL_plays_1011 (by decide) rfl ?_
      refine q_ishr (v := (y >>> (nI 3 &&& 31))) (pc2 := 1013) C dL_plays_1012 (rfl) rfl ?_
      refine q_bipush (v := nI 21) (pc2 := 1015) C dL_plays_1013 (by decide) rfl ?_
      refine q_some (pc2 := 1018) C (v := (y >>> (nI 3 &&& 31))) 21 (by omega) (by omega) (va_cwS 2 C.w gL_plays_L_some rfl rfl rfl (by decide +kernel) ⟨Nat.le_of_ble_eq_true rfl, Nat.le_of_ble_eq_true rfl⟩) dL_plays_1015 rfl ⟨Nat.le_of_ble_eq_true rfl, Nat.le_of_ble_eq_true rfl⟩ (Nat.le_of_ble_eq_true rfl) (fun m1015 hm1015 => ?_)
      exact hj1018 m1015 (by omega)
    · skip
      have k1002 : m999 = 0 := (nI_eq (a := m999) (b := 0) (by omega) (by omega)).mp (c1002)
      refine q_bipush (v := nI 21) (pc2 := 1007) C dL_plays_1005 (by decide) rfl ?_
      refine q_goto (pc2 := 1018) C dL_plays_1007 (by decide) ?_
      exact hj1018 21 (by omega)
  have hB : ∀ v : Int32, ¬ (0 ≤ v ∧ v < nI n) → Cf p l e ({ frames := 9, cells := 2, slots := 12, locals := 162 }) s m args below meth c D A 15 0 0 Q 49 [(9, .int (nI 0)), (8, .int v), (0, .ref (a 30)), (1, .int (nI 7)), (2, .int y), (3, .ref (a 40)), (4, .ref (a 42)), (5, .ref (a 43)), (6, .ref (a 44)), (7, .ref (a 45))] [] (wT ct a x fc fb fp fq fn fl) := by
    intro v hv
    refine q_iload_n (pc2 := 50) C 3 dL_plays_49 rfl rfl rfl ?_
    refine q_if_ne (tgt := 277) (pc2 := 53) C dL_plays_50 (by decide) rfl (fun _ => ?_) (fun h9 => absurd h9 (by decide))
    refine q_iload_n (pc2 := 278) C 3 dL_plays_277 rfl rfl rfl ?_
    refine q_iconst (v := nI 1) (pc2 := 279) C dL_plays_278 (by decide) rfl ?_
    refine q_icmp_ne (tgt := 431) (pc2 := 282) C dL_plays_279 (by decide) rfl (fun _ => ?_) (fun h9 => absurd h9 (by decide))
    refine q_iload_n (pc2 := 432) C 3 dL_plays_431 rfl rfl rfl ?_
    refine q_iconst (v := nI 2) (pc2 := 433) C dL_plays_432 (by decide) rfl ?_
    refine q_icmp_ne (tgt := 491) (pc2 := 436) C dL_plays_433 (by decide) rfl (fun _ => ?_) (fun h9 => absurd h9 (by decide))
    refine q_iload_n (pc2 := 492) C 3 dL_plays_491 rfl rfl rfl ?_
    refine q_iconst (v := nI 3) (pc2 := 493) C dL_plays_492 (by decide) rfl ?_
    refine q_icmp_ne (tgt := 719) (pc2 := 496) C dL_plays_493 (by decide) rfl (fun _ => ?_) (fun h9 => absurd h9 (by decide))
    refine q_iload_n (pc2 := 720) C 3 dL_plays_719 rfl rfl rfl ?_
    refine q_iconst (v := nI 4) (pc2 := 721) C dL_plays_720 (by decide) rfl ?_
    refine q_icmp_ne (tgt := 748) (pc2 := 724) C dL_plays_721 (by decide) rfl (fun _ => ?_) (fun h9 => absurd h9 (by decide))
    refine q_iload_n (pc2 := 749) C 3 dL_plays_748 rfl rfl rfl ?_
    refine q_iconst (v := nI 5) (pc2 := 750) C dL_plays_749 (by decide) rfl ?_
    refine q_icmp_ne (tgt := 814) (pc2 := 753) C dL_plays_750 (by decide) rfl (fun _ => ?_) (fun h9 => absurd h9 (by decide))
    refine q_iload_n (pc2 := 815) C 3 dL_plays_814 rfl rfl rfl ?_
    refine q_bipush (v := nI 6) (pc2 := 817) C dL_plays_815 (by decide) rfl ?_
    refine q_icmp_ne (tgt := 994) (pc2 := 820) C dL_plays_817 (by decide) rfl (fun _ => ?_) (fun h9 => absurd h9 (by decide))
    have hj1018 : ∀ co : Nat, (co ≤ 21) → Cf p l e ({ frames := 9, cells := 2, slots := 12, locals := 162 }) s m args below meth c D A 15 0 0 Q 1018 [(9, .int (nI 0)), (8, .int v), (0, .ref (a 30)), (1, .int (nI 7)), (2, .int y), (3, .ref (a 40)), (4, .ref (a 42)), (5, .ref (a 43)), (6, .ref (a 44)), (7, .ref (a 45))] [.int (nI co)] (wT ct a x fc fb fp fq fn fl) := by
      intro co hco
      refine q_istore (lv' := [(10, .int (nI co)), (9, .int (nI 0)), (8, .int v), (0, .ref (a 30)), (1, .int (nI 7)), (2, .int y), (3, .ref (a 40)), (4, .ref (a 42)), (5, .ref (a 43)), (6, .ref (a 44)), (7, .ref (a 45))]) (pc2 := 1020) C dL_plays_1018 (by decide) rfl rfl ?_
      refine q_iload (pc2 := 1022) C 1 dL_plays_1020 rfl rfl ?_
      refine q_if_ne (tgt := 1030) (pc2 := 1025) C dL_plays_1022 (by decide) rfl (fun h9 => absurd (by decide) h9) (fun _ => ?_)
      refine q_bipush (v := (-101)) (pc2 := 1027) C dL_plays_1025 (by decide) rfl ?_
      refine q_goto (pc2 := 1049) C dL_plays_1027 (by decide) ?_
      refine q_istore (lv' := [(11, .int (-101)), (10, .int (nI co)), (9, .int (nI 0)), (8, .int v), (0, .ref (a 30)), (1, .int (nI 7)), (2, .int y), (3, .ref (a 40)), (4, .ref (a 42)), (5, .ref (a 43)), (6, .ref (a 44)), (7, .ref (a 45))]) (pc2 := 1051) C dL_plays_1049 (by decide) rfl rfl ?_
      refine q_iload (pc2 := 1053) C 0 dL_plays_1051 rfl rfl ?_
      refine q_if_lt (tgt := 1074) (pc2 := 1056) C dL_plays_1053 (by decide) rfl (fun _ => ?_) (fun h9 => absurd (by decide) h9)
      refine q_aload_n (pc2 := 1075) C 4 dL_plays_1074 rfl rfl rfl ?_
      refine q_iconst (v := nI 2) (pc2 := 1076) C dL_plays_1075 (by decide) rfl ?_
      refine q_iload (pc2 := 1078) C 3 dL_plays_1076 rfl rfl ?_
      refine q_iload (pc2 := 1080) C 1 dL_plays_1078 rfl rfl ?_
      refine q_iconst (v := nI 0) (pc2 := 1081) C dL_plays_1080 (by decide) rfl ?_
      have hM := c_X3_colour l hl D ct a x n hx0 (by omega) (v) (nI co)
      rw [hx0] at hM
      refine q_Hno_wT (pc2 := 1084) (As := [.ref (a 30), .int (nI 2), .int v, .int (nI co), .int (nI 0)]) (st := []) (st2 := [.int (-101)]) (c2 := 1) (s2 := 6) C (c_L_set2 l D ct a x _ (v) (nI co) (nI 0) _ _ hM) (if_neg hv) (by decide +kernel) (vx_cwSW 5 C.w gL_plays_L_set rfl rfl rfl (by decide +kernel) ⟨Nat.le_of_ble_eq_true rfl, Nat.le_of_ble_eq_true rfl⟩) dL_plays_1081 rfl rfl (Nat.le_of_ble_eq_true rfl) ⟨Nat.le_of_ble_eq_true rfl, Nat.le_of_ble_eq_true rfl⟩ rfl rfl (hcd3I _) rfl rfl ?_
      refine q_iload (pc2 := 1086) C 0 dL_plays_1084 rfl rfl ?_
      refine q_icmp_ne (tgt := 1093) (pc2 := 1089) C dL_plays_1086 (by decide) rfl (fun h9 => absurd (by decide) h9) (fun _ => ?_)
      refine q_iconst (v := nI 1) (pc2 := 1090) C dL_plays_1089 (by decide) rfl ?_
      refine q_goto (pc2 := 1094) C dL_plays_1090 (by decide) ?_
      exact q_zret C hQ rfl (rfl) (by omega) (by omega) dL_plays_1094 ⟨rfl, _, _, _, _, _, _, _, rfl, (RE.mono (Nat.le_add_right M 50) ⟨n, h, q, b, t, kb, K, S, F, V, ht, r⟩)⟩
    refine q_iload_n (pc2 := 995) C 4 dL_plays_994 rfl rfl rfl ?_
    refine q_iconst (v := nI 3) (pc2 := 996) C dL_plays_995 (by decide) rfl ?_
    refine q_ishr (v := (y >>> (nI 3 &&& 31))) (pc2 := 997) C dL_plays_996 (rfl) rfl ?_
    refine q_bipush (v := nI 20) (pc2 := 999) C dL_plays_997 (by decide) rfl ?_
    refine q_some (pc2 := 1002) C (v := (y >>> (nI 3 &&& 31))) 20 (by omega) (by omega) (va_cwS 2 C.w gL_plays_L_some rfl rfl rfl (by decide +kernel) ⟨Nat.le_of_ble_eq_true rfl, Nat.le_of_ble_eq_true rfl⟩) dL_plays_999 rfl ⟨Nat.le_of_ble_eq_true rfl, Nat.le_of_ble_eq_true rfl⟩ (Nat.le_of_ble_eq_true rfl) (fun m999 hm999 => ?_)
    refine q_if_ne (tgt := 1010) (pc2 := 1005) C dL_plays_1002 (by decide) rfl (fun c1002 => ?_) (fun c1002 => ?_)
    · skip
      have k1002 : m999 ≠ 0 := fun z => c1002 ((nI_eq (a := m999) (b := 0) (by omega) (by omega)).mpr z)
      refine q_iload_n (pc2 := 1011) C 4 dL_plays_1010 rfl rfl rfl ?_
      refine q_iconst (v := nI 3) (pc2 := 1012) C dL_plays_1011 (by decide) rfl ?_
      refine q_ishr (v := (y >>> (nI 3 &&& 31))) (pc2 := 1013) C dL_plays_1012 (rfl) rfl ?_
      refine q_bipush (v := nI 21) (pc2 := 1015) C dL_plays_1013 (by decide) rfl ?_
      refine q_some (pc2 := 1018) C (v := (y >>> (nI 3 &&& 31))) 21 (by omega) (by omega) (va_cwS 2 C.w gL_plays_L_some rfl rfl rfl (by decide +kernel) ⟨Nat.le_of_ble_eq_true rfl, Nat.le_of_ble_eq_true rfl⟩) dL_plays_1015 rfl ⟨Nat.le_of_ble_eq_true rfl, Nat.le_of_ble_eq_true rfl⟩ (Nat.le_of_ble_eq_true rfl) (fun m1015 hm1015 => ?_)
      exact hj1018 m1015 (by omega)
    · skip
      have k1002 : m999 = 0 := (nI_eq (a := m999) (b := 0) (by omega) (by omega)).mp (c1002)
      refine q_bipush (v := nI 21) (pc2 := 1007) C dL_plays_1005 (by decide) rfl ?_
      refine q_goto (pc2 := 1018) C dL_plays_1007 (by decide) ?_
      exact hj1018 21 (by omega)
  refine q_iload_n (pc2 := 1) C 2 dL_plays_0 rfl rfl rfl ?_
  refine q_aload_n (pc2 := 2) C 3 dL_plays_1 rfl rfl rfl ?_
  refine q_iconst (v := nI 3) (pc2 := 3) C dL_plays_2 (by decide) rfl ?_
  refine q_iald (q0 := 26) (f := fc) (pc2 := 4) C 3 (wT_g0 ct a x fc fb fp fq fn fl) rfl (rfl) (by decide) (by decide) dL_plays_3 rfl ?_
  refine q_eqi (y := nI n) (hc3) ?_
  refine q_iconst (v := nI 1) (pc2 := 5) C dL_plays_4 (by decide) rfl ?_
  refine q_iadd (v := nI (n + 1)) (pc2 := 6) C dL_plays_5 (nI_add n 1) rfl ?_
  refine q_some (pc2 := 9) C (v := y) (n + 1) (by omega) (by omega) (va_cwS 2 C.w gL_plays_L_some rfl rfl rfl (by decide +kernel) ⟨Nat.le_of_ble_eq_true rfl, Nat.le_of_ble_eq_true rfl⟩) dL_plays_6 rfl ⟨Nat.le_of_ble_eq_true rfl, Nat.le_of_ble_eq_true rfl⟩ (Nat.le_of_ble_eq_true rfl) (fun m6 hm6 => ?_)
  have hj26 : ∀ e1 : Nat, (e1 ≤ 1) → Cf p l e ({ frames := 9, cells := 2, slots := 12, locals := 162 }) s m args below meth c D A 15 0 0 Q 26 [(0, .ref (a 30)), (1, .int (nI 7)), (2, .int y), (3, .ref (a 40)), (4, .ref (a 42)), (5, .ref (a 43)), (6, .ref (a 44)), (7, .ref (a 45))] [.int (nI e1), .int (nI m6)] (wT ct a x fc fb fp fq fn fl) := by
    intro e1 he1
    rcases pick_lamp hn5 hm6 he1 with ⟨i, hi, ei⟩ | hv
    · skip
      refine q_isub (v := nI i) (pc2 := 27) C dL_plays_26 (ei) rfl ?_
      refine q_istore (lv' := [(8, .int (nI i)), (0, .ref (a 30)), (1, .int (nI 7)), (2, .int y), (3, .ref (a 40)), (4, .ref (a 42)), (5, .ref (a 43)), (6, .ref (a 44)), (7, .ref (a 45))]) (pc2 := 29) C dL_plays_27 (by decide) rfl rfl ?_
      refine q_iload (pc2 := 31) C 0 dL_plays_29 rfl rfl ?_
      refine q_if_lt (tgt := 46) (pc2 := 34) C dL_plays_31 (by decide) rfl (fun h9 => absurd h9 (nI_nlt (a := i) (b := 0) (by omega) (by omega))) (fun _ => ?_)
      refine q_iload (pc2 := 36) C 0 dL_plays_34 rfl rfl ?_
      refine q_aload_n (pc2 := 37) C 4 dL_plays_36 rfl rfl rfl ?_
      refine q_iconst (v := nI 3) (pc2 := 38) C dL_plays_37 (by decide) rfl ?_
      refine q_iald (q0 := 26) (f := fc) (pc2 := 39) C 3 (wT_g0 ct a x fc fb fp fq fn fl) rfl (rfl) (by decide) (by decide) dL_plays_38 rfl ?_
      refine q_eqi (y := nI n) (hc3) ?_
      refine q_icmp_ge (tgt := 46) (pc2 := 42) C dL_plays_39 (by decide) rfl (fun h9 => absurd h9 (nI_ge (a := i) (b := n) (by omega) (by omega))) (fun _ => ?_)
      refine q_iconst (v := nI 1) (pc2 := 43) C dL_plays_42 (by decide) rfl ?_
      refine q_goto (pc2 := 47) C dL_plays_43 (by decide) ?_
      refine q_istore (lv' := [(9, .int (nI 1)), (8, .int (nI i)), (0, .ref (a 30)), (1, .int (nI 7)), (2, .int y), (3, .ref (a 40)), (4, .ref (a 42)), (5, .ref (a 43)), (6, .ref (a 44)), (7, .ref (a 45))]) (pc2 := 49) C dL_plays_47 (by decide) rfl rfl ?_
      exact hA i hi
    · skip
      refine q_isub (v := (nI m6 - nI e1)) (pc2 := 27) C dL_plays_26 (rfl) rfl ?_
      refine q_istore (lv' := [(8, .int (nI m6 - nI e1)), (0, .ref (a 30)), (1, .int (nI 7)), (2, .int y), (3, .ref (a 40)), (4, .ref (a 42)), (5, .ref (a 43)), (6, .ref (a 44)), (7, .ref (a 45))]) (pc2 := 29) C dL_plays_27 (by decide) rfl rfl ?_
      refine q_iload (pc2 := 31) C 0 dL_plays_29 rfl rfl ?_
      refine q_if_lt (tgt := 46) (pc2 := 34) C dL_plays_31 (by decide) rfl (fun c31 => ?_) (fun c31 => ?_)
      · skip
        refine q_iconst (v := nI 0) (pc2 := 47) C dL_plays_46 (by decide) rfl ?_
        refine q_istore (lv' := [(9, .int (nI 0)), (8, .int (nI m6 - nI e1)), (0, .ref (a 30)), (1, .int (nI 7)), (2, .int y), (3, .ref (a 40)), (4, .ref (a 42)), (5, .ref (a 43)), (6, .ref (a 44)), (7, .ref (a 45))]) (pc2 := 49) C dL_plays_47 (by decide) rfl rfl ?_
        exact hB _ hv
      · skip
        refine q_iload (pc2 := 36) C 0 dL_plays_34 rfl rfl ?_
        refine q_aload_n (pc2 := 37) C 4 dL_plays_36 rfl rfl rfl ?_
        refine q_iconst (v := nI 3) (pc2 := 38) C dL_plays_37 (by decide) rfl ?_
        refine q_iald (q0 := 26) (f := fc) (pc2 := 39) C 3 (wT_g0 ct a x fc fb fp fq fn fl) rfl (rfl) (by decide) (by decide) dL_plays_38 rfl ?_
        refine q_eqi (y := nI n) (hc3) ?_
        refine q_icmp_ge (tgt := 46) (pc2 := 42) C dL_plays_39 (by decide) rfl (fun _ => ?_) (fun h9 => absurd (Int32.not_lt.mp (fun z9 => hv ⟨Int32.not_lt.mp c31, z9⟩)) h9)
        refine q_iconst (v := nI 0) (pc2 := 47) C dL_plays_46 (by decide) rfl ?_
        refine q_istore (lv' := [(9, .int (nI 0)), (8, .int (nI m6 - nI e1)), (0, .ref (a 30)), (1, .int (nI 7)), (2, .int y), (3, .ref (a 40)), (4, .ref (a 42)), (5, .ref (a 43)), (6, .ref (a 44)), (7, .ref (a 45))]) (pc2 := 49) C dL_plays_47 (by decide) rfl rfl ?_
        exact hB _ hv
  refine q_iload_n (pc2 := 10) C 2 dL_plays_9 rfl rfl rfl ?_
  refine q_bipush (v := nI 11) (pc2 := 12) C dL_plays_10 (by decide) rfl ?_
  refine q_ishr (v := (y >>> (nI 11 &&& 31))) (pc2 := 13) C dL_plays_12 (rfl) rfl ?_
  refine q_bipush (v := nI 19) (pc2 := 15) C dL_plays_13 (by decide) rfl ?_
  refine q_some (pc2 := 18) C (v := (y >>> (nI 11 &&& 31))) 19 (by omega) (by omega) (va_cwS 2 C.w gL_plays_L_some rfl rfl rfl (by decide +kernel) ⟨Nat.le_of_ble_eq_true rfl, Nat.le_of_ble_eq_true rfl⟩) dL_plays_15 rfl ⟨Nat.le_of_ble_eq_true rfl, Nat.le_of_ble_eq_true rfl⟩ (Nat.le_of_ble_eq_true rfl) (fun m15 hm15 => ?_)
  refine q_if_ne (tgt := 25) (pc2 := 21) C dL_plays_18 (by decide) rfl (fun c18 => ?_) (fun c18 => ?_)
  · skip
    have k18 : m15 ≠ 0 := fun z => c18 ((nI_eq (a := m15) (b := 0) (by omega) (by omega)).mpr z)
    refine q_iconst (v := nI 0) (pc2 := 26) C dL_plays_25 (by decide) rfl ?_
    exact hj26 0 (by omega)
  · skip
    have k18 : m15 = 0 := (nI_eq (a := m15) (b := 0) (by omega) (by omega)).mp (c18)
    refine q_iconst (v := nI 1) (pc2 := 22) C dL_plays_21 (by decide) rfl ?_
    refine q_goto (pc2 := 26) C dL_plays_22 (by decide) ?_
    exact hj26 1 (by omega)

