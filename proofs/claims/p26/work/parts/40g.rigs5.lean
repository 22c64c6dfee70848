/-! rigs: an address -/
set_option maxHeartbeats 4000000 in
set_option maxRecDepth 100000 in
theorem c_L_rigs_5 (l : Launch) (D : va_G) (ct : Nat → ClassId) (hl : l.stackTraces = false) (a : Nat → Nat) (x : Nat → Nat → Int32) (fc fb fp fq fn fl : Nat → Int32) (y : Int32) (M : Nat) (r0 : RE M x fc fb fp fq fn fl) : qM l yL_rigs wsL_rigs ({ frames := 9, cells := 2, slots := 12, locals := 162 }) D ct [.ref (a 30), .int (nI 5), .int y, .ref (a 40), .ref (a 41), .ref (a 42)] (wT ct a x fc fb fp fq fn fl) (pR ct a (M + 50)) 2 12 := by
  refine q_start (ret := some .boolean) (lv := [(0, .ref (a 30)), (1, .int (nI 5)), (2, .int y), (3, .ref (a 40)), (4, .ref (a 41)), (5, .ref (a 42))]) (by decide +kernel) rfl (Nat.le_of_ble_eq_true rfl) rfl ?_
  intro p e s m args below meth c A Q C hQ hnm
  obtain ⟨n, h, q, b, t, kb, K, S, F, V, ht, r⟩ := r0
  obtain ⟨rh, rl, rr, rp, rc, rs, hbq⟩ := id r
  obtain ⟨hlt, hx4, hc0, hkbs, hlen⟩ := id rh
  obtain ⟨hn5, hx0, hc3, hlow, hall, hhigh⟩ := id rl
  obtain ⟨hq4, hx16, hc4, hcue, hfd, hnam, hnaz⟩ := id rc
  obtain ⟨hx22, hc5, hx21, hc7, hc6, hx23, hfl, hlvr, hlev⟩ := id rs
  obtain ⟨hkb2, hx5, hck⟩ := hkbs h hlt
  have hK : ∀ k, k < n → fp k = nI (K k) ∧ K k < 4 := fun k hk => ⟨(hlow k hk).2.1, (hlow k hk).1⟩
  have hb4 : b ≤ 4 := by omega
  have hA : ∀ i, i < n → Cf p l e ({ frames := 9, cells := 2, slots := 12, locals := 162 }) s m args below meth c D A 14 0 0 Q 49 [(7, .int (nI 1)), (6, .int (nI i)), (0, .ref (a 30)), (1, .int (nI 5)), (2, .int y), (3, .ref (a 40)), (4, .ref (a 41)), (5, .ref (a 42))] [] (wT ct a x fc fb fp fq fn fl) := by
    intro i hi
    refine q_iload_n (pc2 := 50) C 3 dL_rigs_49 rfl rfl rfl ?_
    refine q_if_ne (tgt := 267) (pc2 := 53) C dL_rigs_50 (by decide) rfl (fun _ => ?_) (fun h9 => absurd h9 (by decide))
    refine q_iload_n (pc2 := 268) C 3 dL_rigs_267 rfl rfl rfl ?_
    refine q_iconst (v := nI 1) (pc2 := 269) C dL_rigs_268 (by decide) rfl ?_
    refine q_icmp_ne (tgt := 448) (pc2 := 272) C dL_rigs_269 (by decide) rfl (fun _ => ?_) (fun h9 => absurd h9 (by decide))
    refine q_iload_n (pc2 := 449) C 3 dL_rigs_448 rfl rfl rfl ?_
    refine q_iconst (v := nI 2) (pc2 := 450) C dL_rigs_449 (by decide) rfl ?_
    refine q_icmp_ne (tgt := 628) (pc2 := 453) C dL_rigs_450 (by decide) rfl (fun _ => ?_) (fun h9 => absurd h9 (by decide))
    refine q_iload_n (pc2 := 629) C 3 dL_rigs_628 rfl rfl rfl ?_
    refine q_iconst (v := nI 3) (pc2 := 630) C dL_rigs_629 (by decide) rfl ?_
    refine q_icmp_ne (tgt := 694) (pc2 := 633) C dL_rigs_630 (by decide) rfl (fun _ => ?_) (fun h9 => absurd h9 (by decide))
    refine q_iload_n (pc2 := 695) C 3 dL_rigs_694 rfl rfl rfl ?_
    refine q_iconst (v := nI 4) (pc2 := 696) C dL_rigs_695 (by decide) rfl ?_
    refine q_icmp_ne (tgt := 967) (pc2 := 699) C dL_rigs_696 (by decide) rfl (fun _ => ?_) (fun h9 => absurd h9 (by decide))
    refine q_iload_n (pc2 := 968) C 3 dL_rigs_967 rfl rfl rfl ?_
    refine q_iconst (v := nI 5) (pc2 := 969) C dL_rigs_968 (by decide) rfl ?_
    refine q_icmp_ne (tgt := 1190) (pc2 := 972) C dL_rigs_969 (by decide) rfl (fun h9 => absurd (by decide) h9) (fun _ => ?_)
    have hj1010 : ∀ f0 : Int32, (f0 = -1 ∨ ∃ m, m ≤ 100 ∧ f0 = nI m) → Cf p l e ({ frames := 9, cells := 2, slots := 12, locals := 162 }) s m args below meth c D A 14 0 0 Q 1010 [(7, .int (nI 1)), (6, .int (nI i)), (0, .ref (a 30)), (1, .int (nI 5)), (2, .int y), (3, .ref (a 40)), (4, .ref (a 41)), (5, .ref (a 42))] [.int f0] (wT ct a x fc fb fp fq fn fl) := by
      intro f0 hf0
      refine q_istore (lv' := [(8, .int f0), (7, .int (nI 1)), (6, .int (nI i)), (0, .ref (a 30)), (1, .int (nI 5)), (2, .int y), (3, .ref (a 40)), (4, .ref (a 41)), (5, .ref (a 42))]) (pc2 := 1012) C dL_rigs_1010 (by decide) rfl rfl ?_
      refine q_iload (pc2 := 1014) C 1 dL_rigs_1012 rfl rfl ?_
      refine q_if_ne (tgt := 1022) (pc2 := 1017) C dL_rigs_1014 (by decide) rfl (fun _ => ?_) (fun h9 => absurd h9 (by decide))
      refine q_iload (pc2 := 1024) C 0 dL_rigs_1022 rfl rfl ?_
      refine q_bipush (v := nI 100) (pc2 := 1026) C dL_rigs_1024 (by decide) rfl ?_
      refine q_aload (pc2 := 1028) C 8 dL_rigs_1026 rfl rfl ?_
      refine q_iload (pc2 := 1030) C 2 dL_rigs_1028 rfl rfl ?_
      refine q_iald (q0 := 28) (f := fp) (pc2 := 1031) C i (wT_g2 ct a x fc fb fp fq fn fl) rfl (rfl) (by omega) (by decide) dL_rigs_1030 rfl ?_
      refine q_eqi (y := nI (K i)) ((hK i hi).1) ?_
      refine q_s0 (pc2 := 1034) (As := [.int (nI (K i))]) (st := [.int (nI 100), .int f0]) (st2 := [.int (nI (hsN (K i))), .int (nI 100), .int f0]) C (c_L_has l D ct (K i) (hK i hi).2) (va_cwS 1 C.w gL_rigs_L_has rfl rfl rfl (by decide +kernel) ⟨Nat.le_of_ble_eq_true rfl, Nat.le_of_ble_eq_true rfl⟩) dL_rigs_1031 rfl rfl (Nat.le_of_ble_eq_true rfl) ⟨Nat.zero_le _, Nat.zero_le _⟩ rfl rfl ?_
      refine q_isub (v := nI (100 - hsN (K i))) (pc2 := 1035) C dL_rigs_1034 (pk_sub (by have := hsN_le (K i); omega)) rfl ?_
      refine q_icmp_le (tgt := 1043) (pc2 := 1038) C dL_rigs_1035 (by decide) rfl (fun c1035 => ?_) (fun c1035 => ?_)
      · skip
        refine q_iconst (v := nI 0) (pc2 := 1044) C dL_rigs_1043 (by decide) rfl ?_
        refine q_istore (lv' := [(9, .int (nI 0)), (8, .int f0), (7, .int (nI 1)), (6, .int (nI i)), (0, .ref (a 30)), (1, .int (nI 5)), (2, .int y), (3, .ref (a 40)), (4, .ref (a 41)), (5, .ref (a 42))]) (pc2 := 1046) C dL_rigs_1044 (by decide) rfl rfl ?_
        refine q_iload (pc2 := 1048) C 0 dL_rigs_1046 rfl rfl ?_
        refine q_if_ne (tgt := 1169) (pc2 := 1051) C dL_rigs_1048 (by decide) rfl (fun h9 => absurd (by decide) h9) (fun _ => ?_)
        have hf2 : f0 = -1 ∨ ∃ m, m + hsN (K i) ≤ 100 ∧ f0 = nI m := by
          rcases hf0 with w | ⟨m, hm, w⟩
          · exact Or.inl w
          · rw [w] at c1035; have h9 := (nI_leI (by omega) (by omega)).mp c1035; have := hsN_le (K i); exact Or.inr ⟨m, by omega, w⟩
        have st9 := st_patch r hi hf2
        refine q_aload (pc2 := 1053) C 9 dL_rigs_1051 rfl rfl ?_
        refine q_bipush (v := nI 20) (pc2 := 1055) C dL_rigs_1053 (by decide) rfl ?_
        refine q_iload (pc2 := 1057) C 3 dL_rigs_1055 rfl rfl ?_
        refine q_iadd (v := nI (20 + i)) (pc2 := 1058) C dL_rigs_1057 (nI_add 20 i) rfl ?_
        refine q_iload (pc2 := 1060) C 1 dL_rigs_1058 rfl rfl ?_
        refine q_iast (q0 := 28) (f := fp) (ws' := (wT ct a x fc fb (upd fp (20 + i) f0) fq fn fl)) (pc2 := 1061) C (20 + i) (wT_g2 ct a x fc fb fp fq fn fl) rfl (rfl) (by omega) (by decide) (wT_a2 ct a x fc fb fp fq fn fl (upd fp (20 + i) f0)) dL_rigs_1060 rfl ?_
        refine q_iconst (v := nI 0) (pc2 := 1062) C dL_rigs_1061 (by decide) rfl ?_
        refine q_istore (lv' := [(10, .int (nI 0)), (9, .int (nI 0)), (8, .int f0), (7, .int (nI 1)), (6, .int (nI i)), (0, .ref (a 30)), (1, .int (nI 5)), (2, .int y), (3, .ref (a 40)), (4, .ref (a 41)), (5, .ref (a 42))]) (pc2 := 1064) C dL_rigs_1062 (by decide) rfl rfl ?_
        refine q_lv (lv' := [(10, .int (nI 0)), (9, .int (nI 0)), (8, .int f0), (7, .int (nI 1)), (6, .int (nI i)), (5, .ref (a 42)), (4, .ref (a 41)), (3, .ref (a 40)), (2, .int y), (1, .int (nI 5)), (0, .ref (a 30))]) [0, 1, 2, 3, 4, 10, 9, 8, 7, 6, 5] rfl ?_
        refine q_eql (lv' := [(10, .int (nI 0)), (9, .int (sumf (fun k9 => if 1 < hld (upd fp (20 + i) f0) K n k9 then 1 else 0) 0)), (8, .int f0), (7, .int (nI 1)), (6, .int (nI i)), (5, .ref (a 42)), (4, .ref (a 41)), (3, .ref (a 40)), (2, .int y), (1, .int (nI 5)), (0, .ref (a 30))]) (rfl) ?_
        refine (lp_up (P := fun d8 => Cf p l e ({ frames := 9, cells := 2, slots := 12, locals := 162 }) s m args below meth c D A 14 0 0 Q 1064 [(10, .int (nI d8)), (9, .int (sumf (fun k9 => if 1 < hld (upd fp (20 + i) f0) K n k9 then 1 else 0) d8)), (8, .int f0), (7, .int (nI 1)), (6, .int (nI i)), (5, .ref (a 42)), (4, .ref (a 41)), (3, .ref (a 40)), (2, .int y), (1, .int (nI 5)), (0, .ref (a 30))] [] (wT ct a x fc fb (upd fp (20 + i) f0) fq fn fl)) 100 (fun d8 hd8 ihd8 => ?_) ?_ : Cf p l e ({ frames := 9, cells := 2, slots := 12, locals := 162 }) s m args below meth c D A 14 0 0 Q 1064 [(10, .int (nI 0)), (9, .int (sumf (fun k9 => if 1 < hld (upd fp (20 + i) f0) K n k9 then 1 else 0) 0)), (8, .int f0), (7, .int (nI 1)), (6, .int (nI i)), (5, .ref (a 42)), (4, .ref (a 41)), (3, .ref (a 40)), (2, .int y), (1, .int (nI 5)), (0, .ref (a 30))] [] (wT ct a x fc fb (upd fp (20 + i) f0) fq fn fl))
        · skip
          refine q_iload (pc2 := 1066) C 0 dL_rigs_1064 rfl rfl ?_
          refine q_bipush (v := nI 100) (pc2 := 1068) C dL_rigs_1066 (by decide) rfl ?_
          refine q_icmp_ge (tgt := 1169) (pc2 := 1071) C dL_rigs_1068 (by decide) rfl (fun h9 => absurd h9 (nI_ge (a := d8) (b := 100) (by omega) (by omega))) (fun _ => ?_)
          refine q_iconst (v := nI 0) (pc2 := 1072) C dL_rigs_1071 (by decide) rfl ?_
          refine q_istore (lv' := [(11, .int (nI 0)), (10, .int (nI d8)), (9, .int (sumf (fun k9 => if 1 < hld (upd fp (20 + i) f0) K n k9 then 1 else 0) d8)), (8, .int f0), (7, .int (nI 1)), (6, .int (nI i)), (5, .ref (a 42)), (4, .ref (a 41)), (3, .ref (a 40)), (2, .int y), (1, .int (nI 5)), (0, .ref (a 30))]) (pc2 := 1074) C dL_rigs_1072 (by decide) rfl rfl ?_
          refine q_iconst (v := nI 0) (pc2 := 1075) C dL_rigs_1074 (by decide) rfl ?_
          refine q_istore (lv' := [(12, .int (nI 0)), (11, .int (nI 0)), (10, .int (nI d8)), (9, .int (sumf (fun k9 => if 1 < hld (upd fp (20 + i) f0) K n k9 then 1 else 0) d8)), (8, .int f0), (7, .int (nI 1)), (6, .int (nI i)), (5, .ref (a 42)), (4, .ref (a 41)), (3, .ref (a 40)), (2, .int y), (1, .int (nI 5)), (0, .ref (a 30))]) (pc2 := 1077) C dL_rigs_1075 (by decide) rfl rfl ?_
          refine q_eql (lv' := [(12, .int (nI 0)), (11, .int (sumf (fun j9 => if holds (upd fp (20 + i) f0) K d8 j9 then 1 else 0) 0)), (10, .int (nI d8)), (9, .int (sumf (fun k9 => if 1 < hld (upd fp (20 + i) f0) K n k9 then 1 else 0) d8)), (8, .int f0), (7, .int (nI 1)), (6, .int (nI i)), (5, .ref (a 42)), (4, .ref (a 41)), (3, .ref (a 40)), (2, .int y), (1, .int (nI 5)), (0, .ref (a 30))]) (rfl) ?_
          refine (lp_up (P := fun k8 => Cf p l e ({ frames := 9, cells := 2, slots := 12, locals := 162 }) s m args below meth c D A 14 0 0 Q 1077 [(12, .int (nI k8)), (11, .int (sumf (fun j9 => if holds (upd fp (20 + i) f0) K d8 j9 then 1 else 0) k8)), (10, .int (nI d8)), (9, .int (sumf (fun k9 => if 1 < hld (upd fp (20 + i) f0) K n k9 then 1 else 0) d8)), (8, .int f0), (7, .int (nI 1)), (6, .int (nI i)), (5, .ref (a 42)), (4, .ref (a 41)), (3, .ref (a 40)), (2, .int y), (1, .int (nI 5)), (0, .ref (a 30))] [] (wT ct a x fc fb (upd fp (20 + i) f0) fq fn fl)) n (fun k8 hk8 ihk8 => ?_) ?_ : Cf p l e ({ frames := 9, cells := 2, slots := 12, locals := 162 }) s m args below meth c D A 14 0 0 Q 1077 [(12, .int (nI 0)), (11, .int (sumf (fun j9 => if holds (upd fp (20 + i) f0) K d8 j9 then 1 else 0) 0)), (10, .int (nI d8)), (9, .int (sumf (fun k9 => if 1 < hld (upd fp (20 + i) f0) K n k9 then 1 else 0) d8)), (8, .int f0), (7, .int (nI 1)), (6, .int (nI i)), (5, .ref (a 42)), (4, .ref (a 41)), (3, .ref (a 40)), (2, .int y), (1, .int (nI 5)), (0, .ref (a 30))] [] (wT ct a x fc fb (upd fp (20 + i) f0) fq fn fl))
          · skip
            refine q_iload (pc2 := 1079) C 0 dL_rigs_1077 rfl rfl ?_
            refine q_aload_n (pc2 := 1080) C 9 dL_rigs_1079 rfl rfl rfl ?_
            refine q_iconst (v := nI 3) (pc2 := 1081) C dL_rigs_1080 (by decide) rfl ?_
            refine q_iald (q0 := 26) (f := fc) (pc2 := 1082) C 3 (wT_g0 ct a x fc fb (upd fp (20 + i) f0) fq fn fl) rfl (rfl) (by decide) (by decide) dL_rigs_1081 rfl ?_
            refine q_eqi (y := nI n) (hc3) ?_
            refine q_icmp_ge (tgt := 1147) (pc2 := 1085) C dL_rigs_1082 (by decide) rfl (fun h9 => absurd h9 (nI_ge (a := k8) (b := n) (by omega) (by omega))) (fun _ => ?_)
            refine q_iload (pc2 := 1087) C 1 dL_rigs_1085 rfl rfl ?_
            refine q_aload (pc2 := 1089) C 7 dL_rigs_1087 rfl rfl ?_
            refine q_bipush (v := nI 20) (pc2 := 1091) C dL_rigs_1089 (by decide) rfl ?_
            refine q_iload (pc2 := 1093) C 0 dL_rigs_1091 rfl rfl ?_
            refine q_iadd (v := nI (20 + k8)) (pc2 := 1094) C dL_rigs_1093 (nI_add 20 k8) rfl ?_
            refine q_iald (q0 := 28) (f := (upd fp (20 + i) f0)) (pc2 := 1095) C (20 + k8) (wT_g2 ct a x fc fb (upd fp (20 + i) f0) fq fn fl) rfl (rfl) (by omega) (by decide) dL_rigs_1094 rfl ?_
            refine q_if_lt (tgt := 1137) (pc2 := 1098) C dL_rigs_1095 (by decide) rfl (fun c1095 => ?_) (fun c1095 => ?_)
            · skip
              refine q_iconst (v := nI 0) (pc2 := 1138) C dL_rigs_1137 (by decide) rfl ?_
              refine q_iadd (v := (sumf (fun j9 => if holds (upd fp (20 + i) f0) K d8 j9 then 1 else 0) (k8 + 1))) (pc2 := 1139) C dL_rigs_1138 (by rw [sumf_s, if_neg (fun z : holds (upd fp (20 + i) f0) K d8 k8 => absurd z.1 (Int32.not_le.mpr c1095))]; rfl) rfl ?_
              refine q_istore (lv' := [(11, .int (sumf (fun j9 => if holds (upd fp (20 + i) f0) K d8 j9 then 1 else 0) (k8 + 1))), (12, .int (nI k8)), (10, .int (nI d8)), (9, .int (sumf (fun k9 => if 1 < hld (upd fp (20 + i) f0) K n k9 then 1 else 0) d8)), (8, .int f0), (7, .int (nI 1)), (6, .int (nI i)), (5, .ref (a 42)), (4, .ref (a 41)), (3, .ref (a 40)), (2, .int y), (1, .int (nI 5)), (0, .ref (a 30))]) (pc2 := 1141) C dL_rigs_1139 (by decide) rfl rfl ?_
              refine q_iinc (v := nI (k8 + 1)) (lv' := [(12, .int (nI (k8 + 1))), (11, .int (sumf (fun j9 => if holds (upd fp (20 + i) f0) K d8 j9 then 1 else 0) (k8 + 1))), (10, .int (nI d8)), (9, .int (sumf (fun k9 => if 1 < hld (upd fp (20 + i) f0) K n k9 then 1 else 0) d8)), (8, .int f0), (7, .int (nI 1)), (6, .int (nI i)), (5, .ref (a 42)), (4, .ref (a 41)), (3, .ref (a 40)), (2, .int y), (1, .int (nI 5)), (0, .ref (a 30))]) (pc2 := 1144) C 1 dL_rigs_1141 rfl (show nI k8 + Int32.ofInt 1 = nI (k8 + 1) by rw [show Int32.ofInt 1 = nI 1 from by decide]; exact nI_add k8 1) (by decide) rfl rfl ?_
              refine q_goto (pc2 := 1077) C dL_rigs_1144 (by decide) ?_
              exact ihk8
            · skip
              refine q_iload (pc2 := 1100) C 2 dL_rigs_1098 rfl rfl ?_
              refine q_aload (pc2 := 1102) C 7 dL_rigs_1100 rfl rfl ?_
              refine q_bipush (v := nI 20) (pc2 := 1104) C dL_rigs_1102 (by decide) rfl ?_
              refine q_iload (pc2 := 1106) C 0 dL_rigs_1104 rfl rfl ?_
              refine q_iadd (v := nI (20 + k8)) (pc2 := 1107) C dL_rigs_1106 (nI_add 20 k8) rfl ?_
              refine q_iald (q0 := 28) (f := (upd fp (20 + i) f0)) (pc2 := 1108) C (20 + k8) (wT_g2 ct a x fc fb (upd fp (20 + i) f0) fq fn fl) rfl (rfl) (by omega) (by decide) dL_rigs_1107 rfl ?_
              refine q_icmp_lt (tgt := 1137) (pc2 := 1111) C dL_rigs_1108 (by decide) rfl (fun c1108 => ?_) (fun c1108 => ?_)
              · skip
                refine q_iconst (v := nI 0) (pc2 := 1138) C dL_rigs_1137 (by decide) rfl ?_
                refine q_iadd (v := (sumf (fun j9 => if holds (upd fp (20 + i) f0) K d8 j9 then 1 else 0) (k8 + 1))) (pc2 := 1139) C dL_rigs_1138 (by rw [sumf_s, if_neg (fun z : holds (upd fp (20 + i) f0) K d8 k8 => absurd z.2.1 (Int32.not_le.mpr c1108))]; rfl) rfl ?_
                refine q_istore (lv' := [(11, .int (sumf (fun j9 => if holds (upd fp (20 + i) f0) K d8 j9 then 1 else 0) (k8 + 1))), (12, .int (nI k8)), (10, .int (nI d8)), (9, .int (sumf (fun k9 => if 1 < hld (upd fp (20 + i) f0) K n k9 then 1 else 0) d8)), (8, .int f0), (7, .int (nI 1)), (6, .int (nI i)), (5, .ref (a 42)), (4, .ref (a 41)), (3, .ref (a 40)), (2, .int y), (1, .int (nI 5)), (0, .ref (a 30))]) (pc2 := 1141) C dL_rigs_1139 (by decide) rfl rfl ?_
                refine q_iinc (v := nI (k8 + 1)) (lv' := [(12, .int (nI (k8 + 1))), (11, .int (sumf (fun j9 => if holds (upd fp (20 + i) f0) K d8 j9 then 1 else 0) (k8 + 1))), (10, .int (nI d8)), (9, .int (sumf (fun k9 => if 1 < hld (upd fp (20 + i) f0) K n k9 then 1 else 0) d8)), (8, .int f0), (7, .int (nI 1)), (6, .int (nI i)), (5, .ref (a 42)), (4, .ref (a 41)), (3, .ref (a 40)), (2, .int y), (1, .int (nI 5)), (0, .ref (a 30))]) (pc2 := 1144) C 1 dL_rigs_1141 rfl (show nI k8 + Int32.ofInt 1 = nI (k8 + 1) by rw [show Int32.ofInt 1 = nI 1 from by decide]; exact nI_add k8 1) (by decide) rfl rfl ?_
                refine q_goto (pc2 := 1077) C dL_rigs_1144 (by decide) ?_
                exact ihk8
              · skip
                refine q_iload (pc2 := 1113) C 2 dL_rigs_1111 rfl rfl ?_
                refine q_aload (pc2 := 1115) C 7 dL_rigs_1113 rfl rfl ?_
                refine q_bipush (v := nI 20) (pc2 := 1117) C dL_rigs_1115 (by decide) rfl ?_
                refine q_iload (pc2 := 1119) C 0 dL_rigs_1117 rfl rfl ?_
                refine q_iadd (v := nI (20 + k8)) (pc2 := 1120) C dL_rigs_1119 (nI_add 20 k8) rfl ?_
                refine q_iald (q0 := 28) (f := (upd fp (20 + i) f0)) (pc2 := 1121) C (20 + k8) (wT_g2 ct a x fc fb (upd fp (20 + i) f0) fq fn fl) rfl (rfl) (by omega) (by decide) dL_rigs_1120 rfl ?_
                refine q_aload (pc2 := 1123) C 7 dL_rigs_1121 rfl rfl ?_
                refine q_iload (pc2 := 1125) C 0 dL_rigs_1123 rfl rfl ?_
                refine q_iald (q0 := 28) (f := (upd fp (20 + i) f0)) (pc2 := 1126) C k8 (wT_g2 ct a x fc fb (upd fp (20 + i) f0) fq fn fl) rfl (rfl) (by omega) (by decide) dL_rigs_1125 rfl ?_
                refine q_eqi (y := nI (K k8)) ((upd_n (by omega)).trans ((hK k8 hk8).1)) ?_
                refine q_s0 (pc2 := 1129) (As := [.int (nI (K k8))]) (st := [.int ((upd fp (20 + i) f0) (20 + k8)), .int (nI d8), .int (sumf (fun j9 => if holds (upd fp (20 + i) f0) K d8 j9 then 1 else 0) k8)]) (st2 := [.int (nI (hsN (K k8))), .int ((upd fp (20 + i) f0) (20 + k8)), .int (nI d8), .int (sumf (fun j9 => if holds (upd fp (20 + i) f0) K d8 j9 then 1 else 0) k8)]) C (c_L_has l D ct (K k8) (hK k8 hk8).2) (va_cwS 1 C.w gL_rigs_L_has rfl rfl rfl (by decide +kernel) ⟨Nat.le_of_ble_eq_true rfl, Nat.le_of_ble_eq_true rfl⟩) dL_rigs_1126 rfl rfl (Nat.le_of_ble_eq_true rfl) ⟨Nat.zero_le _, Nat.zero_le _⟩ rfl rfl ?_
                refine q_iadd (v := (((upd fp (20 + i) f0) (20 + k8)) + nI (hsN (K k8)))) (pc2 := 1130) C dL_rigs_1129 (rfl) rfl ?_
                refine q_icmp_ge (tgt := 1137) (pc2 := 1133) C dL_rigs_1130 (by decide) rfl (fun c1130 => ?_) (fun c1130 => ?_)
                · skip
                  refine q_iconst (v := nI 0) (pc2 := 1138) C dL_rigs_1137 (by decide) rfl ?_
                  refine q_iadd (v := (sumf (fun j9 => if holds (upd fp (20 + i) f0) K d8 j9 then 1 else 0) (k8 + 1))) (pc2 := 1139) C dL_rigs_1138 (by rw [sumf_s, if_neg (fun z : holds (upd fp (20 + i) f0) K d8 k8 => absurd z.2.2 (Int32.not_lt.mpr c1130))]; rfl) rfl ?_
                  refine q_istore (lv' := [(11, .int (sumf (fun j9 => if holds (upd fp (20 + i) f0) K d8 j9 then 1 else 0) (k8 + 1))), (12, .int (nI k8)), (10, .int (nI d8)), (9, .int (sumf (fun k9 => if 1 < hld (upd fp (20 + i) f0) K n k9 then 1 else 0) d8)), (8, .int f0), (7, .int (nI 1)), (6, .int (nI i)), (5, .ref (a 42)), (4, .ref (a 41)), (3, .ref (a 40)), (2, .int y), (1, .int (nI 5)), (0, .ref (a 30))]) (pc2 := 1141) C dL_rigs_1139 (by decide) rfl rfl ?_
                  refine q_iinc (v := nI (k8 + 1)) (lv' := [(12, .int (nI (k8 + 1))), (11, .int (sumf (fun j9 => if holds (upd fp (20 + i) f0) K d8 j9 then 1 else 0) (k8 + 1))), (10, .int (nI d8)), (9, .int (sumf (fun k9 => if 1 < hld (upd fp (20 + i) f0) K n k9 then 1 else 0) d8)), (8, .int f0), (7, .int (nI 1)), (6, .int (nI i)), (5, .ref (a 42)), (4, .ref (a 41)), (3, .ref (a 40)), (2, .int y), (1, .int (nI 5)), (0, .ref (a 30))]) (pc2 := 1144) C 1 dL_rigs_1141 rfl (show nI k8 + Int32.ofInt 1 = nI (k8 + 1) by rw [show Int32.ofInt 1 = nI 1 from by decide]; exact nI_add k8 1) (by decide) rfl rfl ?_
                  refine q_goto (pc2 := 1077) C dL_rigs_1144 (by decide) ?_
                  exact ihk8
                · skip
                  refine q_iconst (v := nI 1) (pc2 := 1134) C dL_rigs_1133 (by decide) rfl ?_
                  refine q_goto (pc2 := 1138) C dL_rigs_1134 (by decide) ?_
                  refine q_iadd (v := (sumf (fun j9 => if holds (upd fp (20 + i) f0) K d8 j9 then 1 else 0) (k8 + 1))) (pc2 := 1139) C dL_rigs_1138 (by rw [sumf_s, if_pos (⟨Int32.not_lt.mp c1095, Int32.not_lt.mp c1108, Int32.not_le.mp c1130⟩ : holds (upd fp (20 + i) f0) K d8 k8)]; rfl) rfl ?_
                  refine q_istore (lv' := [(11, .int (sumf (fun j9 => if holds (upd fp (20 + i) f0) K d8 j9 then 1 else 0) (k8 + 1))), (12, .int (nI k8)), (10, .int (nI d8)), (9, .int (sumf (fun k9 => if 1 < hld (upd fp (20 + i) f0) K n k9 then 1 else 0) d8)), (8, .int f0), (7, .int (nI 1)), (6, .int (nI i)), (5, .ref (a 42)), (4, .ref (a 41)), (3, .ref (a 40)), (2, .int y), (1, .int (nI 5)), (0, .ref (a 30))]) (pc2 := 1141) C dL_rigs_1139 (by decide) rfl rfl ?_
                  refine q_iinc (v := nI (k8 + 1)) (lv' := [(12, .int (nI (k8 + 1))), (11, .int (sumf (fun j9 => if holds (upd fp (20 + i) f0) K d8 j9 then 1 else 0) (k8 + 1))), (10, .int (nI d8)), (9, .int (sumf (fun k9 => if 1 < hld (upd fp (20 + i) f0) K n k9 then 1 else 0) d8)), (8, .int f0), (7, .int (nI 1)), (6, .int (nI i)), (5, .ref (a 42)), (4, .ref (a 41)), (3, .ref (a 40)), (2, .int y), (1, .int (nI 5)), (0, .ref (a 30))]) (pc2 := 1144) C 1 dL_rigs_1141 rfl (show nI k8 + Int32.ofInt 1 = nI (k8 + 1) by rw [show Int32.ofInt 1 = nI 1 from by decide]; exact nI_add k8 1) (by decide) rfl rfl ?_
                  refine q_goto (pc2 := 1077) C dL_rigs_1144 (by decide) ?_
                  exact ihk8
          · skip
            refine q_iload (pc2 := 1079) C 0 dL_rigs_1077 rfl rfl ?_
            refine q_aload_n (pc2 := 1080) C 9 dL_rigs_1079 rfl rfl rfl ?_
            refine q_iconst (v := nI 3) (pc2 := 1081) C dL_rigs_1080 (by decide) rfl ?_
            refine q_iald (q0 := 26) (f := fc) (pc2 := 1082) C 3 (wT_g0 ct a x fc fb (upd fp (20 + i) f0) fq fn fl) rfl (rfl) (by decide) (by decide) dL_rigs_1081 rfl ?_
            refine q_eqi (y := nI n) (hc3) ?_
            refine q_icmp_ge (tgt := 1147) (pc2 := 1085) C dL_rigs_1082 (by decide) rfl (fun _ => ?_) (fun h9 => absurd (nI_le (a := n) (b := n) (by omega) (by omega)) h9)
            refine q_iload (pc2 := 1149) C 3 dL_rigs_1147 rfl rfl ?_
            refine q_iload (pc2 := 1151) C 1 dL_rigs_1149 rfl rfl ?_
            refine q_iconst (v := nI 1) (pc2 := 1152) C dL_rigs_1151 (by decide) rfl ?_
            refine q_icmp_le (tgt := 1159) (pc2 := 1155) C dL_rigs_1152 (by decide) rfl (fun c1152 => ?_) (fun c1152 => ?_)
            · skip
              refine q_iconst (v := nI 0) (pc2 := 1160) C dL_rigs_1159 (by decide) rfl ?_
              refine q_iadd (v := (sumf (fun k9 => if 1 < hld (upd fp (20 + i) f0) K n k9 then 1 else 0) (d8 + 1))) (pc2 := 1161) C dL_rigs_1160 (by rw [sumf_s, if_neg (show ¬ 1 < hld (upd fp (20 + i) f0) K n d8 from Int32.not_lt.mpr c1152)]; rfl) rfl ?_
              refine q_istore (lv' := [(9, .int (sumf (fun k9 => if 1 < hld (upd fp (20 + i) f0) K n k9 then 1 else 0) (d8 + 1))), (12, .int (nI n)), (11, .int (sumf (fun j9 => if holds (upd fp (20 + i) f0) K d8 j9 then 1 else 0) n)), (10, .int (nI d8)), (8, .int f0), (7, .int (nI 1)), (6, .int (nI i)), (5, .ref (a 42)), (4, .ref (a 41)), (3, .ref (a 40)), (2, .int y), (1, .int (nI 5)), (0, .ref (a 30))]) (pc2 := 1163) C dL_rigs_1161 (by decide) rfl rfl ?_
              refine q_iinc (v := nI (d8 + 1)) (lv' := [(10, .int (nI (d8 + 1))), (9, .int (sumf (fun k9 => if 1 < hld (upd fp (20 + i) f0) K n k9 then 1 else 0) (d8 + 1))), (12, .int (nI n)), (11, .int (sumf (fun j9 => if holds (upd fp (20 + i) f0) K d8 j9 then 1 else 0) n)), (8, .int f0), (7, .int (nI 1)), (6, .int (nI i)), (5, .ref (a 42)), (4, .ref (a 41)), (3, .ref (a 40)), (2, .int y), (1, .int (nI 5)), (0, .ref (a 30))]) (pc2 := 1166) C 3 dL_rigs_1163 rfl (show nI d8 + Int32.ofInt 1 = nI (d8 + 1) by rw [show Int32.ofInt 1 = nI 1 from by decide]; exact nI_add d8 1) (by decide) rfl rfl ?_
              refine q_goto (pc2 := 1064) C dL_rigs_1166 (by decide) ?_
              refine q_lv (lv' := [(10, .int (nI (d8 + 1))), (9, .int (sumf (fun k9 => if 1 < hld (upd fp (20 + i) f0) K n k9 then 1 else 0) (d8 + 1))), (8, .int f0), (7, .int (nI 1)), (6, .int (nI i)), (5, .ref (a 42)), (4, .ref (a 41)), (3, .ref (a 40)), (2, .int y), (1, .int (nI 5)), (0, .ref (a 30))]) [0, 1, 4, 5, 6, 7, 8, 9, 10, 11, 12] rfl ?_
              exact ihd8
            · skip
              refine q_iconst (v := nI 1) (pc2 := 1156) C dL_rigs_1155 (by decide) rfl ?_
              refine q_goto (pc2 := 1160) C dL_rigs_1156 (by decide) ?_
              refine q_iadd (v := (sumf (fun k9 => if 1 < hld (upd fp (20 + i) f0) K n k9 then 1 else 0) (d8 + 1))) (pc2 := 1161) C dL_rigs_1160 (by rw [sumf_s, if_pos (show 1 < hld (upd fp (20 + i) f0) K n d8 from Int32.not_le.mp c1152)]; rfl) rfl ?_
              refine q_istore (lv' := [(9, .int (sumf (fun k9 => if 1 < hld (upd fp (20 + i) f0) K n k9 then 1 else 0) (d8 + 1))), (12, .int (nI n)), (11, .int (sumf (fun j9 => if holds (upd fp (20 + i) f0) K d8 j9 then 1 else 0) n)), (10, .int (nI d8)), (8, .int f0), (7, .int (nI 1)), (6, .int (nI i)), (5, .ref (a 42)), (4, .ref (a 41)), (3, .ref (a 40)), (2, .int y), (1, .int (nI 5)), (0, .ref (a 30))]) (pc2 := 1163) C dL_rigs_1161 (by decide) rfl rfl ?_
              refine q_iinc (v := nI (d8 + 1)) (lv' := [(10, .int (nI (d8 + 1))), (9, .int (sumf (fun k9 => if 1 < hld (upd fp (20 + i) f0) K n k9 then 1 else 0) (d8 + 1))), (12, .int (nI n)), (11, .int (sumf (fun j9 => if holds (upd fp (20 + i) f0) K d8 j9 then 1 else 0) n)), (8, .int f0), (7, .int (nI 1)), (6, .int (nI i)), (5, .ref (a 42)), (4, .ref (a 41)), (3, .ref (a 40)), (2, .int y), (1, .int (nI 5)), (0, .ref (a 30))]) (pc2 := 1166) C 3 dL_rigs_1163 rfl (show nI d8 + Int32.ofInt 1 = nI (d8 + 1) by rw [show Int32.ofInt 1 = nI 1 from by decide]; exact nI_add d8 1) (by decide) rfl rfl ?_
              refine q_goto (pc2 := 1064) C dL_rigs_1166 (by decide) ?_
              refine q_lv (lv' := [(10, .int (nI (d8 + 1))), (9, .int (sumf (fun k9 => if 1 < hld (upd fp (20 + i) f0) K n k9 then 1 else 0) (d8 + 1))), (8, .int f0), (7, .int (nI 1)), (6, .int (nI i)), (5, .ref (a 42)), (4, .ref (a 41)), (3, .ref (a 40)), (2, .int y), (1, .int (nI 5)), (0, .ref (a 30))]) [0, 1, 4, 5, 6, 7, 8, 9, 10, 11, 12] rfl ?_
              exact ihd8
        · skip
          refine q_iload (pc2 := 1066) C 0 dL_rigs_1064 rfl rfl ?_
          refine q_bipush (v := nI 100) (pc2 := 1068) C dL_rigs_1066 (by decide) rfl ?_
          refine q_icmp_ge (tgt := 1169) (pc2 := 1071) C dL_rigs_1068 (by decide) rfl (fun _ => ?_) (fun h9 => absurd (nI_le (a := 100) (b := 100) (by omega) (by omega)) h9)
          refine q_aload_n (pc2 := 1170) C 10 dL_rigs_1169 rfl rfl rfl ?_
          refine q_iconst (v := nI 0) (pc2 := 1171) C dL_rigs_1170 (by decide) rfl ?_
          refine q_iload (pc2 := 1173) C 4 dL_rigs_1171 rfl rfl ?_
          refine q_iload (pc2 := 1175) C 2 dL_rigs_1173 rfl rfl ?_
          refine q_iconst (v := nI 0) (pc2 := 1176) C dL_rigs_1175 (by decide) rfl ?_
          have hM := c_X3_patch l hl D ct a x n hx0 (by omega) (nI i) f0
          rw [hx0] at hM
          rw [nI_clamp (show i < 2 ^ 31 by omega), (hlow i hi).2.2.2.1] at hM
          have e100 : (100 : Int32) - nI (hsN (K i)) = nI (100 - hsN (K i)) := pk_sub (a := 100) (by have := hsN_le (K i); omega)
          rw [e100] at hM
          have hf1 : -1 ≤ f0 ∧ f0 ≤ nI (100 - hsN (K i)) := ⟨by rcases hf0 with w | ⟨m, hm, w⟩; rw [w]; exact Int32.le_refl _; rw [w]; exact Int32.le_trans (by decide) (nI_pos' (by omega)), c1035⟩
          refine q_Hok_wT (pc2 := 1179) (As := [.ref (a 30), .int (nI 0), .int (nI i), .int f0, .int (nI 0)]) (st := []) (st2 := [.int (dbl (fun k => cntH (set2 x 12 (upd (x 12) i f0)) (nI k)))]) (x' := (set2 x 12 (upd (x 12) i f0))) C (c_L_set0 l D ct a x _ (nI i) f0 (nI 0) _ _ hM) (by rw [if_pos (show 0 ≤ nI i ∧ nI i < nI n from ⟨nI_pos' (by omega), nI_lt hi (by omega)⟩), if_pos hf1]) (vx_cwSW 5 C.w gL_rigs_L_set rfl rfl rfl (by decide +kernel) ⟨Nat.le_of_ble_eq_true rfl, Nat.le_of_ble_eq_true rfl⟩) dL_rigs_1176 rfl rfl (Nat.le_of_ble_eq_true rfl) ⟨Nat.zero_le _, Nat.zero_le _⟩ rfl rfl ?_
          refine q_iload (pc2 := 1181) C 1 dL_rigs_1179 rfl rfl ?_
          refine q_icmp_ne (tgt := 1188) (pc2 := 1184) C dL_rigs_1181 (by decide) rfl (fun h9 => absurd (dbl_eq st9.2.1 st9.2.2.1) h9) (fun _ => ?_)
          refine q_iconst (v := nI 1) (pc2 := 1185) C dL_rigs_1184 (by decide) rfl ?_
          refine q_goto (pc2 := 1189) C dL_rigs_1185 (by decide) ?_
          exact q_zret C hQ rfl (rfl) (Nat.zero_le _) (Nat.zero_le _) dL_rigs_1189 ⟨rfl, _, _, _, _, _, _, _, rfl, ⟨n, h, q, b, t, kb, K, S, F, V, Nat.le_trans ht (Nat.le_add_right M 50), st9⟩⟩
      · skip
        refine q_bipush (v := (-102)) (pc2 := 1040) C dL_rigs_1038 (by decide) rfl ?_
        refine q_goto (pc2 := 1044) C dL_rigs_1040 (by decide) ?_
        refine q_istore (lv' := [(9, .int (-102)), (8, .int f0), (7, .int (nI 1)), (6, .int (nI i)), (0, .ref (a 30)), (1, .int (nI 5)), (2, .int y), (3, .ref (a 40)), (4, .ref (a 41)), (5, .ref (a 42))]) (pc2 := 1046) C dL_rigs_1044 (by decide) rfl rfl ?_
        refine q_iload (pc2 := 1048) C 0 dL_rigs_1046 rfl rfl ?_
        refine q_if_ne (tgt := 1169) (pc2 := 1051) C dL_rigs_1048 (by decide) rfl (fun _ => ?_) (fun h9 => absurd h9 (by decide))
        refine q_aload_n (pc2 := 1170) C 4 dL_rigs_1169 rfl rfl rfl ?_
        refine q_iconst (v := nI 0) (pc2 := 1171) C dL_rigs_1170 (by decide) rfl ?_
        refine q_iload (pc2 := 1173) C 3 dL_rigs_1171 rfl rfl ?_
        refine q_iload (pc2 := 1175) C 1 dL_rigs_1173 rfl rfl ?_
        refine q_iconst (v := nI 0) (pc2 := 1176) C dL_rigs_1175 (by decide) rfl ?_
        have hM := c_X3_patch l hl D ct a x n hx0 (by omega) (nI i) f0
        rw [hx0] at hM
        rw [nI_clamp (show i < 2 ^ 31 by omega), (hlow i hi).2.2.2.1] at hM
        have e100 : (100 : Int32) - nI (hsN (K i)) = nI (100 - hsN (K i)) := pk_sub (a := 100) (by have := hsN_le (K i); omega)
        rw [e100] at hM
        refine q_Hno_wT (pc2 := 1179) (As := [.ref (a 30), .int (nI 0), .int (nI i), .int f0, .int (nI 0)]) (st := []) (st2 := [.int (-102)]) (c2 := 1) (s2 := 6) C (c_L_set0 l D ct a x _ (nI i) f0 (nI 0) _ _ hM) (by rw [if_pos (show 0 ≤ nI i ∧ nI i < nI n from ⟨nI_pos' (by omega), nI_lt hi (by omega)⟩), if_neg (fun z : -1 ≤ f0 ∧ f0 ≤ nI (100 - hsN (K i)) => c1035 z.2)]) (by decide +kernel) (vx_cwSW 5 C.w gL_rigs_L_set rfl rfl rfl (by decide +kernel) ⟨Nat.le_of_ble_eq_true rfl, Nat.le_of_ble_eq_true rfl⟩) dL_rigs_1176 rfl rfl (Nat.le_of_ble_eq_true rfl) ⟨Nat.le_of_ble_eq_true rfl, Nat.le_of_ble_eq_true rfl⟩ rfl rfl (hcd3A _) rfl rfl ?_
        refine q_iload (pc2 := 1181) C 0 dL_rigs_1179 rfl rfl ?_
        refine q_icmp_ne (tgt := 1188) (pc2 := 1184) C dL_rigs_1181 (by decide) rfl (fun h9 => absurd (by decide) h9) (fun _ => ?_)
        refine q_iconst (v := nI 1) (pc2 := 1185) C dL_rigs_1184 (by decide) rfl ?_
        refine q_goto (pc2 := 1189) C dL_rigs_1185 (by decide) ?_
        exact q_zret C hQ rfl (rfl) (by omega) (by omega) dL_rigs_1189 ⟨rfl, _, _, _, _, _, _, _, rfl, (RE.mono (Nat.le_add_right M 50) ⟨n, h, q, b, t, kb, K, S, F, V, ht, r⟩)⟩
    refine q_iload_n (pc2 := 973) C 4 dL_rigs_972 rfl rfl rfl ?_
    refine q_iconst (v := nI 3) (pc2 := 974) C dL_rigs_973 (by decide) rfl ?_
    refine q_ishr (v := (y >>> (nI 3 &&& 31))) (pc2 := 975) C dL_rigs_974 (rfl) rfl ?_
    refine q_bipush (v := nI 20) (pc2 := 977) C dL_rigs_975 (by decide) rfl ?_
    refine q_some (pc2 := 980) C (v := (y >>> (nI 3 &&& 31))) 20 (by omega) (by omega) (va_cwS 2 C.w gL_rigs_L_some rfl rfl rfl (by decide +kernel) ⟨Nat.le_of_ble_eq_true rfl, Nat.le_of_ble_eq_true rfl⟩) dL_rigs_977 rfl ⟨Nat.le_of_ble_eq_true rfl, Nat.le_of_ble_eq_true rfl⟩ (Nat.le_of_ble_eq_true rfl) (fun m977 hm977 => ?_)
    refine q_if_ne (tgt := 988) (pc2 := 983) C dL_rigs_980 (by decide) rfl (fun c980 => ?_) (fun c980 => ?_)
    · skip
      have k980 : m977 ≠ 0 := fun z => c980 ((nI_eq (a := m977) (b := 0) (by omega) (by omega)).mpr z)
      refine q_iload_n (pc2 := 989) C 4 dL_rigs_988 rfl rfl rfl ?_
      refine q_iconst (v := nI 3) (pc2 := 990) C dL_rigs_989 (by decide) rfl ?_
      refine q_ishr (v := (y >>> (nI 3 &&& 31))) (pc2 := 991) C dL_rigs_990 (rfl) rfl ?_
      refine q_iconst (v := nI 5) (pc2 := 992) C dL_rigs_991 (by decide) rfl ?_
      refine q_some (pc2 := 995) C (v := (y >>> (nI 3 &&& 31))) 5 (by omega) (by omega) (va_cwS 2 C.w gL_rigs_L_some rfl rfl rfl (by decide +kernel) ⟨Nat.le_of_ble_eq_true rfl, Nat.le_of_ble_eq_true rfl⟩) dL_rigs_992 rfl ⟨Nat.le_of_ble_eq_true rfl, Nat.le_of_ble_eq_true rfl⟩ (Nat.le_of_ble_eq_true rfl) (fun m992 hm992 => ?_)
      refine q_if_ne (tgt := 1002) (pc2 := 998) C dL_rigs_995 (by decide) rfl (fun c995 => ?_) (fun c995 => ?_)
      · skip
        have k995 : m992 ≠ 0 := fun z => c995 ((nI_eq (a := m992) (b := 0) (by omega) (by omega)).mpr z)
        refine q_iload_n (pc2 := 1003) C 4 dL_rigs_1002 rfl rfl rfl ?_
        refine q_iconst (v := nI 5) (pc2 := 1004) C dL_rigs_1003 (by decide) rfl ?_
        refine q_ishr (v := (y >>> (nI 5 &&& 31))) (pc2 := 1005) C dL_rigs_1004 (rfl) rfl ?_
        refine q_bipush (v := nI 30) (pc2 := 1007) C dL_rigs_1005 (by decide) rfl ?_
        refine q_some (pc2 := 1010) C (v := (y >>> (nI 5 &&& 31))) 30 (by omega) (by omega) (va_cwS 2 C.w gL_rigs_L_some rfl rfl rfl (by decide +kernel) ⟨Nat.le_of_ble_eq_true rfl, Nat.le_of_ble_eq_true rfl⟩) dL_rigs_1007 rfl ⟨Nat.le_of_ble_eq_true rfl, Nat.le_of_ble_eq_true rfl⟩ (Nat.le_of_ble_eq_true rfl) (fun m1007 hm1007 => ?_)
        exact hj1010 (nI m1007) (Or.inr ⟨m1007, by omega, rfl⟩)
      · skip
        have k995 : m992 = 0 := (nI_eq (a := m992) (b := 0) (by omega) (by omega)).mp (c995)
        refine q_iconst (v := (-1)) (pc2 := 999) C dL_rigs_998 (by decide) rfl ?_
        refine q_goto (pc2 := 1010) C dL_rigs_999 (by decide) ?_
        exact hj1010 (-1) (Or.inl rfl)
    · skip
      have k980 : m977 = 0 := (nI_eq (a := m977) (b := 0) (by omega) (by omega)).mp (c980)
      refine q_bipush (v := nI 100) (pc2 := 985) C dL_rigs_983 (by decide) rfl ?_
      refine q_goto (pc2 := 1010) C dL_rigs_985 (by decide) ?_
      exact hj1010 (nI 100) (Or.inr ⟨100, by omega, rfl⟩)
  have hB : ∀ v : Int32, ¬ (0 ≤ v ∧ v < nI n) → Cf p l e ({ frames := 9, cells := 2, slots := 12, locals := 162 }) s m args below meth c D A 14 0 0 Q 49 [(7, .int (nI 0)), (6, .int v), (0, .ref (a 30)), (1, .int (nI 5)), (2, .int y), (3, .ref (a 40)), (4, .ref (a 41)), (5, .ref (a 42))] [] (wT ct a x fc fb fp fq fn fl) := by
    intro v hv
    refine q_iload_n (pc2 := 50) C 3 dL_rigs_49 rfl rfl rfl ?_
    refine q_if_ne (tgt := 267) (pc2 := 53) C dL_rigs_50 (by decide) rfl (fun _ => ?_) (fun h9 => absurd h9 (by decide))
    refine q_iload_n (pc2 := 268) C 3 dL_rigs_267 rfl rfl rfl ?_
    refine q_iconst (v := nI 1) (pc2 := 269) C dL_rigs_268 (by decide) rfl ?_
    refine q_icmp_ne (tgt := 448) (pc2 := 272) C dL_rigs_269 (by decide) rfl (fun _ => ?_) (fun h9 => absurd h9 (by decide))
    refine q_iload_n (pc2 := 449) C 3 dL_rigs_448 rfl rfl rfl ?_
    refine q_iconst (v := nI 2) (pc2 := 450) C dL_rigs_449 (by decide) rfl ?_
    refine q_icmp_ne (tgt := 628) (pc2 := 453) C dL_rigs_450 (by decide) rfl (fun _ => ?_) (fun h9 => absurd h9 (by decide))
    refine q_iload_n (pc2 := 629) C 3 dL_rigs_628 rfl rfl rfl ?_
    refine q_iconst (v := nI 3) (pc2 := 630) C dL_rigs_629 (by decide) rfl ?_
    refine q_icmp_ne (tgt := 694) (pc2 := 633) C dL_rigs_630 (by decide) rfl (fun _ => ?_) (fun h9 => absurd h9 (by decide))
    refine q_iload_n (pc2 := 695) C 3 dL_rigs_694 rfl rfl rfl ?_
    refine q_iconst (v := nI 4) (pc2 := 696) C dL_rigs_695 (by decide) rfl ?_
    refine q_icmp_ne (tgt := 967) (pc2 := 699) C dL_rigs_696 (by decide) rfl (fun _ => ?_) (fun h9 => absurd h9 (by decide))
    refine q_iload_n (pc2 := 968) C 3 dL_rigs_967 rfl rfl rfl ?_
    refine q_iconst (v := nI 5) (pc2 := 969) C dL_rigs_968 (by decide) rfl ?_
    refine q_icmp_ne (tgt := 1190) (pc2 := 972) C dL_rigs_969 (by decide) rfl (fun h9 => absurd (by decide) h9) (fun _ => ?_)
    have hj1010 : ∀ f0 : Int32, (f0 = -1 ∨ ∃ m, m ≤ 100 ∧ f0 = nI m) → Cf p l e ({ frames := 9, cells := 2, slots := 12, locals := 162 }) s m args below meth c D A 14 0 0 Q 1010 [(7, .int (nI 0)), (6, .int v), (0, .ref (a 30)), (1, .int (nI 5)), (2, .int y), (3, .ref (a 40)), (4, .ref (a 41)), (5, .ref (a 42))] [.int f0] (wT ct a x fc fb fp fq fn fl) := by
      intro f0 hf0
      refine q_istore (lv' := [(8, .int f0), (7, .int (nI 0)), (6, .int v), (0, .ref (a 30)), (1, .int (nI 5)), (2, .int y), (3, .ref (a 40)), (4, .ref (a 41)), (5, .ref (a 42))]) (pc2 := 1012) C dL_rigs_1010 (by decide) rfl rfl ?_
      refine q_iload (pc2 := 1014) C 1 dL_rigs_1012 rfl rfl ?_
      refine q_if_ne (tgt := 1022) (pc2 := 1017) C dL_rigs_1014 (by decide) rfl (fun h9 => absurd (by decide) h9) (fun _ => ?_)
      refine q_bipush (v := (-101)) (pc2 := 1019) C dL_rigs_1017 (by decide) rfl ?_
      refine q_goto (pc2 := 1044) C dL_rigs_1019 (by decide) ?_
      refine q_istore (lv' := [(9, .int (-101)), (8, .int f0), (7, .int (nI 0)), (6, .int v), (0, .ref (a 30)), (1, .int (nI 5)), (2, .int y), (3, .ref (a 40)), (4, .ref (a 41)), (5, .ref (a 42))]) (pc2 := 1046) C dL_rigs_1044 (by decide) rfl rfl ?_
      refine q_iload (pc2 := 1048) C 0 dL_rigs_1046 rfl rfl ?_
      refine q_if_ne (tgt := 1169) (pc2 := 1051) C dL_rigs_1048 (by decide) rfl (fun _ => ?_) (fun h9 => absurd h9 (by decide))
      refine q_aload_n (pc2 := 1170) C 4 dL_rigs_1169 rfl rfl rfl ?_
      refine q_iconst (v := nI 0) (pc2 := 1171) C dL_rigs_1170 (by decide) rfl ?_
      refine q_iload (pc2 := 1173) C 3 dL_rigs_1171 rfl rfl ?_
      refine q_iload (pc2 := 1175) C 1 dL_rigs_1173 rfl rfl ?_
      refine q_iconst (v := nI 0) (pc2 := 1176) C dL_rigs_1175 (by decide) rfl ?_
      have hM := c_X3_patch l hl D ct a x n hx0 (by omega) (v) f0
      rw [hx0] at hM
      refine q_Hno_wT (pc2 := 1179) (As := [.ref (a 30), .int (nI 0), .int v, .int f0, .int (nI 0)]) (st := []) (st2 := [.int (-101)]) (c2 := 1) (s2 := 6) C (c_L_set0 l D ct a x _ (v) f0 (nI 0) _ _ hM) (if_neg hv) (by decide +kernel) (vx_cwSW 5 C.w gL_rigs_L_set rfl rfl rfl (by decide +kernel) ⟨Nat.le_of_ble_eq_true rfl, Nat.le_of_ble_eq_true rfl⟩) dL_rigs_1176 rfl rfl (Nat.le_of_ble_eq_true rfl) ⟨Nat.le_of_ble_eq_true rfl, Nat.le_of_ble_eq_true rfl⟩ rfl rfl (hcd3I _) rfl rfl ?_
      refine q_iload (pc2 := 1181) C 0 dL_rigs_1179 rfl rfl ?_
      refine q_icmp_ne (tgt := 1188) (pc2 := 1184) C dL_rigs_1181 (by decide) rfl (fun h9 => absurd (by decide) h9) (fun _ => ?_)
      refine q_iconst (v := nI 1) (pc2 := 1185) C dL_rigs_1184 (by decide) rfl ?_
      refine q_goto (pc2 := 1189) C dL_rigs_1185 (by decide) ?_
      exact q_zret C hQ rfl (rfl) (by omega) (by omega) dL_rigs_1189 ⟨rfl, _, _, _, _, _, _, _, rfl, (RE.mono (Nat.le_add_right M 50) ⟨n, h, q, b, t, kb, K, S, F, V, ht, r⟩)⟩
    refine q_iload_n (pc2 := 973) C 4 dL_rigs_972 rfl rfl rfl ?_
    refine q_iconst (v := nI 3) (pc2 := 974) C dL_rigs_973 (by decide) rfl ?_
    refine q_ishr (v := (y >>> (nI 3 &&& 31))) (pc2 := 975) C dL_rigs_974 (rfl) rfl ?_
    refine q_bipush (v := nI 20) (pc2 := 977) C dL_rigs_975 (by decide) rfl ?_
    refine q_some (pc2 := 980) C (v := (y >>> (nI 3 &&& 31))) 20 (by omega) (by omega) (va_cwS 2 C.w gL_rigs_L_some rfl rfl rfl (by decide +kernel) ⟨Nat.le_of_ble_eq_true rfl, Nat.le_of_ble_eq_true rfl⟩) dL_rigs_977 rfl ⟨Nat.le_of_ble_eq_true rfl, Nat.le_of_ble_eq_true rfl⟩ (Nat.le_of_ble_eq_true rfl) (fun m977 hm977 => ?_)
    refine q_if_ne (tgt := 988) (pc2 := 983) C dL_rigs_980 (by decide) rfl (fun c980 => ?_) (fun c980 => ?_)
    · skip
      have k980 : m977 ≠ 0 := fun z => c980 ((nI_eq (a := m977) (b := 0) (by omega) (by omega)).mpr z)
      refine q_iload_n (pc2 := 989) C 4 dL_rigs_988 rfl rfl rfl ?_
      refine q_iconst (v := nI 3) (pc2 := 990) C dL_rigs_989 (by decide) rfl ?_
      refine q_ishr (v := (y >>> (nI 3 &&& 31))) (pc2 := 991) C dL_rigs_990 (rfl) rfl ?_
      refine q_iconst (v := nI 5) (pc2 := 992) C dL_rigs_991 (by decide) rfl ?_
      refine q_some (pc2 := 995) C (v := (y >>> (nI 3 &&& 31))) 5 (by omega) (by omega) (va_cwS 2 C.w gL_rigs_L_some rfl rfl rfl (by decide +kernel) ⟨Nat.le_of_ble_eq_true rfl, Nat.le_of_ble_eq_true rfl⟩) dL_rigs_992 rfl ⟨Nat.le_of_ble_eq_true rfl, Nat.le_of_ble_eq_true rfl⟩ (Nat.le_of_ble_eq_true rfl) (fun m992 hm992 => ?_)
      refine q_if_ne (tgt := 1002) (pc2 := 998) C dL_rigs_995 (by decide) rfl (fun c995 => ?_) (fun c995 => ?_)
      · skip
        have k995 : m992 ≠ 0 := fun z => c995 ((nI_eq (a := m992) (b := 0) (by omega) (by omega)).mpr z)
        refine q_iload_n (pc2 := 1003) C 4 dL_rigs_1002 rfl rfl rfl ?_
        refine q_iconst (v := nI 5) (pc2 := 1004) C dL_rigs_1003 (by decide) rfl ?_
        refine q_ishr (v := (y >>> (nI 5 &&& 31))) (pc2 := 1005) C dL_rigs_1004 (rfl) rfl ?_
        refine q_bipush (v := nI 30) (pc2 := 1007) C dL_rigs_1005 (by decide) rfl ?_
        refine q_some (pc2 := 1010) C (v := (y >>> (nI 5 &&& 31))) 30 (by omega) (by omega) (va_cwS 2 C.w gL_rigs_L_some rfl rfl rfl (by decide +kernel) ⟨Nat.le_of_ble_eq_true rfl, Nat.le_of_ble_eq_true rfl⟩) dL_rigs_1007 rfl ⟨Nat.le_of_ble_eq_true rfl, Nat.le_of_ble_eq_true rfl⟩ (Nat.le_of_ble_eq_true rfl) (fun m1007 hm1007 => ?_)
        exact hj1010 (nI m1007) (Or.inr ⟨m1007, by omega, rfl⟩)
      · skip
        have k995 : m992 = 0 := (nI_eq (a := m992) (b := 0) (by omega) (by omega)).mp (c995)
        refine q_iconst (v := (-1)) (pc2 := 999) C dL_rigs_998 (by decide) rfl ?_
        refine q_goto (pc2 := 1010) C dL_rigs_999 (by decide) ?_
        exact hj1010 (-1) (Or.inl rfl)
    · skip
      have k980 : m977 = 0 := (nI_eq (a := m977) (b := 0) (by omega) (by omega)).mp (c980)
      refine q_bipush (v := nI 100) (pc2 := 985) C dL_rigs_983 (by decide) rfl ?_
      refine q_goto (pc2 := 1010) C dL_rigs_985 (by decide) ?_
      exact hj1010 (nI 100) (Or.inr ⟨100, by omega, rfl⟩)
  refine q_iload_n (pc2 := 1) C 2 dL_rigs_0 rfl rfl rfl ?_
  refine q_aload_n (pc2 := 2) C 3 dL_rigs_1 rfl rfl rfl ?_
  refine q_iconst (v := nI 3) (pc2 := 3) C dL_rigs_2 (by decide) rfl ?_
  refine q_iald (q0 := 26) (f := fc) (pc2 := 4) C 3 (wT_g0 ct a x fc fb fp fq fn fl) rfl (rfl) (by decide) (by decide) dL_rigs_3 rfl ?_
  refine q_eqi (y := nI n) (hc3) ?_
  refine q_iconst (v := nI 1) (pc2 := 5) C dL_rigs_4 (by decide) rfl ?_
  refine q_iadd (v := nI (n + 1)) (pc2 := 6) C dL_rigs_5 (nI_add n 1) rfl ?_
  refine q_some (pc2 := 9) C (v := y) (n + 1) (by omega) (by omega) (va_cwS 2 C.w gL_rigs_L_some rfl rfl rfl (by decide +kernel) ⟨Nat.le_of_ble_eq_true rfl, Nat.le_of_ble_eq_true rfl⟩) dL_rigs_6 rfl ⟨Nat.le_of_ble_eq_true rfl, Nat.le_of_ble_eq_true rfl⟩ (Nat.le_of_ble_eq_true rfl) (fun m6 hm6 => ?_)
  have hj26 : ∀ e1 : Nat, (e1 ≤ 1) → Cf p l e ({ frames := 9, cells := 2, slots := 12, locals := 162 }) s m args below meth c D A 14 0 0 Q 26 [(0, .ref (a 30)), (1, .int (nI 5)), (2, .int y), (3, .ref (a 40)), (4, .ref (a 41)), (5, .ref (a 42))] [.int (nI e1), .int (nI m6)] (wT ct a x fc fb fp fq fn fl) := by
    intro e1 he1
    rcases pick_lamp hn5 hm6 he1 with ⟨i, hi, ei⟩ | hv
    · skip
      refine q_isub (v := nI i) (pc2 := 27) C dL_rigs_26 (ei) rfl ?_
      refine q_istore (lv' := [(6, .int (nI i)), (0, .ref (a 30)), (1, .int (nI 5)), (2, .int y), (3, .ref (a 40)), (4, .ref (a 41)), (5, .ref (a 42))]) (pc2 := 29) C dL_rigs_27 (by decide) rfl rfl ?_
      refine q_iload (pc2 := 31) C 0 dL_rigs_29 rfl rfl ?_
      refine q_if_lt (tgt := 46) (pc2 := 34) C dL_rigs_31 (by decide) rfl (fun h9 => absurd h9 (nI_nlt (a := i) (b := 0) (by omega) (by omega))) (fun _ => ?_)
      refine q_iload (pc2 := 36) C 0 dL_rigs_34 rfl rfl ?_
      refine q_aload_n (pc2 := 37) C 4 dL_rigs_36 rfl rfl rfl ?_
      refine q_iconst (v := nI 3) (pc2 := 38) C dL_rigs_37 (by decide) rfl ?_
      refine q_iald (q0 := 26) (f := fc) (pc2 := 39) C 3 (wT_g0 ct a x fc fb fp fq fn fl) rfl (rfl) (by decide) (by decide) dL_rigs_38 rfl ?_
      refine q_eqi (y := nI n) (hc3) ?_
      refine q_icmp_ge (tgt := 46) (pc2 := 42) C dL_rigs_39 (by decide) rfl (fun h9 => absurd h9 (nI_ge (a := i) (b := n) (by omega) (by omega))) (fun _ => ?_)
      refine q_iconst (v := nI 1) (pc2 := 43) C dL_rigs_42 (by decide) rfl ?_
      refine q_goto (pc2 := 47) C dL_rigs_43 (by decide) ?_
      refine q_istore (lv' := [(7, .int (nI 1)), (6, .int (nI i)), (0, .ref (a 30)), (1, .int (nI 5)), (2, .int y), (3, .ref (a 40)), (4, .ref (a 41)), (5, .ref (a 42))]) (pc2 := 49) C dL_rigs_47 (by decide) rfl rfl ?_
      exact hA i hi
    · skip
      refine q_isub (v := (nI m6 - nI e1)) (pc2 := 27) C dL_rigs_26 (rfl) rfl ?_
      refine q_istore (lv' := [(6, .int (nI m6 - nI e1)), (0, .ref (a 30)), (1, .int (nI 5)), (2, .int y), (3, .ref (a 40)), (4, .ref (a 41)), (5, .ref (a 42))]) (pc2 := 29) C dL_rigs_27 (by decide) rfl rfl ?_
      refine q_iload (pc2 := 31) C 0 dL_rigs_29 rfl rfl ?_
      refine q_if_lt (tgt := 46) (pc2 := 34) C dL_rigs_31 (by decide) rfl (fun c31 => ?_) (fun c31 => ?_)
      · skip
        refine q_iconst (v := nI 0) (pc2 := 47) C dL_rigs_46 (by decide) rfl ?_
        refine q_istore (lv' := [(7, .int (nI 0)), (6, .int (nI m6 - nI e1)), (0, .ref (a 30)), (1, .int (nI 5)), (2, .int y), (3, .ref (a 40)), (4, .ref (a 41)), (5, .ref (a 42))]) (pc2 := 49) C dL_rigs_47 (by decide) rfl rfl ?_
        exact hB _ hv
      · skip
        refine q_iload (pc2 := 36) C 0 dL_rigs_34 rfl rfl ?_
        refine q_aload_n (pc2 := 37) C 4 dL_rigs_36 rfl rfl rfl ?_
        refine q_iconst (v := nI 3) (pc2 := 38) C dL_rigs_37 (by decide) rfl ?_
        refine q_iald (q0 := 26) (f := fc) (pc2 := 39) C 3 (wT_g0 ct a x fc fb fp fq fn fl) rfl (rfl) (by decide) (by decide) dL_rigs_38 rfl ?_
        refine q_eqi (y := nI n) (hc3) ?_
        refine q_icmp_ge (tgt := 46) (pc2 := 42) C dL_rigs_39 (by decide) rfl (fun _ => ?_) (fun h9 => absurd (Int32.not_lt.mp (fun z9 => hv ⟨Int32.not_lt.mp c31, z9⟩)) h9)
        refine q_iconst (v := nI 0) (pc2 := 47) C dL_rigs_46 (by decide) rfl ?_
        refine q_istore (lv' := [(7, .int (nI 0)), (6, .int (nI m6 - nI e1)), (0, .ref (a 30)), (1, .int (nI 5)), (2, .int y), (3, .ref (a 40)), (4, .ref (a 41)), (5, .ref (a 42))]) (pc2 := 49) C dL_rigs_47 (by decide) rfl rfl ?_
        exact hB _ hv
  refine q_iload_n (pc2 := 10) C 2 dL_rigs_9 rfl rfl rfl ?_
  refine q_bipush (v := nI 11) (pc2 := 12) C dL_rigs_10 (by decide) rfl ?_
  refine q_ishr (v := (y >>> (nI 11 &&& 31))) (pc2 := 13) C dL_rigs_12 (rfl) rfl ?_
  refine q_bipush (v := nI 19) (pc2 := 15) C dL_rigs_13 (by decide) rfl ?_
  refine q_some (pc2 := 18) C (v := (y >>> (nI 11 &&& 31))) 19 (by omega) (by omega) (va_cwS 2 C.w gL_rigs_L_some rfl rfl rfl (by decide +kernel) ⟨Nat.le_of_ble_eq_true rfl, Nat.le_of_ble_eq_true rfl⟩) dL_rigs_15 rfl ⟨Nat.le_of_ble_eq_true rfl, Nat.le_of_ble_eq_true rfl⟩ (Nat.le_of_ble_eq_true rfl) (fun m15 hm15 => ?_)
  refine q_if_ne (tgt := 25) (pc2 := 21) C dL_rigs_18 (by decide) rfl (fun c18 => ?_) (fun c18 => ?_)
  · skip
    have k18 : m15 ≠ 0 := fun z => c18 ((nI_eq (a := m15) (b := 0) (by omega) (by omega)).mpr z)
    refine q_iconst (v := nI 0) (pc2 := 26) C dL_rigs_25 (by decide) rfl ?_
    exact hj26 0 (by omega)
  · skip
    have k18 : m15 = 0 := (nI_eq (a := m15) (b := 0) (by omega) (by omega)).mp (c18)
    refine q_iconst (v := nI 1) (pc2 := 22) C dL_rigs_21 (by decide) rfl ?_
    refine q_goto (pc2 := 26) C dL_rigs_22 (by decide) ?_
    exact hj26 1 (by omega)

