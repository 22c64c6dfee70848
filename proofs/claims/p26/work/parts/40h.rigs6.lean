/-! rigs: a circuit -/
set_option maxHeartbeats 4000000 in
set_option maxRecDepth 100000 in
theorem c_L_rigs_6 (l : Launch) (D : va_G) (ct : Nat → ClassId) (hl : l.stackTraces = false) (a : Nat → Nat) (x : Nat → Nat → Int32) (fc fb fp fq fn fl : Nat → Int32) (y : Int32) (M : Nat) (r0 : RE M x fc fb fp fq fn fl) : qM l yL_rigs wsL_rigs ({ frames := 9, cells := 2, slots := 12, locals := 158 }) D ct [.ref (a 30), .int (nI 6), .int y, .ref (a 40), .ref (a 41), .ref (a 42)] (wT ct a x fc fb fp fq fn fl) (pR ct a (M + 50)) 2 12 := by
  refine q_start (ret := some .boolean) (lv := [(0, .ref (a 30)), (1, .int (nI 6)), (2, .int y), (3, .ref (a 40)), (4, .ref (a 41)), (5, .ref (a 42))]) (by decide +kernel) rfl (Nat.le_of_ble_eq_true rfl) rfl ?_
  intro p e s m args below meth c A Q C hQ hnm
  obtain ⟨n, h, q, b, t, kb, K, S, F, V, ht, r⟩ := r0
  obtain ⟨rh, rl, rr, rp, rc, rs, hbq⟩ := id r
  obtain ⟨hlt, hx4, hc0, hkbs, hlen⟩ := id rh
  obtain ⟨hn5, hx0, hc3, hlow, hall, hhigh⟩ := id rl
  obtain ⟨hq4, hx16, hc4, hcue, hfd, hnam, hnaz⟩ := id rc
  obtain ⟨hx22, hc5, hx21, hc7, hc6, hx23, hfl, hlvr, hlev⟩ := id rs
  obtain ⟨hkb2, hx5, hck⟩ := hkbs h hlt
  have hK : ∀ k, k < n → fp k = nI (K k) ∧ K k < 4 := fun k hk => ⟨(hlow k hk).2.1, (hlow k hk).1⟩
  have hb4 : b ≤ 4 := by omega
  have hA : ∀ i, i < n → Cf p l e ({ frames := 9, cells := 2, slots := 12, locals := 158 }) s m args below meth c D A 14 0 0 Q 49 [(7, .int (nI 1)), (6, .int (nI i)), (0, .ref (a 30)), (1, .int (nI 6)), (2, .int y), (3, .ref (a 40)), (4, .ref (a 41)), (5, .ref (a 42))] [] (wT ct a x fc fb fp fq fn fl) := by
    intro i hi
    refine q_iload_n (pc2 := 50) C 3 dL_rigs_49 rfl rfl rfl ?_
    refine q_if_ne (tgt := 267) (pc2 := 53) C dL_rigs_50 (by decide) rfl (fun _ => ?_) (fun h9 => absurd h9 (by decide))
    refine q_iload_n (pc2 := 268) C 3 dL_rigs_267 rfl rfl rfl ?_
    refine q_iconst (v := nI 1) (pc2 := 269) C dL_rigs_268 (by decide) rfl ?_
    refine q_icmp_ne (tgt := 448) (pc2 := 272) C dL_rigs_269 (by decide) rfl (fun _ => ?_) (fun h9 => absurd h9 (by decide))
    refine q_iload_n (pc2 := 449) C 3 dL_rigs_448 rfl rfl rfl ?_
    refine q_iconst (v := nI 2) (pc2 := 450) C dL_rigs_449 (by decide) rfl ?_
    refine q_icmp_ne (tgt := 628) (pc2 := 453) C dL_rigs_450 (by decide) rfl (fun _ => ?_) (fun h9 => absurd h9 (by decide))
    refine q_iload_n (pc2 := 629) C 3 dL_rigs_628 rfl rfl rfl ?_
    refine q_iconst (v := nI 3) (pc2 := 630) C dL_rigs_629 (by decide) rfl ?_
    refine q_icmp_ne (tgt := 694) (pc2 := 633) C dL_rigs_630 (by decide) rfl (fun _ => ?_) (fun h9 => absurd h9 (by decide))
    refine q_iload_n (pc2 := 695) C 3 dL_rigs_694 rfl rfl rfl ?_
    refine q_iconst (v := nI 4) (pc2 := 696) C dL_rigs_695 (by decide) rfl ?_
    refine q_icmp_ne (tgt := 967) (pc2 := 699) C dL_rigs_696 (by decide) rfl (fun _ => ?_) (fun h9 => absurd h9 (by decide))
    refine q_iload_n (pc2 := 968) C 3 dL_rigs_967 rfl rfl rfl ?_
    refine q_iconst (v := nI 5) (pc2 := 969) C dL_rigs_968 (by decide) rfl ?_
    refine q_icmp_ne (tgt := 1190) (pc2 := 972) C dL_rigs_969 (by decide) rfl (fun _ => ?_) (fun h9 => absurd h9 (by decide))
    have hj1214 : ∀ ci : Int32, (ci = -1 ∨ ∃ m, m ≤ 4 ∧ ci = nI m) → Cf p l e ({ frames := 9, cells := 2, slots := 12, locals := 158 }) s m args below meth c D A 14 0 0 Q 1214 [(7, .int (nI 1)), (6, .int (nI i)), (0, .ref (a 30)), (1, .int (nI 6)), (2, .int y), (3, .ref (a 40)), (4, .ref (a 41)), (5, .ref (a 42))] [.int ci] (wT ct a x fc fb fp fq fn fl) := by
      intro ci hci
      refine q_istore (lv' := [(8, .int ci), (7, .int (nI 1)), (6, .int (nI i)), (0, .ref (a 30)), (1, .int (nI 6)), (2, .int y), (3, .ref (a 40)), (4, .ref (a 41)), (5, .ref (a 42))]) (pc2 := 1216) C dL_rigs_1214 (by decide) rfl rfl ?_
      refine q_iload (pc2 := 1218) C 1 dL_rigs_1216 rfl rfl ?_
      refine q_if_eq (tgt := 1227) (pc2 := 1221) C dL_rigs_1218 (by decide) rfl (fun h9 => absurd h9 (by decide)) (fun _ => ?_)
      refine q_iload (pc2 := 1223) C 0 dL_rigs_1221 rfl rfl ?_
      refine q_iconst (v := nI 3) (pc2 := 1224) C dL_rigs_1223 (by decide) rfl ?_
      refine q_icmp_le (tgt := 1232) (pc2 := 1227) C dL_rigs_1224 (by decide) rfl (fun c1224 => ?_) (fun c1224 => ?_)
      · skip
        have hci2 : ci = -1 ∨ ∃ m, m < 4 ∧ ci = nI m := by
          rcases hci with w | ⟨m, hm, w⟩
          · exact Or.inl w
          · rw [w] at c1224; have h9 := (nI_leI (b := 3) (by omega) (by omega)).mp c1224; exact Or.inr ⟨m, by omega, w⟩
        have hc4x : ci = -1 ∨ (0 ≤ ci ∧ ci < 4) := hci2.elim Or.inl (fun ⟨m, hm, w⟩ => Or.inr (by rw [w]; exact ⟨nI_pos' (by omega), nI_lt (b := 4) (by omega) (by omega)⟩))
        have hp9 : ¬ fp (25 + i) ≤ -2 := by
          rcases (rr.1 i hi).2.2 with w | ⟨m, hm, w⟩
          · rw [w]; decide
          · rw [w]; exact fun z => nI_pos (by omega) (Int32.lt_of_le_of_lt z (by decide))
        refine q_aload (pc2 := 1234) C 8 dL_rigs_1232 rfl rfl ?_
        refine q_bipush (v := nI 25) (pc2 := 1236) C dL_rigs_1234 (by decide) rfl ?_
        refine q_iload (pc2 := 1238) C 2 dL_rigs_1236 rfl rfl ?_
        refine q_iadd (v := nI (25 + i)) (pc2 := 1239) C dL_rigs_1238 (nI_add 25 i) rfl ?_
        refine q_iald (q0 := 28) (f := fp) (pc2 := 1240) C (25 + i) (wT_g2 ct a x fc fb fp fq fn fl) rfl (rfl) (by omega) (by decide) dL_rigs_1239 rfl ?_
        refine q_istore (lv' := [(9, .int (fp (25 + i))), (8, .int ci), (7, .int (nI 1)), (6, .int (nI i)), (0, .ref (a 30)), (1, .int (nI 6)), (2, .int y), (3, .ref (a 40)), (4, .ref (a 41)), (5, .ref (a 42))]) (pc2 := 1242) C dL_rigs_1240 (by decide) rfl rfl ?_
        refine q_iload (pc2 := 1244) C 0 dL_rigs_1242 rfl rfl ?_
        refine q_bipush (v := (-2)) (pc2 := 1246) C dL_rigs_1244 (by decide) rfl ?_
        refine q_icmp_le (tgt := 1259) (pc2 := 1249) C dL_rigs_1246 (by decide) rfl (fun h9 => absurd h9 (hp9)) (fun _ => ?_)
        refine q_aload (pc2 := 1251) C 9 dL_rigs_1249 rfl rfl ?_
        refine q_bipush (v := nI 25) (pc2 := 1253) C dL_rigs_1251 (by decide) rfl ?_
        refine q_iload (pc2 := 1255) C 3 dL_rigs_1253 rfl rfl ?_
        refine q_iadd (v := nI (25 + i)) (pc2 := 1256) C dL_rigs_1255 (nI_add 25 i) rfl ?_
        refine q_iload (pc2 := 1258) C 1 dL_rigs_1256 rfl rfl ?_
        refine q_iast (q0 := 28) (f := fp) (ws' := (wT ct a x fc fb (upd fp (25 + i) ci) fq fn fl)) (pc2 := 1259) C (25 + i) (wT_g2 ct a x fc fb fp fq fn fl) rfl (rfl) (by omega) (by decide) (wT_a2 ct a x fc fb fp fq fn fl (upd fp (25 + i) ci)) dL_rigs_1258 rfl ?_
        refine q_aload_n (pc2 := 1260) C 4 dL_rigs_1259 rfl rfl rfl ?_
        refine q_iconst (v := nI 3) (pc2 := 1261) C dL_rigs_1260 (by decide) rfl ?_
        refine q_iload (pc2 := 1263) C 3 dL_rigs_1261 rfl rfl ?_
        refine q_iload (pc2 := 1265) C 1 dL_rigs_1263 rfl rfl ?_
        have hM := c_X3_plug l hl D ct a x n hx0 (by omega) (nI i) ci
        rw [hx0] at hM
        rw [nI_clamp (show i < 2 ^ 31 by omega)] at hM
        refine q_Hok_wT (pc2 := 1268) (As := [.ref (a 30), .int (nI 3), .int (nI i), .int ci]) (st := []) (st2 := [.int (x 14 i)]) (x' := (set2 x 14 (upd (x 14) i ci))) C (c_L_of3 l D ct a x _ (nI i) ci _ _ hM) (by rw [if_pos (show 0 ≤ nI i ∧ nI i < nI n from ⟨nI_pos' (by omega), nI_lt hi (by omega)⟩), if_pos hc4x]) (vx_cwSW 4 C.w gL_rigs_L_of rfl rfl rfl (by decide +kernel) ⟨Nat.le_of_ble_eq_true rfl, Nat.le_of_ble_eq_true rfl⟩) dL_rigs_1265 rfl rfl (Nat.le_of_ble_eq_true rfl) ⟨Nat.zero_le _, Nat.zero_le _⟩ rfl rfl ?_
        refine q_iload (pc2 := 1270) C 0 dL_rigs_1268 rfl rfl ?_
        refine q_icmp_ne (tgt := 1277) (pc2 := 1273) C dL_rigs_1270 (by decide) rfl (fun h9 => absurd ((hlow i hi).2.2.2.2.2.2.2.2) h9) (fun _ => ?_)
        refine q_iconst (v := nI 1) (pc2 := 1274) C dL_rigs_1273 (by decide) rfl ?_
        refine q_goto (pc2 := 1278) C dL_rigs_1274 (by decide) ?_
        exact q_zret C hQ rfl (rfl) (Nat.zero_le _) (Nat.zero_le _) dL_rigs_1278 ⟨rfl, _, _, _, _, _, _, _, rfl, ⟨n, h, q, b, t, kb, K, S, F, V, Nat.le_trans ht (Nat.le_add_right M 50), st_plug r hi hci2⟩⟩
      · skip
        refine q_bipush (v := (-101)) (pc2 := 1229) C dL_rigs_1227 (by decide) rfl ?_
        refine q_goto (pc2 := 1240) C dL_rigs_1229 (by decide) ?_
        refine q_istore (lv' := [(9, .int (-101)), (8, .int ci), (7, .int (nI 1)), (6, .int (nI i)), (0, .ref (a 30)), (1, .int (nI 6)), (2, .int y), (3, .ref (a 40)), (4, .ref (a 41)), (5, .ref (a 42))]) (pc2 := 1242) C dL_rigs_1240 (by decide) rfl rfl ?_
        refine q_iload (pc2 := 1244) C 0 dL_rigs_1242 rfl rfl ?_
        refine q_bipush (v := (-2)) (pc2 := 1246) C dL_rigs_1244 (by decide) rfl ?_
        refine q_icmp_le (tgt := 1259) (pc2 := 1249) C dL_rigs_1246 (by decide) rfl (fun _ => ?_) (fun h9 => absurd (by decide) h9)
        refine q_aload_n (pc2 := 1260) C 4 dL_rigs_1259 rfl rfl rfl ?_
        refine q_iconst (v := nI 3) (pc2 := 1261) C dL_rigs_1260 (by decide) rfl ?_
        refine q_iload (pc2 := 1263) C 3 dL_rigs_1261 rfl rfl ?_
        refine q_iload (pc2 := 1265) C 1 dL_rigs_1263 rfl rfl ?_
        have hM := c_X3_plug l hl D ct a x n hx0 (by omega) (nI i) ci
        rw [hx0] at hM
        rw [nI_clamp (show i < 2 ^ 31 by omega)] at hM
        refine q_Hno_wT (pc2 := 1268) (As := [.ref (a 30), .int (nI 3), .int (nI i), .int ci]) (st := []) (st2 := [.int (-101)]) (c2 := 1) (s2 := 6) C (c_L_of3 l D ct a x _ (nI i) ci _ _ hM) (by rw [if_pos (show 0 ≤ nI i ∧ nI i < nI n from ⟨nI_pos' (by omega), nI_lt hi (by omega)⟩), if_neg (fun z : ci = -1 ∨ (0 ≤ ci ∧ ci < 4) => z.elim (fun w => c1224 (by rw [w]; decide)) (fun w => by rcases hci with w2 | ⟨m, hm, w2⟩; exact c1224 (by rw [w2]; decide); rw [w2] at w c1224; have h8 := (nI_ltI (b := 4) (by omega) (by omega)).mp w.2; exact c1224 (nI_le (b := 3) (by omega) (by omega))))]) (by decide +kernel) (vx_cwSW 4 C.w gL_rigs_L_of rfl rfl rfl (by decide +kernel) ⟨Nat.le_of_ble_eq_true rfl, Nat.le_of_ble_eq_true rfl⟩) dL_rigs_1265 rfl rfl (Nat.le_of_ble_eq_true rfl) ⟨Nat.le_of_ble_eq_true rfl, Nat.le_of_ble_eq_true rfl⟩ rfl rfl (hcd1I _) rfl rfl ?_
        refine q_iload (pc2 := 1270) C 0 dL_rigs_1268 rfl rfl ?_
        refine q_icmp_ne (tgt := 1277) (pc2 := 1273) C dL_rigs_1270 (by decide) rfl (fun h9 => absurd (by decide) h9) (fun _ => ?_)
        refine q_iconst (v := nI 1) (pc2 := 1274) C dL_rigs_1273 (by decide) rfl ?_
        refine q_goto (pc2 := 1278) C dL_rigs_1274 (by decide) ?_
        exact q_zret C hQ rfl (rfl) (by omega) (by omega) dL_rigs_1278 ⟨rfl, _, _, _, _, _, _, _, rfl, (RE.mono (Nat.le_add_right M 50) ⟨n, h, q, b, t, kb, K, S, F, V, ht, r⟩)⟩
    refine q_iload_n (pc2 := 1191) C 4 dL_rigs_1190 rfl rfl rfl ?_
    refine q_iconst (v := nI 3) (pc2 := 1192) C dL_rigs_1191 (by decide) rfl ?_
    refine q_ishr (v := (y >>> (nI 3 &&& 31))) (pc2 := 1193) C dL_rigs_1192 (rfl) rfl ?_
    refine q_bipush (v := nI 20) (pc2 := 1195) C dL_rigs_1193 (by decide) rfl ?_
    refine q_some (pc2 := 1198) C (v := (y >>> (nI 3 &&& 31))) 20 (by omega) (by omega) (va_cwS 2 C.w gL_rigs_L_some rfl rfl rfl (by decide +kernel) ⟨Nat.le_of_ble_eq_true rfl, Nat.le_of_ble_eq_true rfl⟩) dL_rigs_1195 rfl ⟨Nat.le_of_ble_eq_true rfl, Nat.le_of_ble_eq_true rfl⟩ (Nat.le_of_ble_eq_true rfl) (fun m1195 hm1195 => ?_)
    refine q_if_ne (tgt := 1205) (pc2 := 1201) C dL_rigs_1198 (by decide) rfl (fun c1198 => ?_) (fun c1198 => ?_)
    · skip
      have k1198 : m1195 ≠ 0 := fun z => c1198 ((nI_eq (a := m1195) (b := 0) (by omega) (by omega)).mpr z)
      refine q_iload_n (pc2 := 1206) C 4 dL_rigs_1205 rfl rfl rfl ?_
      refine q_iconst (v := nI 3) (pc2 := 1207) C dL_rigs_1206 (by decide) rfl ?_
      refine q_ishr (v := (y >>> (nI 3 &&& 31))) (pc2 := 1208) C dL_rigs_1207 (rfl) rfl ?_
      refine q_iconst (v := nI 5) (pc2 := 1209) C dL_rigs_1208 (by decide) rfl ?_
      refine q_some (pc2 := 1212) C (v := (y >>> (nI 3 &&& 31))) 5 (by omega) (by omega) (va_cwS 2 C.w gL_rigs_L_some rfl rfl rfl (by decide +kernel) ⟨Nat.le_of_ble_eq_true rfl, Nat.le_of_ble_eq_true rfl⟩) dL_rigs_1209 rfl ⟨Nat.le_of_ble_eq_true rfl, Nat.le_of_ble_eq_true rfl⟩ (Nat.le_of_ble_eq_true rfl) (fun m1209 hm1209 => ?_)
      refine q_iconst (v := nI 1) (pc2 := 1213) C dL_rigs_1212 (by decide) rfl ?_
      refine q_isub (v := (nI m1209 - nI 1)) (pc2 := 1214) C dL_rigs_1213 (rfl) rfl ?_
      exact hj1214 (nI m1209 - nI 1) (by rcases Nat.eq_zero_or_pos m1209 with w | w; subst w; exact Or.inl (by decide); exact Or.inr ⟨m1209 - 1, by omega, pk_sub w⟩)
    · skip
      have k1198 : m1195 = 0 := (nI_eq (a := m1195) (b := 0) (by omega) (by omega)).mp (c1198)
      refine q_iconst (v := nI 4) (pc2 := 1202) C dL_rigs_1201 (by decide) rfl ?_
      refine q_goto (pc2 := 1214) C dL_rigs_1202 (by decide) ?_
      exact hj1214 (nI 4) (Or.inr ⟨4, by omega, rfl⟩)
  have hB : ∀ v : Int32, ¬ (0 ≤ v ∧ v < nI n) → Cf p l e ({ frames := 9, cells := 2, slots := 12, locals := 158 }) s m args below meth c D A 14 0 0 Q 49 [(7, .int (nI 0)), (6, .int v), (0, .ref (a 30)), (1, .int (nI 6)), (2, .int y), (3, .ref (a 40)), (4, .ref (a 41)), (5, .ref (a 42))] [] (wT ct a x fc fb fp fq fn fl) := by
    intro v hv
    refine q_iload_n (pc2 := 50) C 3 dL_rigs_49 rfl rfl rfl ?_
    refine q_if_ne (tgt := 267) (pc2 := 53) C dL_rigs_50 (by decide) rfl (fun _ => ?_) (fun h9 => absurd h9 (by decide))
    refine q_iload_n (pc2 := 268) C 3 dL_rigs_267 rfl rfl rfl ?_
    refine q_iconst (v := nI 1) (pc2 := 269) C dL_rigs_268 (by decide) rfl ?_
    refine q_icmp_ne (tgt := 448) (pc2 := 272) C dL_rigs_269 (by decide) rfl (fun _ => ?_) (fun h9 => absurd h9 (by decide))
    refine q_iload_n (pc2 := 449) C 3 dL_rigs_448 rfl rfl rfl ?_
    refine q_iconst (v := nI 2) (pc2 := 450) C dL_rigs_449 (by decide) rfl ?_
    refine q_icmp_ne (tgt := 628) (pc2 := 453) C dL_rigs_450 (by decide) rfl (fun _ => ?_) (fun h9 => absurd h9 (by decide))
    refine q_iload_n (pc2 := 629) C 3 dL_rigs_628 rfl rfl rfl ?_
    refine q_iconst (v := nI 3) (pc2 := 630) C dL_rigs_629 (by decide) rfl ?_
    refine q_icmp_ne (tgt := 694) (pc2 := 633) C dL_rigs_630 (by decide) rfl (fun _ => ?_) (fun h9 => absurd h9 (by decide))
    refine q_iload_n (pc2 := 695) C 3 dL_rigs_694 rfl rfl rfl ?_
    refine q_iconst (v := nI 4) (pc2 := 696) C dL_rigs_695 (by decide) rfl ?_
    refine q_icmp_ne (tgt := 967) (pc2 := 699) C dL_rigs_696 (by decide) rfl (fun _ => ?_) (fun h9 => absurd h9 (by decide))
    refine q_iload_n (pc2 := 968) C 3 dL_rigs_967 rfl rfl rfl ?_
    refine q_iconst (v := nI 5) (pc2 := 969) C dL_rigs_968 (by decide) rfl ?_
    refine q_icmp_ne (tgt := 1190) (pc2 := 972) C dL_rigs_969 (by decide) rfl (fun _ => ?_) (fun h9 => absurd h9 (by decide))
    have hj1214 : ∀ ci : Int32, (ci = -1 ∨ ∃ m, m ≤ 4 ∧ ci = nI m) → Cf p l e ({ frames := 9, cells := 2, slots := 12, locals := 158 }) s m args below meth c D A 14 0 0 Q 1214 [(7, .int (nI 0)), (6, .int v), (0, .ref (a 30)), (1, .int (nI 6)), (2, .int y), (3, .ref (a 40)), (4, .ref (a 41)), (5, .ref (a 42))] [.int ci] (wT ct a x fc fb fp fq fn fl) := by
      intro ci hci
      refine q_istore (lv' := [(8, .int ci), (7, .int (nI 0)), (6, .int v), (0, .ref (a 30)), (1, .int (nI 6)), (2, .int y), (3, .ref (a 40)), (4, .ref (a 41)), (5, .ref (a 42))]) (pc2 := 1216) C dL_rigs_1214 (by decide) rfl rfl ?_
      refine q_iload (pc2 := 1218) C 1 dL_rigs_1216 rfl rfl ?_
      refine q_if_eq (tgt := 1227) (pc2 := 1221) C dL_rigs_1218 (by decide) rfl (fun _ => ?_) (fun h9 => absurd (by decide) h9)
      refine q_bipush (v := (-101)) (pc2 := 1229) C dL_rigs_1227 (by decide) rfl ?_
      refine q_goto (pc2 := 1240) C dL_rigs_1229 (by decide) ?_
      refine q_istore (lv' := [(9, .int (-101)), (8, .int ci), (7, .int (nI 0)), (6, .int v), (0, .ref (a 30)), (1, .int (nI 6)), (2, .int y), (3, .ref (a 40)), (4, .ref (a 41)), (5, .ref (a 42))]) (pc2 := 1242) C dL_rigs_1240 (by decide) rfl rfl ?_
      refine q_iload (pc2 := 1244) C 0 dL_rigs_1242 rfl rfl ?_
      refine q_bipush (v := (-2)) (pc2 := 1246) C dL_rigs_1244 (by decide) rfl ?_
      refine q_icmp_le (tgt := 1259) (pc2 := 1249) C dL_rigs_1246 (by decide) rfl (fun _ => ?_) (fun h9 => absurd (by decide) h9)
      refine q_aload_n (pc2 := 1260) C 4 dL_rigs_1259 rfl rfl rfl ?_
      refine q_iconst (v := nI 3) (pc2 := 1261) C dL_rigs_1260 (by decide) rfl ?_
      refine q_iload (pc2 := 1263) C 3 dL_rigs_1261 rfl rfl ?_
      refine q_iload (pc2 := 1265) C 1 dL_rigs_1263 rfl rfl ?_
      have hM := c_X3_plug l hl D ct a x n hx0 (by omega) (v) ci
      rw [hx0] at hM
      refine q_Hno_wT (pc2 := 1268) (As := [.ref (a 30), .int (nI 3), .int v, .int ci]) (st := []) (st2 := [.int (-101)]) (c2 := 1) (s2 := 6) C (c_L_of3 l D ct a x _ (v) ci _ _ hM) (if_neg hv) (by decide +kernel) (vx_cwSW 4 C.w gL_rigs_L_of rfl rfl rfl (by decide +kernel) ⟨Nat.le_of_ble_eq_true rfl, Nat.le_of_ble_eq_true rfl⟩) dL_rigs_1265 rfl rfl (Nat.le_of_ble_eq_true rfl) ⟨Nat.le_of_ble_eq_true rfl, Nat.le_of_ble_eq_true rfl⟩ rfl rfl (hcd1I _) rfl rfl ?_
      refine q_iload (pc2 := 1270) C 0 dL_rigs_1268 rfl rfl ?_
      refine q_icmp_ne (tgt := 1277) (pc2 := 1273) C dL_rigs_1270 (by decide) rfl (fun h9 => absurd (by decide) h9) (fun _ => ?_)
      refine q_iconst (v := nI 1) (pc2 := 1274) C dL_rigs_1273 (by decide) rfl ?_
      refine q_goto (pc2 := 1278) C dL_rigs_1274 (by decide) ?_
      exact q_zret C hQ rfl (rfl) (by omega) (by omega) dL_rigs_1278 ⟨rfl, _, _, _, _, _, _, _, rfl, (RE.mono (Nat.le_add_right M 50) ⟨n, h, q, b, t, kb, K, S, F, V, ht, r⟩)⟩
    refine q_iload_n (pc2 := 1191) C 4 dL_rigs_1190 rfl rfl rfl ?_
    refine q_iconst (v := nI 3) (pc2 := 1192) C dL_rigs_1191 (by decide) rfl ?_
    refine q_ishr (v := (y >>> (nI 3 &&& 31))) (pc2 := 1193) C dL_rigs_1192 (rfl) rfl ?_
    refine q_bipush (v := nI 20) (pc2 := 1195) C dL_rigs_1193 (by decide) rfl ?_
    refine q_some (pc2 := 1198) C (v := (y >>> (nI 3 &&& 31))) 20 (by omega) (by omega) (va_cwS 2 C.w gL_rigs_L_some rfl rfl rfl (by decide +kernel) ⟨Nat.le_of_ble_eq_true rfl, Nat.le_of_ble_eq_true rfl⟩) dL_rigs_1195 rfl ⟨Nat.le_of_ble_eq_true rfl, Nat.le_of_ble_eq_true rfl⟩ (Nat.le_of_ble_eq_true rfl) (fun m1195 hm1195 => ?_)
    refine q_if_ne (tgt := 1205) (pc2 := 1201) C dL_rigs_1198 (by decide) rfl (fun c1198 => ?_) (fun c1198 => ?_)
    · skip
      have k1198 : m1195 ≠ 0 := fun z => c1198 ((nI_eq (a := m1195) (b := 0) (by omega) (by omega)).mpr z)
      refine q_iload_n (pc2 := 1206) C 4 dL_rigs_1205 rfl rfl rfl ?_
      refine q_iconst (v := nI 3) (pc2 := 1207) C dL_rigs_1206 (by decide) rfl ?_
      refine q_ishr (v := (y >>> (nI 3 &&& 31))) (pc2 := 1208) C dL_rigs_1207 (rfl) rfl ?_
      refine q_iconst (v := nI 5) (pc2 := 1209) C dL_rigs_1208 (by decide) rfl ?_
      refine q_some (pc2 := 1212) C (v := (y >>> (nI 3 &&& 31))) 5 (by omega) (by omega) (va_cwS 2 C.w gL_rigs_L_some rfl rfl rfl (by decide +kernel) ⟨Nat.le_of_ble_eq_true rfl, Nat.le_of_ble_eq_true rfl⟩) dL_rigs_1209 rfl ⟨Nat.le_of_ble_eq_true rfl, Nat.le_of_ble_eq_true rfl⟩ (Nat.le_of_ble_eq_true rfl) (fun m1209 hm1209 => ?_)
      refine q_iconst (v := nI 1) (pc2 := 1213) C dL_rigs_1212 (by decide) rfl ?_
      refine q_isub (v := (nI m1209 - nI 1)) (pc2 := 1214) C dL_rigs_1213 (rfl) rfl ?_
      exact hj1214 (nI m1209 - nI 1) (by rcases Nat.eq_zero_or_pos m1209 with w | w; subst w; exact Or.inl (by decide); exact Or.inr ⟨m1209 - 1, by omega, pk_sub w⟩)
    · skip
      have k1198 : m1195 = 0 := (nI_eq (a := m1195) (b := 0) (by omega) (by omega)).mp (c1198)
      refine q_iconst (v := nI 4) (pc2 := 1202) C dL_rigs_1201 (by decide) rfl ?_
      refine q_goto (pc2 := 1214) C dL_rigs_1202 (by decide) ?_
      exact hj1214 (nI 4) (Or.inr ⟨4, by omega, rfl⟩)
  refine q_iload_n (pc2 := 1) C 2 dL_rigs_0 rfl rfl rfl ?_
  refine q_aload_n (pc2 := 2) C 3 dL_rigs_1 rfl rfl rfl ?_
  refine q_iconst (v := nI 3) (pc2 := 3) C dL_rigs_2 (by decide) rfl ?_
  refine q_iald (q0 := 26) (f := fc) (pc2 := 4) C 3 (wT_g0 ct a x fc fb fp fq fn fl) rfl (rfl) (by decide) (by decide) dL_rigs_3 rfl ?_
  refine q_eqi (y := nI n) (hc3) ?_
  refine q_iconst (v := nI 1) (pc2 := 5) C dL_rigs_4 (by decide) rfl ?_
  refine q_iadd (v := nI (n + 1)) (pc2 := 6) C dL_rigs_5 (nI_add n 1) rfl ?_
  refine q_some (pc2 := 9) C (v := y) (n + 1) (by omega) (by omega) (va_cwS 2 C.w gL_rigs_L_some rfl rfl rfl (by decide +kernel) ⟨Nat.le_of_ble_eq_true rfl, Nat.le_of_ble_eq_true rfl⟩) dL_rigs_6 rfl ⟨Nat.le_of_ble_eq_true rfl, Nat.le_of_ble_eq_true rfl⟩ (Nat.le_of_ble_eq_true rfl) (fun m6 hm6 => ?_)
  have hj26 : ∀ e1 : Nat, (e1 ≤ 1) → Cf p l e ({ frames := 9, cells := 2, slots := 12, locals := 158 }) s m args below meth c D A 14 0 0 Q 26 [(0, .ref (a 30)), (1, .int (nI 6)), (2, .int y), (3, .ref (a 40)), (4, .ref (a 41)), (5, .ref (a 42))] [.int (nI e1), .int (nI m6)] (wT ct a x fc fb fp fq fn fl) := by
    intro e1 he1
    rcases pick_lamp hn5 hm6 he1 with ⟨i, hi, ei⟩ | hv
    · skip
      refine q_isub (v := nI i) (pc2 := 27) C dL_rigs_26 (ei) rfl ?_
      refine q_istore (lv' := [(6, .int (nI i)), (0, .ref (a 30)), (1, .int (nI 6)), (2, .int y), (3, .ref (a 40)), (4, .ref (a 41)), (5, .ref (a 42))]) (pc2 := 29) C dL_rigs_27 (by decide) rfl rfl ?_
      refine q_iload (pc2 := 31) C 0 dL_rigs_29 rfl rfl ?_
      refine q_if_lt (tgt := 46) (pc2 := 34) C dL_rigs_31 (by decide) rfl (fun h9 => absurd h9 (nI_nlt (a := i) (b := 0) (by omega) (by omega))) (fun _ => ?_)
      refine q_iload (pc2 := 36) C 0 dL_rigs_34 rfl rfl ?_
      refine q_aload_n (pc2 := 37) C 4 dL_rigs_36 rfl rfl rfl ?_
      refine q_iconst (v := nI 3) (pc2 := 38) C dL_rigs_37 (by decide) rfl ?_
      refine q_iald (q0 := 26) (f := fc) (pc2 := 39) C 3 (wT_g0 ct a x fc fb fp fq fn fl) rfl (rfl) (by decide) (by decide) dL_rigs_38 rfl ?_
      refine q_eqi (y := nI n) (hc3) ?_
      refine q_icmp_ge (tgt := 46) (pc2 := 42) C dL_rigs_39 (by decide) rfl (fun h9 => absurd h9 (nI_ge (a := i) (b := n) (by omega) (by omega))) (fun _ => ?_)
      refine q_iconst (v := nI 1) (pc2 := 43) C dL_rigs_42 (by decide) rfl ?_
      refine q_goto (pc2 := 47) C dL_rigs_43 (by decide) ?_
      refine q_istore (lv' := [(7, .int (nI 1)), (6, .int (nI i)), (0, .ref (a 30)), (1, .int (nI 6)), (2, .int y), (3, .ref (a 40)), (4, .ref (a 41)), (5, .ref (a 42))]) (pc2 := 49) C dL_rigs_47 (by decide) rfl rfl ?_
      exact hA i hi
    · skip
      refine q_isub (v := (nI m6 - nI e1)) (pc2 := 27) C dL_rigs_26 (rfl) rfl ?_
      refine q_istore (lv' := [(6, .int (nI m6 - nI e1)), (0, .ref (a 30)), (1, .int (nI 6)), (2, .int y), (3, .ref (a 40)), (4, .ref (a 41)), (5, .ref (a 42))]) (pc2 := 29) C dL_rigs_27 (by decide) rfl rfl ?_
      refine q_iload (pc2 := 31) C 0 dL_rigs_29 rfl rfl ?_
      refine q_if_lt (tgt := 46) (pc2 := 34) C dL_rigs_31 (by decide) rfl (fun c31 => ?_) (fun c31 => ?_)
      · skip
        refine q_iconst (v := nI 0) (pc2 := 47) C dL_rigs_46 (by decide) rfl ?_
        refine q_istore (lv' := [(7, .int (nI 0)), (6, .int (nI m6 - nI e1)), (0, .ref (a 30)), (1, .int (nI 6)), (2, .int y), (3, .ref (a 40)), (4, .ref (a 41)), (5, .ref (a 42))]) (pc2 := 49) C dL_rigs_47 (by decide) rfl rfl ?_
        exact hB _ hv
      · skip
        refine q_iload (pc2 := 36) C 0 dL_rigs_34 rfl rfl ?_
        refine q_aload_n (pc2 := 37) C 4 dL_rigs_36 rfl rfl rfl ?_
        refine q_iconst (v := nI 3) (pc2 := 38) C dL_rigs_37 (by decide) rfl ?_
        refine q_iald (q0 := 26) (f := fc) (pc2 := 39) C 3 (wT_g0 ct a x fc fb fp fq fn fl) rfl (rfl) (by decide) (by decide) dL_rigs_38 rfl ?_
        refine q_eqi (y := nI n) (hc3) ?_
        refine q_icmp_ge (tgt := 46) (pc2 := 42) C dL_rigs_39 (by decide) rfl (fun _ => ?_) (fun h9 => absurd (Int32.not_lt.mp (fun z9 => hv ⟨Int32.not_lt.mp c31, z9⟩)) h9)
        refine q_iconst (v := nI 0) (pc2 := 47) C dL_rigs_46 (by decide) rfl ?_
        refine q_istore (lv' := [(7, .int (nI 0)), (6, .int (nI m6 - nI e1)), (0, .ref (a 30)), (1, .int (nI 6)), (2, .int y), (3, .ref (a 40)), (4, .ref (a 41)), (5, .ref (a 42))]) (pc2 := 49) C dL_rigs_47 (by decide) rfl rfl ?_
        exact hB _ hv
  refine q_iload_n (pc2 := 10) C 2 dL_rigs_9 rfl rfl rfl ?_
  refine q_bipush (v := nI 11) (pc2 := 12) C dL_rigs_10 (by decide) rfl ?_
  refine q_ishr (v := (y >>> (nI 11 &&& 31))) (pc2 := 13) C dL_rigs_12 (rfl) rfl ?_
  refine q_bipush (v := nI 19) (pc2 := 15) C dL_rigs_13 (by decide) rfl ?_
  refine q_some (pc2 := 18) C (v := (y >>> (nI 11 &&& 31))) 19 (by omega) (by omega) (va_cwS 2 C.w gL_rigs_L_some rfl rfl rfl (by decide +kernel) ⟨Nat.le_of_ble_eq_true rfl, Nat.le_of_ble_eq_true rfl⟩) dL_rigs_15 rfl ⟨Nat.le_of_ble_eq_true rfl, Nat.le_of_ble_eq_true rfl⟩ (Nat.le_of_ble_eq_true rfl) (fun m15 hm15 => ?_)
  refine q_if_ne (tgt := 25) (pc2 := 21) C dL_rigs_18 (by decide) rfl (fun c18 => ?_) (fun c18 => ?_)
  · skip
    have k18 : m15 ≠ 0 := fun z => c18 ((nI_eq (a := m15) (b := 0) (by omega) (by omega)).mpr z)
    refine q_iconst (v := nI 0) (pc2 := 26) C dL_rigs_25 (by decide) rfl ?_
    exact hj26 0 (by omega)
  · skip
    have k18 : m15 = 0 := (nI_eq (a := m15) (b := 0) (by omega) (by omega)).mp (c18)
    refine q_iconst (v := nI 1) (pc2 := 22) C dL_rigs_21 (by decide) rfl ?_
    refine q_goto (pc2 := 26) C dL_rigs_22 (by decide) ?_
    exact hj26 1 (by omega)

