/-! rigs: a bar -/
set_option maxHeartbeats 4000000 in
set_option maxRecDepth 100000 in
theorem c_L_rigs_0 (l : Launch) (D : va_G) (ct : Nat → ClassId) (hl : l.stackTraces = false) (a : Nat → Nat) (x : Nat → Nat → Int32) (fc fb fp fq fn fl : Nat → Int32) (y : Int32) (M : Nat) (r0 : RE M x fc fb fp fq fn fl) : qM l yL_rigs wsL_rigs ({ frames := 9, cells := 2, slots := 12, locals := 160 }) D ct [.ref (a 30), .int (nI 0), .int y, .ref (a 40), .ref (a 41), .ref (a 42)] (wT ct a x fc fb fp fq fn fl) (pR ct a (M + 50)) 2 12 := by
  refine q_start (ret := some .boolean) (lv := [(0, .ref (a 30)), (1, .int (nI 0)), (2, .int y), (3, .ref (a 40)), (4, .ref (a 41)), (5, .ref (a 42))]) (by decide +kernel) rfl (Nat.le_of_ble_eq_true rfl) rfl ?_
  intro p e s m args below meth c A Q C hQ hnm
  obtain ⟨n, h, q, b, t, kb, K, S, F, V, ht, r⟩ := r0
  obtain ⟨rh, rl, rr, rp, rc, rs, hbq⟩ := id r
  obtain ⟨hlt, hx4, hc0, hkbs, hlen⟩ := id rh
  obtain ⟨hn5, hx0, hc3, hlow, hall, hhigh⟩ := id rl
  obtain ⟨hq4, hx16, hc4, hcue, hfd, hnam, hnaz⟩ := id rc
  obtain ⟨hx22, hc5, hx21, hc7, hc6, hx23, hfl, hlvr, hlev⟩ := id rs
  obtain ⟨hkb2, hx5, hck⟩ := hkbs h hlt
  have hK : ∀ k, k < n → fp k = nI (K k) ∧ K k < 4 := fun k hk => ⟨(hlow k hk).2.1, (hlow k hk).1⟩
  have hb4 : b ≤ 4 := by omega
  have hG : ∀ v z : Int32, Cf p l e ({ frames := 9, cells := 2, slots := 12, locals := 160 }) s m args below meth c D A 14 0 0 Q 49 [(7, .int z), (6, .int v), (0, .ref (a 30)), (1, .int (nI 0)), (2, .int y), (3, .ref (a 40)), (4, .ref (a 41)), (5, .ref (a 42))] [] (wT ct a x fc fb fp fq fn fl) := by
    intro v z
    refine q_iload_n (pc2 := 50) C 3 dL_rigs_49 rfl rfl rfl ?_
    refine q_if_ne (tgt := 267) (pc2 := 53) C dL_rigs_50 (by decide) rfl (fun h9 => absurd (by decide) h9) (fun _ => ?_)
    have hj75 : ∀ ho : Nat, (ho ≤ 2) → Cf p l e ({ frames := 9, cells := 2, slots := 12, locals := 160 }) s m args below meth c D A 14 0 0 Q 75 [(7, .int z), (6, .int v), (0, .ref (a 30)), (1, .int (nI 0)), (2, .int y), (3, .ref (a 40)), (4, .ref (a 41)), (5, .ref (a 42))] [.int (nI ho)] (wT ct a x fc fb fp fq fn fl) := by
      intro ho hho
      refine q_istore (lv' := [(8, .int (nI ho)), (7, .int z), (6, .int v), (0, .ref (a 30)), (1, .int (nI 0)), (2, .int y), (3, .ref (a 40)), (4, .ref (a 41)), (5, .ref (a 42))]) (pc2 := 77) C dL_rigs_75 (by decide) rfl rfl ?_
      have hj101 : ∀ L0 : Nat, (L0 ≤ 15 ∨ L0 = 101) → Cf p l e ({ frames := 9, cells := 2, slots := 12, locals := 160 }) s m args below meth c D A 14 0 0 Q 101 [(8, .int (nI ho)), (7, .int z), (6, .int v), (0, .ref (a 30)), (1, .int (nI 0)), (2, .int y), (3, .ref (a 40)), (4, .ref (a 41)), (5, .ref (a 42))] [.int (nI L0)] (wT ct a x fc fb fp fq fn fl) := by
        intro L0 hL0
        refine q_istore (lv' := [(9, .int (nI L0)), (8, .int (nI ho)), (7, .int z), (6, .int v), (0, .ref (a 30)), (1, .int (nI 0)), (2, .int y), (3, .ref (a 40)), (4, .ref (a 41)), (5, .ref (a 42))]) (pc2 := 103) C dL_rigs_101 (by decide) rfl rfl ?_
        have hj131 : ∀ M0 : Nat, (M0 = 0 ∨ (10 ≤ M0 ∧ M0 ≤ 69)) → Cf p l e ({ frames := 9, cells := 2, slots := 12, locals := 160 }) s m args below meth c D A 14 0 0 Q 131 [(9, .int (nI L0)), (8, .int (nI ho)), (7, .int z), (6, .int v), (0, .ref (a 30)), (1, .int (nI 0)), (2, .int y), (3, .ref (a 40)), (4, .ref (a 41)), (5, .ref (a 42))] [.int (nI M0)] (wT ct a x fc fb fp fq fn fl) := by
          intro M0 hM0
          refine q_istore (lv' := [(10, .int (nI M0)), (9, .int (nI L0)), (8, .int (nI ho)), (7, .int z), (6, .int v), (0, .ref (a 30)), (1, .int (nI 0)), (2, .int y), (3, .ref (a 40)), (4, .ref (a 41)), (5, .ref (a 42))]) (pc2 := 133) C dL_rigs_131 (by decide) rfl rfl ?_
          refine q_iload (pc2 := 135) C 1 dL_rigs_133 rfl rfl ?_
          refine q_bipush (v := nI 101) (pc2 := 137) C dL_rigs_135 (by decide) rfl ?_
          refine q_icmp_ge (tgt := 149) (pc2 := 140) C dL_rigs_137 (by decide) rfl (fun c137 => ?_) (fun c137 => ?_)
          · skip
            have k137 : 101 ≤ L0 := (nI_leI (a := 101) (b := L0) (by omega) (by omega)).mp c137
            refine q_iconst (v := nI 0) (pc2 := 150) C dL_rigs_149 (by decide) rfl ?_
            refine q_istore (lv' := [(11, .int (nI 0)), (10, .int (nI M0)), (9, .int (nI L0)), (8, .int (nI ho)), (7, .int z), (6, .int v), (0, .ref (a 30)), (1, .int (nI 0)), (2, .int y), (3, .ref (a 40)), (4, .ref (a 41)), (5, .ref (a 42))]) (pc2 := 152) C dL_rigs_150 (by decide) rfl rfl ?_
            refine q_iload (pc2 := 154) C 3 dL_rigs_152 rfl rfl ?_
            refine q_iconst (v := nI 2) (pc2 := 155) C dL_rigs_154 (by decide) rfl ?_
            refine q_icmp_ge (tgt := 175) (pc2 := 158) C dL_rigs_155 (by decide) rfl (fun c155 => ?_) (fun c155 => ?_)
            · skip
              have k155 : 2 ≤ ho := (nI_leI (a := 2) (b := ho) (by omega) (by omega)).mp c155
              refine q_iload (pc2 := 177) C 3 dL_rigs_175 rfl rfl ?_
              refine q_iconst (v := nI 1) (pc2 := 178) C dL_rigs_177 (by decide) rfl ?_
              refine q_icmp_le (tgt := 186) (pc2 := 181) C dL_rigs_178 (by decide) rfl (fun h9 => absurd h9 (nI_ge (a := 1) (b := ho) (by omega) (by omega))) (fun _ => ?_)
              refine q_bipush (v := (-101)) (pc2 := 183) C dL_rigs_181 (by decide) rfl ?_
              refine q_goto (pc2 := 202) C dL_rigs_183 (by decide) ?_
              refine q_istore (lv' := [(12, .int (-101)), (11, .int (nI 0)), (10, .int (nI M0)), (9, .int (nI L0)), (8, .int (nI ho)), (7, .int z), (6, .int v), (0, .ref (a 30)), (1, .int (nI 0)), (2, .int y), (3, .ref (a 40)), (4, .ref (a 41)), (5, .ref (a 42))]) (pc2 := 204) C dL_rigs_202 (by decide) rfl rfl ?_
              refine q_iload (pc2 := 206) C 0 dL_rigs_204 rfl rfl ?_
              refine q_if_lt (tgt := 245) (pc2 := 209) C dL_rigs_206 (by decide) rfl (fun _ => ?_) (fun h9 => absurd (by decide) h9)
              refine q_aload_n (pc2 := 246) C 7 dL_rigs_245 rfl rfl rfl ?_
              refine q_iconst (v := nI 0) (pc2 := 247) C dL_rigs_246 (by decide) rfl ?_
              refine q_iload (pc2 := 249) C 4 dL_rigs_247 rfl rfl ?_
              refine q_iload (pc2 := 251) C 3 dL_rigs_249 rfl rfl ?_
              refine q_iload (pc2 := 253) C 2 dL_rigs_251 rfl rfl ?_
              have hM := c_X3_bar l hl D ct a x (fun z hz => by rw [(hkbs z hz).2.1]; exact nI_pos' (by have := (hkbs z hz).1; omega)) (nI ho) (nI L0) (nI M0)
              refine q_Hno_wT (pc2 := 256) (As := [.ref (a 30), .int (nI 0), .int (nI ho), .int (nI L0), .int (nI M0)]) (st := []) (st2 := [.int (-101)]) (c2 := 1) (s2 := 6) C (c_L_hangs0 l D ct a x _ (nI ho) (nI L0) (nI M0) _ _ hM) (by rw [if_neg (fun z : 0 ≤ nI ho ∧ nI ho < 2 => absurd z.2 (nI_nlt (b := 2) (by omega) (by omega)))]) (by decide +kernel) (vx_cwSW 5 C.w gL_rigs_L_hangs rfl rfl rfl (by decide +kernel) ⟨Nat.le_of_ble_eq_true rfl, Nat.le_of_ble_eq_true rfl⟩) dL_rigs_253 rfl rfl (Nat.le_of_ble_eq_true rfl) ⟨Nat.le_of_ble_eq_true rfl, Nat.le_of_ble_eq_true rfl⟩ rfl rfl (hcd3I _) rfl rfl ?_
              refine q_iload (pc2 := 258) C 0 dL_rigs_256 rfl rfl ?_
              refine q_icmp_ne (tgt := 265) (pc2 := 261) C dL_rigs_258 (by decide) rfl (fun h9 => absurd (by decide) h9) (fun _ => ?_)
              refine q_iconst (v := nI 1) (pc2 := 262) C dL_rigs_261 (by decide) rfl ?_
              refine q_goto (pc2 := 266) C dL_rigs_262 (by decide) ?_
              exact q_zret C hQ rfl (rfl) (by omega) (by omega) dL_rigs_266 ⟨rfl, _, _, _, _, _, _, _, rfl, (RE.mono (Nat.le_add_right M 50) ⟨n, h, q, b, t, kb, K, S, F, V, ht, r⟩)⟩
            · skip
              have k155 : ho < 2 := (nI_ltI (a := ho) (b := 2) (by omega) (by omega)).mp (Int32.not_le.mp c155)
              refine q_iload (pc2 := 160) C 0 dL_rigs_158 rfl rfl ?_
              refine q_if_eq (tgt := 175) (pc2 := 163) C dL_rigs_160 (by decide) rfl (fun _ => ?_) (fun h9 => absurd (by decide) h9)
              refine q_iload (pc2 := 177) C 3 dL_rigs_175 rfl rfl ?_
              refine q_iconst (v := nI 1) (pc2 := 178) C dL_rigs_177 (by decide) rfl ?_
              refine q_icmp_le (tgt := 186) (pc2 := 181) C dL_rigs_178 (by decide) rfl (fun _ => ?_) (fun h9 => absurd (nI_le (a := ho) (b := 1) (by omega) (by omega)) h9)
              refine q_iload (pc2 := 188) C 0 dL_rigs_186 rfl rfl ?_
              refine q_if_ne (tgt := 196) (pc2 := 191) C dL_rigs_188 (by decide) rfl (fun h9 => absurd (by decide) h9) (fun _ => ?_)
              refine q_bipush (v := (-102)) (pc2 := 193) C dL_rigs_191 (by decide) rfl ?_
              refine q_goto (pc2 := 202) C dL_rigs_193 (by decide) ?_
              refine q_istore (lv' := [(12, .int (-102)), (11, .int (nI 0)), (10, .int (nI M0)), (9, .int (nI L0)), (8, .int (nI ho)), (7, .int z), (6, .int v), (0, .ref (a 30)), (1, .int (nI 0)), (2, .int y), (3, .ref (a 40)), (4, .ref (a 41)), (5, .ref (a 42))]) (pc2 := 204) C dL_rigs_202 (by decide) rfl rfl ?_
              refine q_iload (pc2 := 206) C 0 dL_rigs_204 rfl rfl ?_
              refine q_if_lt (tgt := 245) (pc2 := 209) C dL_rigs_206 (by decide) rfl (fun _ => ?_) (fun h9 => absurd (by decide) h9)
              refine q_aload_n (pc2 := 246) C 7 dL_rigs_245 rfl rfl rfl ?_
              refine q_iconst (v := nI 0) (pc2 := 247) C dL_rigs_246 (by decide) rfl ?_
              refine q_iload (pc2 := 249) C 4 dL_rigs_247 rfl rfl ?_
              refine q_iload (pc2 := 251) C 3 dL_rigs_249 rfl rfl ?_
              refine q_iload (pc2 := 253) C 2 dL_rigs_251 rfl rfl ?_
              have hM := c_X3_bar l hl D ct a x (fun z hz => by rw [(hkbs z hz).2.1]; exact nI_pos' (by have := (hkbs z hz).1; omega)) (nI ho) (nI L0) (nI M0)
              refine q_Hno_wT (pc2 := 256) (As := [.ref (a 30), .int (nI 0), .int (nI ho), .int (nI L0), .int (nI M0)]) (st := []) (st2 := [.int (-102)]) (c2 := 1) (s2 := 6) C (c_L_hangs0 l D ct a x _ (nI ho) (nI L0) (nI M0) _ _ hM) (by rw [if_pos (show 0 ≤ nI ho ∧ nI ho < 2 from ⟨nI_pos' (by omega), nI_lt (b := 2) (by omega) (by omega)⟩), if_neg (fun z : 0 ≤ nI L0 ∧ nI L0 ≤ 100 => absurd z.2 (nI_ge (b := L0) (a := 100) (by omega) (by omega)))]) (by decide +kernel) (vx_cwSW 5 C.w gL_rigs_L_hangs rfl rfl rfl (by decide +kernel) ⟨Nat.le_of_ble_eq_true rfl, Nat.le_of_ble_eq_true rfl⟩) dL_rigs_253 rfl rfl (Nat.le_of_ble_eq_true rfl) ⟨Nat.le_of_ble_eq_true rfl, Nat.le_of_ble_eq_true rfl⟩ rfl rfl (hcd3A _) rfl rfl ?_
              refine q_iload (pc2 := 258) C 0 dL_rigs_256 rfl rfl ?_
              refine q_icmp_ne (tgt := 265) (pc2 := 261) C dL_rigs_258 (by decide) rfl (fun h9 => absurd (by decide) h9) (fun _ => ?_)
              refine q_iconst (v := nI 1) (pc2 := 262) C dL_rigs_261 (by decide) rfl ?_
              refine q_goto (pc2 := 266) C dL_rigs_262 (by decide) ?_
              exact q_zret C hQ rfl (rfl) (by omega) (by omega) dL_rigs_266 ⟨rfl, _, _, _, _, _, _, _, rfl, (RE.mono (Nat.le_add_right M 50) ⟨n, h, q, b, t, kb, K, S, F, V, ht, r⟩)⟩
          · skip
            have k137 : L0 < 101 := (nI_ltI (a := L0) (b := 101) (by omega) (by omega)).mp (Int32.not_le.mp c137)
            refine q_iload (pc2 := 142) C 0 dL_rigs_140 rfl rfl ?_
            refine q_if_le (tgt := 149) (pc2 := 145) C dL_rigs_142 (by decide) rfl (fun c142 => ?_) (fun c142 => ?_)
            · skip
              have k142 : M0 ≤ 0 := (nI_leI (a := M0) (b := 0) (by omega) (by omega)).mp c142
              refine q_iconst (v := nI 0) (pc2 := 150) C dL_rigs_149 (by decide) rfl ?_
              refine q_istore (lv' := [(11, .int (nI 0)), (10, .int (nI M0)), (9, .int (nI L0)), (8, .int (nI ho)), (7, .int z), (6, .int v), (0, .ref (a 30)), (1, .int (nI 0)), (2, .int y), (3, .ref (a 40)), (4, .ref (a 41)), (5, .ref (a 42))]) (pc2 := 152) C dL_rigs_150 (by decide) rfl rfl ?_
              refine q_iload (pc2 := 154) C 3 dL_rigs_152 rfl rfl ?_
              refine q_iconst (v := nI 2) (pc2 := 155) C dL_rigs_154 (by decide) rfl ?_
              refine q_icmp_ge (tgt := 175) (pc2 := 158) C dL_rigs_155 (by decide) rfl (fun c155 => ?_) (fun c155 => ?_)
              · skip
                have k155 : 2 ≤ ho := (nI_leI (a := 2) (b := ho) (by omega) (by omega)).mp c155
                refine q_iload (pc2 := 177) C 3 dL_rigs_175 rfl rfl ?_
                refine q_iconst (v := nI 1) (pc2 := 178) C dL_rigs_177 (by decide) rfl ?_
                refine q_icmp_le (tgt := 186) (pc2 := 181) C dL_rigs_178 (by decide) rfl (fun h9 => absurd h9 (nI_ge (a := 1) (b := ho) (by omega) (by omega))) (fun _ => ?_)
                refine q_bipush (v := (-101)) (pc2 := 183) C dL_rigs_181 (by decide) rfl ?_
                refine q_goto (pc2 := 202) C dL_rigs_183 (by decide) ?_
                refine q_istore (lv' := [(12, .int (-101)), (11, .int (nI 0)), (10, .int (nI M0)), (9, .int (nI L0)), (8, .int (nI ho)), (7, .int z), (6, .int v), (0, .ref (a 30)), (1, .int (nI 0)), (2, .int y), (3, .ref (a 40)), (4, .ref (a 41)), (5, .ref (a 42))]) (pc2 := 204) C dL_rigs_202 (by decide) rfl rfl ?_
                refine q_iload (pc2 := 206) C 0 dL_rigs_204 rfl rfl ?_
                refine q_if_lt (tgt := 245) (pc2 := 209) C dL_rigs_206 (by decide) rfl (fun _ => ?_) (fun h9 => absurd (by decide) h9)
                refine q_aload_n (pc2 := 246) C 7 dL_rigs_245 rfl rfl rfl ?_
                refine q_iconst (v := nI 0) (pc2 := 247) C dL_rigs_246 (by decide) rfl ?_
                refine q_iload (pc2 := 249) C 4 dL_rigs_247 rfl rfl ?_
                refine q_iload (pc2 := 251) C 3 dL_rigs_249 rfl rfl ?_
                refine q_iload (pc2 := 253) C 2 dL_rigs_251 rfl rfl ?_
                have hM := c_X3_bar l hl D ct a x (fun z hz => by rw [(hkbs z hz).2.1]; exact nI_pos' (by have := (hkbs z hz).1; omega)) (nI ho) (nI L0) (nI M0)
                refine q_Hno_wT (pc2 := 256) (As := [.ref (a 30), .int (nI 0), .int (nI ho), .int (nI L0), .int (nI M0)]) (st := []) (st2 := [.int (-101)]) (c2 := 1) (s2 := 6) C (c_L_hangs0 l D ct a x _ (nI ho) (nI L0) (nI M0) _ _ hM) (by rw [if_neg (fun z : 0 ≤ nI ho ∧ nI ho < 2 => absurd z.2 (nI_nlt (b := 2) (by omega) (by omega)))]) (by decide +kernel) (vx_cwSW 5 C.w gL_rigs_L_hangs rfl rfl rfl (by decide +kernel) ⟨Nat.le_of_ble_eq_true rfl, Nat.le_of_ble_eq_true rfl⟩) dL_rigs_253 rfl rfl (Nat.le_of_ble_eq_true rfl) ⟨Nat.le_of_ble_eq_true rfl, Nat.le_of_ble_eq_true rfl⟩ rfl rfl (hcd3I _) rfl rfl ?_
                refine q_iload (pc2 := 258) C 0 dL_rigs_256 rfl rfl ?_
                refine q_icmp_ne (tgt := 265) (pc2 := 261) C dL_rigs_258 (by decide) rfl (fun h9 => absurd (by decide) h9) (fun _ => ?_)
                refine q_iconst (v := nI 1) (pc2 := 262) C dL_rigs_261 (by decide) rfl ?_
                refine q_goto (pc2 := 266) C dL_rigs_262 (by decide) ?_
                exact q_zret C hQ rfl (rfl) (by omega) (by omega) dL_rigs_266 ⟨rfl, _, _, _, _, _, _, _, rfl, (RE.mono (Nat.le_add_right M 50) ⟨n, h, q, b, t, kb, K, S, F, V, ht, r⟩)⟩
              · skip
                have k155 : ho < 2 := (nI_ltI (a := ho) (b := 2) (by omega) (by omega)).mp (Int32.not_le.mp c155)
                refine q_iload (pc2 := 160) C 0 dL_rigs_158 rfl rfl ?_
                refine q_if_eq (tgt := 175) (pc2 := 163) C dL_rigs_160 (by decide) rfl (fun _ => ?_) (fun h9 => absurd (by decide) h9)
                refine q_iload (pc2 := 177) C 3 dL_rigs_175 rfl rfl ?_
                refine q_iconst (v := nI 1) (pc2 := 178) C dL_rigs_177 (by decide) rfl ?_
                refine q_icmp_le (tgt := 186) (pc2 := 181) C dL_rigs_178 (by decide) rfl (fun _ => ?_) (fun h9 => absurd (nI_le (a := ho) (b := 1) (by omega) (by omega)) h9)
                refine q_iload (pc2 := 188) C 0 dL_rigs_186 rfl rfl ?_
                refine q_if_ne (tgt := 196) (pc2 := 191) C dL_rigs_188 (by decide) rfl (fun h9 => absurd (by decide) h9) (fun _ => ?_)
                refine q_bipush (v := (-102)) (pc2 := 193) C dL_rigs_191 (by decide) rfl ?_
                refine q_goto (pc2 := 202) C dL_rigs_193 (by decide) ?_
                refine q_istore (lv' := [(12, .int (-102)), (11, .int (nI 0)), (10, .int (nI M0)), (9, .int (nI L0)), (8, .int (nI ho)), (7, .int z), (6, .int v), (0, .ref (a 30)), (1, .int (nI 0)), (2, .int y), (3, .ref (a 40)), (4, .ref (a 41)), (5, .ref (a 42))]) (pc2 := 204) C dL_rigs_202 (by decide) rfl rfl ?_
                refine q_iload (pc2 := 206) C 0 dL_rigs_204 rfl rfl ?_
                refine q_if_lt (tgt := 245) (pc2 := 209) C dL_rigs_206 (by decide) rfl (fun _ => ?_) (fun h9 => absurd (by decide) h9)
                refine q_aload_n (pc2 := 246) C 7 dL_rigs_245 rfl rfl rfl ?_
                refine q_iconst (v := nI 0) (pc2 := 247) C dL_rigs_246 (by decide) rfl ?_
                refine q_iload (pc2 := 249) C 4 dL_rigs_247 rfl rfl ?_
                refine q_iload (pc2 := 251) C 3 dL_rigs_249 rfl rfl ?_
                refine q_iload (pc2 := 253) C 2 dL_rigs_251 rfl rfl ?_
                have hM := c_X3_bar l hl D ct a x (fun z hz => by rw [(hkbs z hz).2.1]; exact nI_pos' (by have := (hkbs z hz).1; omega)) (nI ho) (nI L0) (nI M0)
                refine q_Hno_wT (pc2 := 256) (As := [.ref (a 30), .int (nI 0), .int (nI ho), .int (nI L0), .int (nI M0)]) (st := []) (st2 := [.int (-102)]) (c2 := 1) (s2 := 6) C (c_L_hangs0 l D ct a x _ (nI ho) (nI L0) (nI M0) _ _ hM) (by rw [if_pos (show 0 ≤ nI ho ∧ nI ho < 2 from ⟨nI_pos' (by omega), nI_lt (b := 2) (by omega) (by omega)⟩), if_pos (show 0 ≤ nI L0 ∧ nI L0 ≤ 100 from ⟨nI_pos' (by omega), nI_le (b := 100) (by omega) (by omega)⟩), if_neg (fun z : 1 ≤ nI M0 ∧ nI M0 ≤ 500 => absurd z.1 (nI_ge (a := M0) (b := 1) (by omega) (by omega)))]) (by decide +kernel) (vx_cwSW 5 C.w gL_rigs_L_hangs rfl rfl rfl (by decide +kernel) ⟨Nat.le_of_ble_eq_true rfl, Nat.le_of_ble_eq_true rfl⟩) dL_rigs_253 rfl rfl (Nat.le_of_ble_eq_true rfl) ⟨Nat.le_of_ble_eq_true rfl, Nat.le_of_ble_eq_true rfl⟩ rfl rfl (hcd3A _) rfl rfl ?_
                refine q_iload (pc2 := 258) C 0 dL_rigs_256 rfl rfl ?_
                refine q_icmp_ne (tgt := 265) (pc2 := 261) C dL_rigs_258 (by decide) rfl (fun h9 => absurd (by decide) h9) (fun _ => ?_)
                refine q_iconst (v := nI 1) (pc2 := 262) C dL_rigs_261 (by decide) rfl ?_
                refine q_goto (pc2 := 266) C dL_rigs_262 (by decide) ?_
                exact q_zret C hQ rfl (rfl) (by omega) (by omega) dL_rigs_266 ⟨rfl, _, _, _, _, _, _, _, rfl, (RE.mono (Nat.le_add_right M 50) ⟨n, h, q, b, t, kb, K, S, F, V, ht, r⟩)⟩
            · skip
              have k142 : 0 < M0 := (nI_ltI (a := 0) (b := M0) (by omega) (by omega)).mp (Int32.not_le.mp c142)
              refine q_iconst (v := nI 1) (pc2 := 146) C dL_rigs_145 (by decide) rfl ?_
              refine q_goto (pc2 := 150) C dL_rigs_146 (by decide) ?_
              refine q_istore (lv' := [(11, .int (nI 1)), (10, .int (nI M0)), (9, .int (nI L0)), (8, .int (nI ho)), (7, .int z), (6, .int v), (0, .ref (a 30)), (1, .int (nI 0)), (2, .int y), (3, .ref (a 40)), (4, .ref (a 41)), (5, .ref (a 42))]) (pc2 := 152) C dL_rigs_150 (by decide) rfl rfl ?_
              refine q_iload (pc2 := 154) C 3 dL_rigs_152 rfl rfl ?_
              refine q_iconst (v := nI 2) (pc2 := 155) C dL_rigs_154 (by decide) rfl ?_
              refine q_icmp_ge (tgt := 175) (pc2 := 158) C dL_rigs_155 (by decide) rfl (fun c155 => ?_) (fun c155 => ?_)
              · skip
                have k155 : 2 ≤ ho := (nI_leI (a := 2) (b := ho) (by omega) (by omega)).mp c155
                refine q_iload (pc2 := 177) C 3 dL_rigs_175 rfl rfl ?_
                refine q_iconst (v := nI 1) (pc2 := 178) C dL_rigs_177 (by decide) rfl ?_
                refine q_icmp_le (tgt := 186) (pc2 := 181) C dL_rigs_178 (by decide) rfl (fun h9 => absurd h9 (nI_ge (a := 1) (b := ho) (by omega) (by omega))) (fun _ => ?_)
                refine q_bipush (v := (-101)) (pc2 := 183) C dL_rigs_181 (by decide) rfl ?_
                refine q_goto (pc2 := 202) C dL_rigs_183 (by decide) ?_
                refine q_istore (lv' := [(12, .int (-101)), (11, .int (nI 1)), (10, .int (nI M0)), (9, .int (nI L0)), (8, .int (nI ho)), (7, .int z), (6, .int v), (0, .ref (a 30)), (1, .int (nI 0)), (2, .int y), (3, .ref (a 40)), (4, .ref (a 41)), (5, .ref (a 42))]) (pc2 := 204) C dL_rigs_202 (by decide) rfl rfl ?_
                refine q_iload (pc2 := 206) C 0 dL_rigs_204 rfl rfl ?_
                refine q_if_lt (tgt := 245) (pc2 := 209) C dL_rigs_206 (by decide) rfl (fun _ => ?_) (fun h9 => absurd (by decide) h9)
                refine q_aload_n (pc2 := 246) C 7 dL_rigs_245 rfl rfl rfl ?_
                refine q_iconst (v := nI 0) (pc2 := 247) C dL_rigs_246 (by decide) rfl ?_
                refine q_iload (pc2 := 249) C 4 dL_rigs_247 rfl rfl ?_
                refine q_iload (pc2 := 251) C 3 dL_rigs_249 rfl rfl ?_
                refine q_iload (pc2 := 253) C 2 dL_rigs_251 rfl rfl ?_
                have hM := c_X3_bar l hl D ct a x (fun z hz => by rw [(hkbs z hz).2.1]; exact nI_pos' (by have := (hkbs z hz).1; omega)) (nI ho) (nI L0) (nI M0)
                refine q_Hno_wT (pc2 := 256) (As := [.ref (a 30), .int (nI 0), .int (nI ho), .int (nI L0), .int (nI M0)]) (st := []) (st2 := [.int (-101)]) (c2 := 1) (s2 := 6) C (c_L_hangs0 l D ct a x _ (nI ho) (nI L0) (nI M0) _ _ hM) (by rw [if_neg (fun z : 0 ≤ nI ho ∧ nI ho < 2 => absurd z.2 (nI_nlt (b := 2) (by omega) (by omega)))]) (by decide +kernel) (vx_cwSW 5 C.w gL_rigs_L_hangs rfl rfl rfl (by decide +kernel) ⟨Nat.le_of_ble_eq_true rfl, Nat.le_of_ble_eq_true rfl⟩) dL_rigs_253 rfl rfl (Nat.le_of_ble_eq_true rfl) ⟨Nat.le_of_ble_eq_true rfl, Nat.le_of_ble_eq_true rfl⟩ rfl rfl (hcd3I _) rfl rfl ?_
                refine q_iload (pc2 := 258) C 0 dL_rigs_256 rfl rfl ?_
                refine q_icmp_ne (tgt := 265) (pc2 := 261) C dL_rigs_258 (by decide) rfl (fun h9 => absurd (by decide) h9) (fun _ => ?_)
                refine q_iconst (v := nI 1) (pc2 := 262) C dL_rigs_261 (by decide) rfl ?_
                refine q_goto (pc2 := 266) C dL_rigs_262 (by decide) ?_
                exact q_zret C hQ rfl (rfl) (by omega) (by omega) dL_rigs_266 ⟨rfl, _, _, _, _, _, _, _, rfl, (RE.mono (Nat.le_add_right M 50) ⟨n, h, q, b, t, kb, K, S, F, V, ht, r⟩)⟩
              · skip
                have k155 : ho < 2 := (nI_ltI (a := ho) (b := 2) (by omega) (by omega)).mp (Int32.not_le.mp c155)
                refine q_iload (pc2 := 160) C 0 dL_rigs_158 rfl rfl ?_
                refine q_if_eq (tgt := 175) (pc2 := 163) C dL_rigs_160 (by decide) rfl (fun h9 => absurd h9 (by decide)) (fun _ => ?_)
                obtain ⟨hs2, hs5, hsc⟩ := hkbs ho (by omega)
                refine q_aload_n (pc2 := 164) C 9 dL_rigs_163 rfl rfl rfl ?_
                refine q_iconst (v := nI 1) (pc2 := 165) C dL_rigs_164 (by decide) rfl ?_
                refine q_iload (pc2 := 167) C 3 dL_rigs_165 rfl rfl ?_
                refine q_iadd (v := nI (1 + ho)) (pc2 := 168) C dL_rigs_167 (nI_add 1 ho) rfl ?_
                refine q_iald (q0 := 26) (f := fc) (pc2 := 169) C (1 + ho) (wT_g0 ct a x fc fb fp fq fn fl) rfl (rfl) (by omega) (by decide) dL_rigs_168 rfl ?_
                refine q_eqi (y := nI (kb ho)) ((hkbs ho (by omega)).2.2) ?_
                refine q_iconst (v := nI 2) (pc2 := 170) C dL_rigs_169 (by decide) rfl ?_
                refine q_icmp_ne (tgt := 175) (pc2 := 173) C dL_rigs_170 (by decide) rfl (fun c170 => ?_) (fun c170 => ?_)
                · skip
                  have k170 : (kb ho) ≠ 2 := fun z => c170 ((nI_eq (a := (kb ho)) (b := 2) (by omega) (by omega)).mpr z)
                  refine q_iload (pc2 := 177) C 3 dL_rigs_175 rfl rfl ?_
                  refine q_iconst (v := nI 1) (pc2 := 178) C dL_rigs_177 (by decide) rfl ?_
                  refine q_icmp_le (tgt := 186) (pc2 := 181) C dL_rigs_178 (by decide) rfl (fun _ => ?_) (fun h9 => absurd (nI_le (a := ho) (b := 1) (by omega) (by omega)) h9)
                  refine q_iload (pc2 := 188) C 0 dL_rigs_186 rfl rfl ?_
                  refine q_if_ne (tgt := 196) (pc2 := 191) C dL_rigs_188 (by decide) rfl (fun _ => ?_) (fun h9 => absurd h9 (by decide))
                  refine q_aload_n (pc2 := 197) C 9 dL_rigs_196 rfl rfl rfl ?_
                  refine q_iconst (v := nI 1) (pc2 := 198) C dL_rigs_197 (by decide) rfl ?_
                  refine q_iload (pc2 := 200) C 3 dL_rigs_198 rfl rfl ?_
                  refine q_iadd (v := nI (1 + ho)) (pc2 := 201) C dL_rigs_200 (nI_add 1 ho) rfl ?_
                  refine q_iald (q0 := 26) (f := fc) (pc2 := 202) C (1 + ho) (wT_g0 ct a x fc fb fp fq fn fl) rfl (rfl) (by omega) (by decide) dL_rigs_201 rfl ?_
                  refine q_eqi (y := nI (kb ho)) ((hkbs ho (by omega)).2.2) ?_
                  refine q_istore (lv' := [(12, .int (nI (kb ho))), (11, .int (nI 1)), (10, .int (nI M0)), (9, .int (nI L0)), (8, .int (nI ho)), (7, .int z), (6, .int v), (0, .ref (a 30)), (1, .int (nI 0)), (2, .int y), (3, .ref (a 40)), (4, .ref (a 41)), (5, .ref (a 42))]) (pc2 := 204) C dL_rigs_202 (by decide) rfl rfl ?_
                  refine q_iload (pc2 := 206) C 0 dL_rigs_204 rfl rfl ?_
                  refine q_if_lt (tgt := 245) (pc2 := 209) C dL_rigs_206 (by decide) rfl (fun h9 => absurd h9 (nI_nlt (a := (kb ho)) (b := 0) (by omega) (by omega))) (fun _ => ?_)
                  refine q_aload (pc2 := 211) C 11 dL_rigs_209 rfl rfl ?_
                  refine q_iconst (v := nI 2) (pc2 := 212) C dL_rigs_211 (by decide) rfl ?_
                  refine q_iload (pc2 := 214) C 4 dL_rigs_212 rfl rfl ?_
                  refine q_imul (v := nI (2 * ho)) (pc2 := 215) C dL_rigs_214 (pk_mul 2 ho) rfl ?_
                  refine q_iload (pc2 := 217) C 0 dL_rigs_215 rfl rfl ?_
                  refine q_iadd (v := nI ((2 * ho) + (kb ho))) (pc2 := 218) C dL_rigs_217 (nI_add (2 * ho) (kb ho)) rfl ?_
                  refine q_iload (pc2 := 220) C 3 dL_rigs_218 rfl rfl ?_
                  refine q_iast (q0 := 27) (f := fb) (ws' := (wT ct a x fc (upd fb ((2 * ho) + (kb ho)) (nI L0)) fp fq fn fl)) (pc2 := 221) C ((2 * ho) + (kb ho)) (wT_g1 ct a x fc fb fp fq fn fl) rfl (rfl) (by omega) (by decide) (wT_a1 ct a x fc fb fp fq fn fl (upd fb ((2 * ho) + (kb ho)) (nI L0))) dL_rigs_220 rfl ?_
                  refine q_aload (pc2 := 223) C 11 dL_rigs_221 rfl rfl ?_
                  refine q_iconst (v := nI 4) (pc2 := 224) C dL_rigs_223 (by decide) rfl ?_
                  refine q_iconst (v := nI 2) (pc2 := 225) C dL_rigs_224 (by decide) rfl ?_
                  refine q_iload (pc2 := 227) C 4 dL_rigs_225 rfl rfl ?_
                  refine q_imul (v := nI (2 * ho)) (pc2 := 228) C dL_rigs_227 (pk_mul 2 ho) rfl ?_
                  refine q_iadd (v := nI (4 + (2 * ho))) (pc2 := 229) C dL_rigs_228 (nI_add 4 (2 * ho)) rfl ?_
                  refine q_iload (pc2 := 231) C 0 dL_rigs_229 rfl rfl ?_
                  refine q_iadd (v := nI ((4 + (2 * ho)) + (kb ho))) (pc2 := 232) C dL_rigs_231 (nI_add (4 + (2 * ho)) (kb ho)) rfl ?_
                  refine q_iload (pc2 := 234) C 2 dL_rigs_232 rfl rfl ?_
                  refine q_iast (q0 := 27) (f := (upd fb ((2 * ho) + (kb ho)) (nI L0))) (ws' := (wT ct a x fc (upd (upd fb ((2 * ho) + (kb ho)) (nI L0)) ((4 + (2 * ho)) + (kb ho)) (nI M0)) fp fq fn fl)) (pc2 := 235) C ((4 + (2 * ho)) + (kb ho)) (wT_g1 ct a x fc (upd fb ((2 * ho) + (kb ho)) (nI L0)) fp fq fn fl) rfl (rfl) (by omega) (by decide) (wT_a1 ct a x fc (upd fb ((2 * ho) + (kb ho)) (nI L0)) fp fq fn fl (upd (upd fb ((2 * ho) + (kb ho)) (nI L0)) ((4 + (2 * ho)) + (kb ho)) (nI M0))) dL_rigs_234 rfl ?_
                  refine q_aload_n (pc2 := 236) C 10 dL_rigs_235 rfl rfl rfl ?_
                  refine q_iconst (v := nI 1) (pc2 := 237) C dL_rigs_236 (by decide) rfl ?_
                  refine q_iload (pc2 := 239) C 4 dL_rigs_237 rfl rfl ?_
                  refine q_iadd (v := nI (1 + ho)) (pc2 := 240) C dL_rigs_239 (nI_add 1 ho) rfl ?_
                  refine q_dup2 (pc2 := 241) C dL_rigs_240 rfl rfl rfl ?_
                  refine q_iald (q0 := 26) (f := fc) (pc2 := 242) C (1 + ho) (wT_g0 ct a x fc (upd (upd fb ((2 * ho) + (kb ho)) (nI L0)) ((4 + (2 * ho)) + (kb ho)) (nI M0)) fp fq fn fl) rfl (rfl) (by omega) (by decide) dL_rigs_241 rfl ?_
                  refine q_eqi (y := nI (kb ho)) ((hkbs ho (by omega)).2.2) ?_
                  refine q_iconst (v := nI 1) (pc2 := 243) C dL_rigs_242 (by decide) rfl ?_
                  refine q_iadd (v := nI ((kb ho) + 1)) (pc2 := 244) C dL_rigs_243 (nI_add (kb ho) 1) rfl ?_
                  refine q_iast (q0 := 26) (f := fc) (ws' := (wT ct a x (upd fc (1 + ho) (nI ((kb ho) + 1))) (upd (upd fb ((2 * ho) + (kb ho)) (nI L0)) ((4 + (2 * ho)) + (kb ho)) (nI M0)) fp fq fn fl)) (pc2 := 245) C (1 + ho) (wT_g0 ct a x fc (upd (upd fb ((2 * ho) + (kb ho)) (nI L0)) ((4 + (2 * ho)) + (kb ho)) (nI M0)) fp fq fn fl) rfl (rfl) (by omega) (by decide) (wT_a0 ct a x fc (upd (upd fb ((2 * ho) + (kb ho)) (nI L0)) ((4 + (2 * ho)) + (kb ho)) (nI M0)) fp fq fn fl (upd fc (1 + ho) (nI ((kb ho) + 1)))) dL_rigs_244 rfl ?_
                  refine q_aload_n (pc2 := 246) C 7 dL_rigs_245 rfl rfl rfl ?_
                  refine q_iconst (v := nI 0) (pc2 := 247) C dL_rigs_246 (by decide) rfl ?_
                  refine q_iload (pc2 := 249) C 4 dL_rigs_247 rfl rfl ?_
                  refine q_iload (pc2 := 251) C 3 dL_rigs_249 rfl rfl ?_
                  refine q_iload (pc2 := 253) C 2 dL_rigs_251 rfl rfl ?_
                  have hM := c_X3_bar l hl D ct a x (fun z hz => by rw [(hkbs z hz).2.1]; exact nI_pos' (by have := (hkbs z hz).1; omega)) (nI ho) (nI L0) (nI M0)
                  rw [nI_clamp (show ho < 2 ^ 31 by omega), hs5, nI_clamp (show kb ho < 2 ^ 31 by omega)] at hM
                  refine q_Hok_wT (pc2 := 256) (As := [.ref (a 30), .int (nI 0), .int (nI ho), .int (nI L0), .int (nI M0)]) (st := []) (st2 := [.int (nI (kb ho))]) (x' := (set2 (set2 (set2 x 5 (upd (x 5) ho (nI (kb ho) + 1))) 6 (upd (x 6) (4 * ho + kb ho) (nI L0))) 7 (upd (x 7) (4 * ho + kb ho) (nI M0)))) C (c_L_hangs0 l D ct a x _ (nI ho) (nI L0) (nI M0) _ _ hM) (by rw [if_pos (show 0 ≤ nI ho ∧ nI ho < 2 from ⟨nI_pos' (by omega), nI_lt (b := 2) (by omega) (by omega)⟩), if_pos (show 0 ≤ nI L0 ∧ nI L0 ≤ 100 from ⟨nI_pos' (by omega), nI_le (b := 100) (by omega) (by omega)⟩), if_pos (show 1 ≤ nI M0 ∧ nI M0 ≤ 500 from ⟨nI_le (a := 1) (by omega) (by omega), nI_le (b := 500) (by omega) (by omega)⟩), if_pos (show nI (kb ho) < 4 from nI_lt (b := 4) (by omega) (by omega))]) (vx_cwSW 5 C.w gL_rigs_L_hangs rfl rfl rfl (by decide +kernel) ⟨Nat.le_of_ble_eq_true rfl, Nat.le_of_ble_eq_true rfl⟩) dL_rigs_253 rfl rfl (Nat.le_of_ble_eq_true rfl) ⟨Nat.zero_le _, Nat.zero_le _⟩ rfl rfl ?_
                  refine q_iload (pc2 := 258) C 0 dL_rigs_256 rfl rfl ?_
                  refine q_icmp_ne (tgt := 265) (pc2 := 261) C dL_rigs_258 (by decide) rfl (fun h9 => absurd (rfl) h9) (fun _ => ?_)
                  refine q_iconst (v := nI 1) (pc2 := 262) C dL_rigs_261 (by decide) rfl ?_
                  refine q_goto (pc2 := 266) C dL_rigs_262 (by decide) ?_
                  exact q_zret C hQ rfl (rfl) (Nat.zero_le _) (Nat.zero_le _) dL_rigs_266 ⟨rfl, _, _, _, _, _, _, _, rfl, ⟨n, h, q, b, t, _, K, S, F, V, Nat.le_trans ht (Nat.le_add_right M 50), (by have hh := st_bar r (s := ho) (L := L0) (M := M0) (by omega) (by omega) (by omega); rw [hs5] at hh; exact hh)⟩⟩
                · skip
                  have k170 : (kb ho) = 2 := (nI_eq (a := (kb ho)) (b := 2) (by omega) (by omega)).mp (c170)
                  refine q_iconst (v := nI 1) (pc2 := 174) C dL_rigs_173 (by decide) rfl ?_
                  exact q_zret C hQ rfl (rfl) (Nat.zero_le _) (Nat.zero_le _) dL_rigs_174 ⟨rfl, _, _, _, _, _, _, _, rfl, (RE.mono (Nat.le_add_right M 50) ⟨n, h, q, b, t, kb, K, S, F, V, ht, r⟩)⟩
        refine q_iload_n (pc2 := 104) C 6 dL_rigs_103 rfl rfl rfl ?_
        refine q_bipush (v := nI 7) (pc2 := 106) C dL_rigs_104 (by decide) rfl ?_
        refine q_ishr (v := (y >>> (nI 7 &&& 31))) (pc2 := 107) C dL_rigs_106 (rfl) rfl ?_
        refine q_bipush (v := nI 40) (pc2 := 109) C dL_rigs_107 (by decide) rfl ?_
        refine q_some (pc2 := 112) C (v := (y >>> (nI 7 &&& 31))) 40 (by omega) (by omega) (va_cwS 2 C.w gL_rigs_L_some rfl rfl rfl (by decide +kernel) ⟨Nat.le_of_ble_eq_true rfl, Nat.le_of_ble_eq_true rfl⟩) dL_rigs_109 rfl ⟨Nat.le_of_ble_eq_true rfl, Nat.le_of_ble_eq_true rfl⟩ (Nat.le_of_ble_eq_true rfl) (fun m109 hm109 => ?_)
        refine q_if_ne (tgt := 119) (pc2 := 115) C dL_rigs_112 (by decide) rfl (fun c112 => ?_) (fun c112 => ?_)
        · skip
          have k112 : m109 ≠ 0 := fun z => c112 ((nI_eq (a := m109) (b := 0) (by omega) (by omega)).mpr z)
          refine q_bipush (v := nI 10) (pc2 := 121) C dL_rigs_119 (by decide) rfl ?_
          refine q_iload_n (pc2 := 122) C 6 dL_rigs_121 rfl rfl rfl ?_
          refine q_bipush (v := nI 7) (pc2 := 124) C dL_rigs_122 (by decide) rfl ?_
          refine q_ishr (v := (y >>> (nI 7 &&& 31))) (pc2 := 125) C dL_rigs_124 (rfl) rfl ?_
          refine q_bipush (v := nI 60) (pc2 := 127) C dL_rigs_125 (by decide) rfl ?_
          refine q_some (pc2 := 130) C (v := (y >>> (nI 7 &&& 31))) 60 (by omega) (by omega) (va_cwS 2 C.w gL_rigs_L_some rfl rfl rfl (by decide +kernel) ⟨Nat.le_of_ble_eq_true rfl, Nat.le_of_ble_eq_true rfl⟩) dL_rigs_127 rfl ⟨Nat.le_of_ble_eq_true rfl, Nat.le_of_ble_eq_true rfl⟩ (Nat.le_of_ble_eq_true rfl) (fun m127 hm127 => ?_)
          refine q_iadd (v := nI (10 + m127)) (pc2 := 131) C dL_rigs_130 (nI_add 10 m127) rfl ?_
          exact hj131 (10 + m127) (by omega)
        · skip
          have k112 : m109 = 0 := (nI_eq (a := m109) (b := 0) (by omega) (by omega)).mp (c112)
          refine q_iconst (v := nI 0) (pc2 := 116) C dL_rigs_115 (by decide) rfl ?_
          refine q_goto (pc2 := 131) C dL_rigs_116 (by decide) ?_
          exact hj131 0 (by omega)
      refine q_iload_n (pc2 := 78) C 5 dL_rigs_77 rfl rfl rfl ?_
      refine q_iconst (v := nI 5) (pc2 := 79) C dL_rigs_78 (by decide) rfl ?_
      refine q_ishr (v := (y >>> (nI 5 &&& 31))) (pc2 := 80) C dL_rigs_79 (rfl) rfl ?_
      refine q_bipush (v := nI 40) (pc2 := 82) C dL_rigs_80 (by decide) rfl ?_
      refine q_some (pc2 := 85) C (v := (y >>> (nI 5 &&& 31))) 40 (by omega) (by omega) (va_cwS 2 C.w gL_rigs_L_some rfl rfl rfl (by decide +kernel) ⟨Nat.le_of_ble_eq_true rfl, Nat.le_of_ble_eq_true rfl⟩) dL_rigs_82 rfl ⟨Nat.le_of_ble_eq_true rfl, Nat.le_of_ble_eq_true rfl⟩ (Nat.le_of_ble_eq_true rfl) (fun m82 hm82 => ?_)
      refine q_if_ne (tgt := 93) (pc2 := 88) C dL_rigs_85 (by decide) rfl (fun c85 => ?_) (fun c85 => ?_)
      · skip
        have k85 : m82 ≠ 0 := fun z => c85 ((nI_eq (a := m82) (b := 0) (by omega) (by omega)).mpr z)
        refine q_iload_n (pc2 := 94) C 5 dL_rigs_93 rfl rfl rfl ?_
        refine q_iconst (v := nI 5) (pc2 := 95) C dL_rigs_94 (by decide) rfl ?_
        refine q_ishr (v := (y >>> (nI 5 &&& 31))) (pc2 := 96) C dL_rigs_95 (rfl) rfl ?_
        refine q_bipush (v := nI 16) (pc2 := 98) C dL_rigs_96 (by decide) rfl ?_
        refine q_some (pc2 := 101) C (v := (y >>> (nI 5 &&& 31))) 16 (by omega) (by omega) (va_cwS 2 C.w gL_rigs_L_some rfl rfl rfl (by decide +kernel) ⟨Nat.le_of_ble_eq_true rfl, Nat.le_of_ble_eq_true rfl⟩) dL_rigs_98 rfl ⟨Nat.le_of_ble_eq_true rfl, Nat.le_of_ble_eq_true rfl⟩ (Nat.le_of_ble_eq_true rfl) (fun m98 hm98 => ?_)
        exact hj101 m98 (by omega)
      · skip
        have k85 : m82 = 0 := (nI_eq (a := m82) (b := 0) (by omega) (by omega)).mp (c85)
        refine q_bipush (v := nI 101) (pc2 := 90) C dL_rigs_88 (by decide) rfl ?_
        refine q_goto (pc2 := 101) C dL_rigs_90 (by decide) ?_
        exact hj101 101 (by omega)
    refine q_iload_n (pc2 := 54) C 4 dL_rigs_53 rfl rfl rfl ?_
    refine q_iconst (v := nI 2) (pc2 := 55) C dL_rigs_54 (by decide) rfl ?_
    refine q_ishr (v := (y >>> (nI 2 &&& 31))) (pc2 := 56) C dL_rigs_55 (rfl) rfl ?_
    refine q_bipush (v := nI 20) (pc2 := 58) C dL_rigs_56 (by decide) rfl ?_
    refine q_some (pc2 := 61) C (v := (y >>> (nI 2 &&& 31))) 20 (by omega) (by omega) (va_cwS 2 C.w gL_rigs_L_some rfl rfl rfl (by decide +kernel) ⟨Nat.le_of_ble_eq_true rfl, Nat.le_of_ble_eq_true rfl⟩) dL_rigs_58 rfl ⟨Nat.le_of_ble_eq_true rfl, Nat.le_of_ble_eq_true rfl⟩ (Nat.le_of_ble_eq_true rfl) (fun m58 hm58 => ?_)
    refine q_if_ne (tgt := 68) (pc2 := 64) C dL_rigs_61 (by decide) rfl (fun c61 => ?_) (fun c61 => ?_)
    · skip
      have k61 : m58 ≠ 0 := fun z => c61 ((nI_eq (a := m58) (b := 0) (by omega) (by omega)).mpr z)
      refine q_iload_n (pc2 := 69) C 4 dL_rigs_68 rfl rfl rfl ?_
      refine q_iconst (v := nI 2) (pc2 := 70) C dL_rigs_69 (by decide) rfl ?_
      refine q_ishr (v := (y >>> (nI 2 &&& 31))) (pc2 := 71) C dL_rigs_70 (rfl) rfl ?_
      refine q_iconst (v := nI 2) (pc2 := 72) C dL_rigs_71 (by decide) rfl ?_
      refine q_some (pc2 := 75) C (v := (y >>> (nI 2 &&& 31))) 2 (by omega) (by omega) (va_cwS 2 C.w gL_rigs_L_some rfl rfl rfl (by decide +kernel) ⟨Nat.le_of_ble_eq_true rfl, Nat.le_of_ble_eq_true rfl⟩) dL_rigs_72 rfl ⟨Nat.le_of_ble_eq_true rfl, Nat.le_of_ble_eq_true rfl⟩ (Nat.le_of_ble_eq_true rfl) (fun m72 hm72 => ?_)
      exact hj75 m72 (by omega)
    · skip
      have k61 : m58 = 0 := (nI_eq (a := m58) (b := 0) (by omega) (by omega)).mp (c61)
      refine q_iconst (v := nI 2) (pc2 := 65) C dL_rigs_64 (by decide) rfl ?_
      refine q_goto (pc2 := 75) C dL_rigs_65 (by decide) ?_
      exact hj75 2 (by omega)
  refine q_iload_n (pc2 := 1) C 2 dL_rigs_0 rfl rfl rfl ?_
  refine q_aload_n (pc2 := 2) C 3 dL_rigs_1 rfl rfl rfl ?_
  refine q_iconst (v := nI 3) (pc2 := 3) C dL_rigs_2 (by decide) rfl ?_
  refine q_iald (q0 := 26) (f := fc) (pc2 := 4) C 3 (wT_g0 ct a x fc fb fp fq fn fl) rfl (rfl) (by decide) (by decide) dL_rigs_3 rfl ?_
  refine q_eqi (y := nI n) (hc3) ?_
  refine q_iconst (v := nI 1) (pc2 := 5) C dL_rigs_4 (by decide) rfl ?_
  refine q_iadd (v := nI (n + 1)) (pc2 := 6) C dL_rigs_5 (nI_add n 1) rfl ?_
  refine q_some (pc2 := 9) C (v := y) (n + 1) (by omega) (by omega) (va_cwS 2 C.w gL_rigs_L_some rfl rfl rfl (by decide +kernel) ⟨Nat.le_of_ble_eq_true rfl, Nat.le_of_ble_eq_true rfl⟩) dL_rigs_6 rfl ⟨Nat.le_of_ble_eq_true rfl, Nat.le_of_ble_eq_true rfl⟩ (Nat.le_of_ble_eq_true rfl) (fun m6 hm6 => ?_)
  have hj26 : ∀ e1 : Nat, (e1 ≤ 1) → Cf p l e ({ frames := 9, cells := 2, slots := 12, locals := 160 }) s m args below meth c D A 14 0 0 Q 26 [(0, .ref (a 30)), (1, .int (nI 0)), (2, .int y), (3, .ref (a 40)), (4, .ref (a 41)), (5, .ref (a 42))] [.int (nI e1), .int (nI m6)] (wT ct a x fc fb fp fq fn fl) := by
    intro e1 he1
    rcases pick_lamp hn5 hm6 he1 with ⟨i, hi, ei⟩ | hv
    · skip
      refine q_isub (v := nI i) (pc2 := 27) C dL_rigs_26 (ei) rfl ?_
      refine q_istore (lv' := [(6, .int (nI i)), (0, .ref (a 30)), (1, .int (nI 0)), (2, .int y), (3, .ref (a 40)), (4, .ref (a 41)), (5, .ref (a 42))]) (pc2 := 29) C dL_rigs_27 (by decide) rfl rfl ?_
      refine q_iload (pc2 := 31) C 0 dL_rigs_29 rfl rfl ?_
      refine q_if_lt (tgt := 46) (pc2 := 34) C dL_rigs_31 (by decide) rfl (fun h9 => absurd h9 (nI_nlt (a := i) (b := 0) (by omega) (by omega))) (fun _ => ?_)
      refine q_iload (pc2 := 36) C 0 dL_rigs_34 rfl rfl ?_
      refine q_aload_n (pc2 := 37) C 4 dL_rigs_36 rfl rfl rfl ?_
      refine q_iconst (v := nI 3) (pc2 := 38) C dL_rigs_37 (by decide) rfl ?_
      refine q_iald (q0 := 26) (f := fc) (pc2 := 39) C 3 (wT_g0 ct a x fc fb fp fq fn fl) rfl (rfl) (by decide) (by decide) dL_rigs_38 rfl ?_
      refine q_eqi (y := nI n) (hc3) ?_
      refine q_icmp_ge (tgt := 46) (pc2 := 42) C dL_rigs_39 (by decide) rfl (fun h9 => absurd h9 (nI_ge (a := i) (b := n) (by omega) (by omega))) (fun _ => ?_)
      refine q_iconst (v := nI 1) (pc2 := 43) C dL_rigs_42 (by decide) rfl ?_
      refine q_goto (pc2 := 47) C dL_rigs_43 (by decide) ?_
      refine q_istore (lv' := [(7, .int (nI 1)), (6, .int (nI i)), (0, .ref (a 30)), (1, .int (nI 0)), (2, .int y), (3, .ref (a 40)), (4, .ref (a 41)), (5, .ref (a 42))]) (pc2 := 49) C dL_rigs_47 (by decide) rfl rfl ?_
      exact hG _ _
    · skip
      refine q_isub (v := (nI m6 - nI e1)) (pc2 := 27) C dL_rigs_26 (rfl) rfl ?_
      refine q_istore (lv' := [(6, .int (nI m6 - nI e1)), (0, .ref (a 30)), (1, .int (nI 0)), (2, .int y), (3, .ref (a 40)), (4, .ref (a 41)), (5, .ref (a 42))]) (pc2 := 29) C dL_rigs_27 (by decide) rfl rfl ?_
      refine q_iload (pc2 := 31) C 0 dL_rigs_29 rfl rfl ?_
      refine q_if_lt (tgt := 46) (pc2 := 34) C dL_rigs_31 (by decide) rfl (fun c31 => ?_) (fun c31 => ?_)
      · skip
        refine q_iconst (v := nI 0) (pc2 := 47) C dL_rigs_46 (by decide) rfl ?_
        refine q_istore (lv' := [(7, .int (nI 0)), (6, .int (nI m6 - nI e1)), (0, .ref (a 30)), (1, .int (nI 0)), (2, .int y), (3, .ref (a 40)), (4, .ref (a 41)), (5, .ref (a 42))]) (pc2 := 49) C dL_rigs_47 (by decide) rfl rfl ?_
        exact hG _ _
      · skip
        refine q_iload (pc2 := 36) C 0 dL_rigs_34 rfl rfl ?_
        refine q_aload_n (pc2 := 37) C 4 dL_rigs_36 rfl rfl rfl ?_
        refine q_iconst (v := nI 3) (pc2 := 38) C dL_rigs_37 (by decide) rfl ?_
        refine q_iald (q0 := 26) (f := fc) (pc2 := 39) C 3 (wT_g0 ct a x fc fb fp fq fn fl) rfl (rfl) (by decide) (by decide) dL_rigs_38 rfl ?_
        refine q_eqi (y := nI n) (hc3) ?_
        refine q_icmp_ge (tgt := 46) (pc2 := 42) C dL_rigs_39 (by decide) rfl (fun _ => ?_) (fun h9 => absurd (Int32.not_lt.mp (fun z9 => hv ⟨Int32.not_lt.mp c31, z9⟩)) h9)
        refine q_iconst (v := nI 0) (pc2 := 47) C dL_rigs_46 (by decide) rfl ?_
        refine q_istore (lv' := [(7, .int (nI 0)), (6, .int (nI m6 - nI e1)), (0, .ref (a 30)), (1, .int (nI 0)), (2, .int y), (3, .ref (a 40)), (4, .ref (a 41)), (5, .ref (a 42))]) (pc2 := 49) C dL_rigs_47 (by decide) rfl rfl ?_
        exact hG _ _
  refine q_iload_n (pc2 := 10) C 2 dL_rigs_9 rfl rfl rfl ?_
  refine q_bipush (v := nI 11) (pc2 := 12) C dL_rigs_10 (by decide) rfl ?_
  refine q_ishr (v := (y >>> (nI 11 &&& 31))) (pc2 := 13) C dL_rigs_12 (rfl) rfl ?_
  refine q_bipush (v := nI 19) (pc2 := 15) C dL_rigs_13 (by decide) rfl ?_
  refine q_some (pc2 := 18) C (v := (y >>> (nI 11 &&& 31))) 19 (by omega) (by omega) (va_cwS 2 C.w gL_rigs_L_some rfl rfl rfl (by decide +kernel) ⟨Nat.le_of_ble_eq_true rfl, Nat.le_of_ble_eq_true rfl⟩) dL_rigs_15 rfl ⟨Nat.le_of_ble_eq_true rfl, Nat.le_of_ble_eq_true rfl⟩ (Nat.le_of_ble_eq_true rfl) (fun m15 hm15 => ?_)
  refine q_if_ne (tgt := 25) (pc2 := 21) C dL_rigs_18 (by decide) rfl (fun c18 => ?_) (fun c18 => ?_)
  · skip
    have k18 : m15 ≠ 0 := fun z => c18 ((nI_eq (a := m15) (b := 0) (by omega) (by omega)).mpr z)
    refine q_iconst (v := nI 0) (pc2 := 26) C dL_rigs_25 (by decide) rfl ?_
    exact hj26 0 (by omega)
  · skip
    have k18 : m15 = 0 := (nI_eq (a := m15) (b := 0) (by omega) (by omega)).mp (c18)
    refine q_iconst (v := nI 1) (pc2 := 22) C dL_rigs_21 (by decide) rfl ?_
    refine q_goto (pc2 := 26) C dL_rigs_22 (by decide) ?_
    exact hj26 1 (by omega)

