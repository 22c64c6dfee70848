/-! plays: a cue -/
set_option maxHeartbeats 4000000 in
set_option maxRecDepth 100000 in
theorem c_L_plays_0 (l : Launch) (D : va_G) (ct : Nat → ClassId) (hl : l.stackTraces = false) (a : Nat → Nat) (x : Nat → Nat → Int32) (fc fb fp fq fn fl : Nat → Int32) (y : Int32) (M : Nat) (hM4 : M ≤ 10000) (r0 : RE M x fc fb fp fq fn fl) : qM l yL_plays wsL_plays ({ frames := 9, cells := 2, slots := 12, locals := 160 }) D ct [.ref (a 30), .int (nI 0), .int y, .ref (a 40), .ref (a 42), .ref (a 43), .ref (a 44), .ref (a 45)] (wT ct a x fc fb fp fq fn fl) (pR ct a (M + 50)) 2 12 := by
  refine q_start (ret := some .boolean) (lv := [(0, .ref (a 30)), (1, .int (nI 0)), (2, .int y), (3, .ref (a 40)), (4, .ref (a 42)), (5, .ref (a 43)), (6, .ref (a 44)), (7, .ref (a 45))]) (by decide +kernel) rfl (Nat.le_of_ble_eq_true rfl) rfl ?_
  intro p e s m args below meth c A Q C hQ hnm
  obtain ⟨n, h, q, b, t, kb, K, S, F, V, ht, r⟩ := r0
  obtain ⟨rh, rl, rr, rp, rc, rs, hbq⟩ := id r
  obtain ⟨hlt, hx4, hc0, hkbs, hlen⟩ := id rh
  obtain ⟨hn5, hx0, hc3, hlow, hall, hhigh⟩ := id rl
  obtain ⟨hq4, hx16, hc4, hcue, hfd, hnam, hnaz⟩ := id rc
  obtain ⟨hx22, hc5, hx21, hc7, hc6, hx23, hfl, hlvr, hlev⟩ := id rs
  obtain ⟨hkb2, hx5, hck⟩ := hkbs h hlt
  have hK : ∀ k, k < n → fp k = nI (K k) ∧ K k < 4 := fun k hk => ⟨(hlow k hk).2.1, (hlow k hk).1⟩
  have hb4 : b ≤ 4 := by omega
  have htB : t < 2 ^ 29 := by omega
  have hG : ∀ v z : Int32, Cf p l e ({ frames := 9, cells := 2, slots := 12, locals := 160 }) s m args below meth c D A 15 0 0 Q 49 [(9, .int z), (8, .int v), (0, .ref (a 30)), (1, .int (nI 0)), (2, .int y), (3, .ref (a 40)), (4, .ref (a 42)), (5, .ref (a 43)), (6, .ref (a 44)), (7, .ref (a 45))] [] (wT ct a x fc fb fp fq fn fl) := by
    intro v z
    refine q_iload_n (pc2 := 50) C 3 dL_plays_49 rfl rfl rfl ?_
    refine q_if_ne (tgt := 277) (pc2 := 53) C dL_plays_50 (by decide) rfl (fun h9 => absurd (by decide) h9) (fun _ => ?_)
    have hj91 : ∀ fa : Nat, (fa ≤ 19 ∨ fa = 51) → Cf p l e ({ frames := 9, cells := 2, slots := 12, locals := 160 }) s m args below meth c D A 15 0 0 Q 91 [(9, .int z), (8, .int v), (0, .ref (a 30)), (1, .int (nI 0)), (2, .int y), (3, .ref (a 40)), (4, .ref (a 42)), (5, .ref (a 43)), (6, .ref (a 44)), (7, .ref (a 45))] [.int (nI fa)] (wT ct a x fc fb fp fq fn fl) := by
      intro fa hfa
      refine q_istore (lv' := [(10, .int (nI fa)), (9, .int z), (8, .int v), (0, .ref (a 30)), (1, .int (nI 0)), (2, .int y), (3, .ref (a 40)), (4, .ref (a 42)), (5, .ref (a 43)), (6, .ref (a 44)), (7, .ref (a 45))]) (pc2 := 93) C dL_plays_91 (by decide) rfl rfl ?_
      have hj115 : ∀ cv : Nat, (cv ≤ 3) → Cf p l e ({ frames := 9, cells := 2, slots := 12, locals := 160 }) s m args below meth c D A 15 0 0 Q 115 [(10, .int (nI fa)), (9, .int z), (8, .int v), (0, .ref (a 30)), (1, .int (nI 0)), (2, .int y), (3, .ref (a 40)), (4, .ref (a 42)), (5, .ref (a 43)), (6, .ref (a 44)), (7, .ref (a 45))] [.int (nI cv)] (wT ct a x fc fb fp fq fn fl) := by
        intro cv hcv
        refine q_istore (lv' := [(11, .int (nI cv)), (10, .int (nI fa)), (9, .int z), (8, .int v), (0, .ref (a 30)), (1, .int (nI 0)), (2, .int y), (3, .ref (a 40)), (4, .ref (a 42)), (5, .ref (a 43)), (6, .ref (a 44)), (7, .ref (a 45))]) (pc2 := 117) C dL_plays_115 (by decide) rfl rfl ?_
        have hj158 : ∀ fo : Int32, (fo = -2 ∨ fo = -1 ∨ ∃ m9, m9 ≤ 5 ∧ fo = nI m9) → Cf p l e ({ frames := 9, cells := 2, slots := 12, locals := 160 }) s m args below meth c D A 15 0 0 Q 158 [(11, .int (nI cv)), (10, .int (nI fa)), (9, .int z), (8, .int v), (0, .ref (a 30)), (1, .int (nI 0)), (2, .int y), (3, .ref (a 40)), (4, .ref (a 42)), (5, .ref (a 43)), (6, .ref (a 44)), (7, .ref (a 45))] [.int fo] (wT ct a x fc fb fp fq fn fl) := by
          intro fo hfo
          refine q_istore (lv' := [(12, .int fo), (11, .int (nI cv)), (10, .int (nI fa)), (9, .int z), (8, .int v), (0, .ref (a 30)), (1, .int (nI 0)), (2, .int y), (3, .ref (a 40)), (4, .ref (a 42)), (5, .ref (a 43)), (6, .ref (a 44)), (7, .ref (a 45))]) (pc2 := 160) C dL_plays_158 (by decide) rfl rfl ?_
          refine q_iload (pc2 := 162) C 2 dL_plays_160 rfl rfl ?_
          refine q_bipush (v := nI 51) (pc2 := 164) C dL_plays_162 (by decide) rfl ?_
          refine q_icmp_ge (tgt := 184) (pc2 := 167) C dL_plays_164 (by decide) rfl (fun c164 => ?_) (fun c164 => ?_)
          · skip
            have k164 : 51 ≤ fa := (nI_leI (a := 51) (b := fa) (by omega) (by omega)).mp c164
            refine q_iconst (v := nI 0) (pc2 := 185) C dL_plays_184 (by decide) rfl ?_
            refine q_istore (lv' := [(13, .int (nI 0)), (12, .int fo), (11, .int (nI cv)), (10, .int (nI fa)), (9, .int z), (8, .int v), (0, .ref (a 30)), (1, .int (nI 0)), (2, .int y), (3, .ref (a 40)), (4, .ref (a 42)), (5, .ref (a 43)), (6, .ref (a 44)), (7, .ref (a 45))]) (pc2 := 187) C dL_plays_185 (by decide) rfl rfl ?_
            refine q_iload (pc2 := 189) C 0 dL_plays_187 rfl rfl ?_
            refine q_if_eq (tgt := 201) (pc2 := 192) C dL_plays_189 (by decide) rfl (fun _ => ?_) (fun h9 => absurd (by decide) h9)
            refine q_iload (pc2 := 203) C 0 dL_plays_201 rfl rfl ?_
            refine q_if_eq (tgt := 242) (pc2 := 206) C dL_plays_203 (by decide) rfl (fun _ => ?_) (fun h9 => absurd (by decide) h9)
            refine q_aload_n (pc2 := 243) C 6 dL_plays_242 rfl rfl rfl ?_
            refine q_iconst (v := nI 1) (pc2 := 244) C dL_plays_243 (by decide) rfl ?_
            refine q_iload (pc2 := 246) C 3 dL_plays_244 rfl rfl ?_
            refine q_iload (pc2 := 248) C 2 dL_plays_246 rfl rfl ?_
            refine q_iload (pc2 := 250) C 1 dL_plays_248 rfl rfl ?_
            have hM := c_X3_cue l hl D ct a x q hx16 (by omega) (nI fa) (nI cv) fo
            rw [hx16] at hM
            refine q_Hno_wT (pc2 := 253) (As := [.ref (a 30), .int (nI 1), .int (nI fa), .int (nI cv), .int fo]) (st := []) (st2 := [.int (-101)]) (c2 := 1) (s2 := 6) C (c_L_made1 l D ct a x _ (nI fa) (nI cv) fo _ _ hM) (by rw [if_neg (fun z : 0 ≤ nI fa ∧ nI fa ≤ 50 => absurd z.2 (nI_ge (b := fa) (a := 50) (by omega) (by omega)))]) (by decide +kernel) (vx_cwSW 5 C.w gL_plays_L_made rfl rfl rfl (by decide +kernel) ⟨Nat.le_of_ble_eq_true rfl, Nat.le_of_ble_eq_true rfl⟩) dL_plays_250 rfl rfl (Nat.le_of_ble_eq_true rfl) ⟨Nat.le_of_ble_eq_true rfl, Nat.le_of_ble_eq_true rfl⟩ rfl rfl (hcd2A _) rfl rfl ?_
            refine q_iload (pc2 := 255) C 0 dL_plays_253 rfl rfl ?_
            refine q_if_eq (tgt := 266) (pc2 := 258) C dL_plays_255 (by decide) rfl (fun _ => ?_) (fun h9 => absurd (by decide) h9)
            refine q_bipush (v := (-101)) (pc2 := 268) C dL_plays_266 (by decide) rfl ?_
            refine q_icmp_ne (tgt := 275) (pc2 := 271) C dL_plays_268 (by decide) rfl (fun h9 => absurd (by decide) h9) (fun _ => ?_)
            refine q_iconst (v := nI 1) (pc2 := 272) C dL_plays_271 (by decide) rfl ?_
            refine q_goto (pc2 := 276) C dL_plays_272 (by decide) ?_
            exact q_zret C hQ rfl (rfl) (by omega) (by omega) dL_plays_276 ⟨rfl, _, _, _, _, _, _, _, rfl, (RE.mono (Nat.le_add_right M 50) ⟨n, h, q, b, t, kb, K, S, F, V, ht, r⟩)⟩
          · skip
            have k164 : fa < 51 := (nI_ltI (a := fa) (b := 51) (by omega) (by omega)).mp (Int32.not_le.mp c164)
            refine q_iload (pc2 := 169) C 1 dL_plays_167 rfl rfl ?_
            refine q_iconst (v := nI 3) (pc2 := 170) C dL_plays_169 (by decide) rfl ?_
            refine q_icmp_ge (tgt := 184) (pc2 := 173) C dL_plays_170 (by decide) rfl (fun c170 => ?_) (fun c170 => ?_)
            · skip
              have k170 : 3 ≤ cv := (nI_leI (a := 3) (b := cv) (by omega) (by omega)).mp c170
              refine q_iconst (v := nI 0) (pc2 := 185) C dL_plays_184 (by decide) rfl ?_
              refine q_istore (lv' := [(13, .int (nI 0)), (12, .int fo), (11, .int (nI cv)), (10, .int (nI fa)), (9, .int z), (8, .int v), (0, .ref (a 30)), (1, .int (nI 0)), (2, .int y), (3, .ref (a 40)), (4, .ref (a 42)), (5, .ref (a 43)), (6, .ref (a 44)), (7, .ref (a 45))]) (pc2 := 187) C dL_plays_185 (by decide) rfl rfl ?_
              refine q_iload (pc2 := 189) C 0 dL_plays_187 rfl rfl ?_
              refine q_if_eq (tgt := 201) (pc2 := 192) C dL_plays_189 (by decide) rfl (fun _ => ?_) (fun h9 => absurd (by decide) h9)
              refine q_iload (pc2 := 203) C 0 dL_plays_201 rfl rfl ?_
              refine q_if_eq (tgt := 242) (pc2 := 206) C dL_plays_203 (by decide) rfl (fun _ => ?_) (fun h9 => absurd (by decide) h9)
              refine q_aload_n (pc2 := 243) C 6 dL_plays_242 rfl rfl rfl ?_
              refine q_iconst (v := nI 1) (pc2 := 244) C dL_plays_243 (by decide) rfl ?_
              refine q_iload (pc2 := 246) C 3 dL_plays_244 rfl rfl ?_
              refine q_iload (pc2 := 248) C 2 dL_plays_246 rfl rfl ?_
              refine q_iload (pc2 := 250) C 1 dL_plays_248 rfl rfl ?_
              have hM := c_X3_cue l hl D ct a x q hx16 (by omega) (nI fa) (nI cv) fo
              rw [hx16] at hM
              refine q_Hno_wT (pc2 := 253) (As := [.ref (a 30), .int (nI 1), .int (nI fa), .int (nI cv), .int fo]) (st := []) (st2 := [.int (-101)]) (c2 := 1) (s2 := 6) C (c_L_made1 l D ct a x _ (nI fa) (nI cv) fo _ _ hM) (by rw [if_pos (show 0 ≤ nI fa ∧ nI fa ≤ 50 from ⟨nI_pos' (by omega), nI_le (b := 50) (by omega) (by omega)⟩), if_neg (fun z : 0 ≤ nI cv ∧ nI cv ≤ 2 => absurd z.2 (nI_ge (b := cv) (a := 2) (by omega) (by omega)))]) (by decide +kernel) (vx_cwSW 5 C.w gL_plays_L_made rfl rfl rfl (by decide +kernel) ⟨Nat.le_of_ble_eq_true rfl, Nat.le_of_ble_eq_true rfl⟩) dL_plays_250 rfl rfl (Nat.le_of_ble_eq_true rfl) ⟨Nat.le_of_ble_eq_true rfl, Nat.le_of_ble_eq_true rfl⟩ rfl rfl (hcd2A _) rfl rfl ?_
              refine q_iload (pc2 := 255) C 0 dL_plays_253 rfl rfl ?_
              refine q_if_eq (tgt := 266) (pc2 := 258) C dL_plays_255 (by decide) rfl (fun _ => ?_) (fun h9 => absurd (by decide) h9)
              refine q_bipush (v := (-101)) (pc2 := 268) C dL_plays_266 (by decide) rfl ?_
              refine q_icmp_ne (tgt := 275) (pc2 := 271) C dL_plays_268 (by decide) rfl (fun h9 => absurd (by decide) h9) (fun _ => ?_)
              refine q_iconst (v := nI 1) (pc2 := 272) C dL_plays_271 (by decide) rfl ?_
              refine q_goto (pc2 := 276) C dL_plays_272 (by decide) ?_
              exact q_zret C hQ rfl (rfl) (by omega) (by omega) dL_plays_276 ⟨rfl, _, _, _, _, _, _, _, rfl, (RE.mono (Nat.le_add_right M 50) ⟨n, h, q, b, t, kb, K, S, F, V, ht, r⟩)⟩
            · skip
              have k170 : cv < 3 := (nI_ltI (a := cv) (b := 3) (by omega) (by omega)).mp (Int32.not_le.mp c170)
              refine q_iload (pc2 := 175) C 0 dL_plays_173 rfl rfl ?_
              refine q_bipush (v := (-2)) (pc2 := 177) C dL_plays_175 (by decide) rfl ?_
              refine q_icmp_le (tgt := 184) (pc2 := 180) C dL_plays_177 (by decide) rfl (fun c177 => ?_) (fun c177 => ?_)
              · skip
                refine q_iconst (v := nI 0) (pc2 := 185) C dL_plays_184 (by decide) rfl ?_
                refine q_istore (lv' := [(13, .int (nI 0)), (12, .int fo), (11, .int (nI cv)), (10, .int (nI fa)), (9, .int z), (8, .int v), (0, .ref (a 30)), (1, .int (nI 0)), (2, .int y), (3, .ref (a 40)), (4, .ref (a 42)), (5, .ref (a 43)), (6, .ref (a 44)), (7, .ref (a 45))]) (pc2 := 187) C dL_plays_185 (by decide) rfl rfl ?_
                refine q_iload (pc2 := 189) C 0 dL_plays_187 rfl rfl ?_
                refine q_if_eq (tgt := 201) (pc2 := 192) C dL_plays_189 (by decide) rfl (fun _ => ?_) (fun h9 => absurd (by decide) h9)
                refine q_iload (pc2 := 203) C 0 dL_plays_201 rfl rfl ?_
                refine q_if_eq (tgt := 242) (pc2 := 206) C dL_plays_203 (by decide) rfl (fun _ => ?_) (fun h9 => absurd (by decide) h9)
                refine q_aload_n (pc2 := 243) C 6 dL_plays_242 rfl rfl rfl ?_
                refine q_iconst (v := nI 1) (pc2 := 244) C dL_plays_243 (by decide) rfl ?_
                refine q_iload (pc2 := 246) C 3 dL_plays_244 rfl rfl ?_
                refine q_iload (pc2 := 248) C 2 dL_plays_246 rfl rfl ?_
                refine q_iload (pc2 := 250) C 1 dL_plays_248 rfl rfl ?_
                have hM := c_X3_cue l hl D ct a x q hx16 (by omega) (nI fa) (nI cv) fo
                rw [hx16] at hM
                refine q_Hno_wT (pc2 := 253) (As := [.ref (a 30), .int (nI 1), .int (nI fa), .int (nI cv), .int fo]) (st := []) (st2 := [.int (-101)]) (c2 := 1) (s2 := 6) C (c_L_made1 l D ct a x _ (nI fa) (nI cv) fo _ _ hM) (by rw [if_pos (show 0 ≤ nI fa ∧ nI fa ≤ 50 from ⟨nI_pos' (by omega), nI_le (b := 50) (by omega) (by omega)⟩), if_pos (show 0 ≤ nI cv ∧ nI cv ≤ 2 from ⟨nI_pos' (by omega), nI_le (b := 2) (by omega) (by omega)⟩), if_neg (fun z : -1 ≤ fo ∧ fo ≤ 50 => absurd (Int32.le_trans z.1 c177) (by decide))]) (by decide +kernel) (vx_cwSW 5 C.w gL_plays_L_made rfl rfl rfl (by decide +kernel) ⟨Nat.le_of_ble_eq_true rfl, Nat.le_of_ble_eq_true rfl⟩) dL_plays_250 rfl rfl (Nat.le_of_ble_eq_true rfl) ⟨Nat.le_of_ble_eq_true rfl, Nat.le_of_ble_eq_true rfl⟩ rfl rfl (hcd2A _) rfl rfl ?_
                refine q_iload (pc2 := 255) C 0 dL_plays_253 rfl rfl ?_
                refine q_if_eq (tgt := 266) (pc2 := 258) C dL_plays_255 (by decide) rfl (fun _ => ?_) (fun h9 => absurd (by decide) h9)
                refine q_bipush (v := (-101)) (pc2 := 268) C dL_plays_266 (by decide) rfl ?_
                refine q_icmp_ne (tgt := 275) (pc2 := 271) C dL_plays_268 (by decide) rfl (fun h9 => absurd (by decide) h9) (fun _ => ?_)
                refine q_iconst (v := nI 1) (pc2 := 272) C dL_plays_271 (by decide) rfl ?_
                refine q_goto (pc2 := 276) C dL_plays_272 (by decide) ?_
                exact q_zret C hQ rfl (rfl) (by omega) (by omega) dL_plays_276 ⟨rfl, _, _, _, _, _, _, _, rfl, (RE.mono (Nat.le_add_right M 50) ⟨n, h, q, b, t, kb, K, S, F, V, ht, r⟩)⟩
              · skip
                refine q_iconst (v := nI 1) (pc2 := 181) C dL_plays_180 (by decide) rfl ?_
                refine q_goto (pc2 := 185) C dL_plays_181 (by decide) ?_
                refine q_istore (lv' := [(13, .int (nI 1)), (12, .int fo), (11, .int (nI cv)), (10, .int (nI fa)), (9, .int z), (8, .int v), (0, .ref (a 30)), (1, .int (nI 0)), (2, .int y), (3, .ref (a 40)), (4, .ref (a 42)), (5, .ref (a 43)), (6, .ref (a 44)), (7, .ref (a 45))]) (pc2 := 187) C dL_plays_185 (by decide) rfl rfl ?_
                refine q_iload (pc2 := 189) C 0 dL_plays_187 rfl rfl ?_
                refine q_if_eq (tgt := 201) (pc2 := 192) C dL_plays_189 (by decide) rfl (fun h9 => absurd h9 (by decide)) (fun _ => ?_)
                refine q_aload_n (pc2 := 193) C 9 dL_plays_192 rfl rfl rfl ?_
                refine q_iconst (v := nI 4) (pc2 := 194) C dL_plays_193 (by decide) rfl ?_
                refine q_iald (q0 := 26) (f := fc) (pc2 := 195) C 4 (wT_g0 ct a x fc fb fp fq fn fl) rfl (rfl) (by decide) (by decide) dL_plays_194 rfl ?_
                refine q_eqi (y := nI q) (hc4) ?_
                refine q_iconst (v := nI 4) (pc2 := 196) C dL_plays_195 (by decide) rfl ?_
                refine q_icmp_ne (tgt := 201) (pc2 := 199) C dL_plays_196 (by decide) rfl (fun c196 => ?_) (fun c196 => ?_)
                · skip
                  have k196 : q ≠ 4 := fun z => c196 ((nI_eq (a := q) (b := 4) (by omega) (by omega)).mpr z)
                  refine q_iload (pc2 := 203) C 0 dL_plays_201 rfl rfl ?_
                  refine q_if_eq (tgt := 242) (pc2 := 206) C dL_plays_203 (by decide) rfl (fun h9 => absurd h9 (by decide)) (fun _ => ?_)
                  refine q_aload (pc2 := 208) C 11 dL_plays_206 rfl rfl ?_
                  refine q_aload_n (pc2 := 209) C 9 dL_plays_208 rfl rfl rfl ?_
                  refine q_iconst (v := nI 4) (pc2 := 210) C dL_plays_209 (by decide) rfl ?_
                  refine q_iald (q0 := 26) (f := fc) (pc2 := 211) C 4 (wT_g0 ct a x fc fb fp fq fn fl) rfl (rfl) (by decide) (by decide) dL_plays_210 rfl ?_
                  refine q_eqi (y := nI q) (hc4) ?_
                  refine q_iload (pc2 := 213) C 3 dL_plays_211 rfl rfl ?_
                  refine q_iast (q0 := 29) (f := fq) (ws' := (wT ct a x fc fb fp (upd fq q (nI fa)) fn fl)) (pc2 := 214) C q (wT_g3 ct a x fc fb fp fq fn fl) rfl (rfl) (by omega) (by decide) (wT_a3 ct a x fc fb fp fq fn fl (upd fq q (nI fa))) dL_plays_213 rfl ?_
                  refine q_aload (pc2 := 216) C 11 dL_plays_214 rfl rfl ?_
                  refine q_iconst (v := nI 4) (pc2 := 217) C dL_plays_216 (by decide) rfl ?_
                  refine q_aload_n (pc2 := 218) C 9 dL_plays_217 rfl rfl rfl ?_
                  refine q_iconst (v := nI 4) (pc2 := 219) C dL_plays_218 (by decide) rfl ?_
                  refine q_iald (q0 := 26) (f := fc) (pc2 := 220) C 4 (wT_g0 ct a x fc fb fp (upd fq q (nI fa)) fn fl) rfl (rfl) (by decide) (by decide) dL_plays_219 rfl ?_
                  refine q_eqi (y := nI q) (hc4) ?_
                  refine q_iadd (v := nI (4 + q)) (pc2 := 221) C dL_plays_220 (nI_add 4 q) rfl ?_
                  refine q_iload (pc2 := 223) C 2 dL_plays_221 rfl rfl ?_
                  refine q_iast (q0 := 29) (f := (upd fq q (nI fa))) (ws' := (wT ct a x fc fb fp (upd (upd fq q (nI fa)) (4 + q) (nI cv)) fn fl)) (pc2 := 224) C (4 + q) (wT_g3 ct a x fc fb fp (upd fq q (nI fa)) fn fl) rfl (rfl) (by omega) (by decide) (wT_a3 ct a x fc fb fp (upd fq q (nI fa)) fn fl (upd (upd fq q (nI fa)) (4 + q) (nI cv))) dL_plays_223 rfl ?_
                  refine q_aload (pc2 := 226) C 11 dL_plays_224 rfl rfl ?_
                  refine q_bipush (v := nI 8) (pc2 := 228) C dL_plays_226 (by decide) rfl ?_
                  refine q_aload_n (pc2 := 229) C 9 dL_plays_228 rfl rfl rfl ?_
                  refine q_iconst (v := nI 4) (pc2 := 230) C dL_plays_229 (by decide) rfl ?_
                  refine q_iald (q0 := 26) (f := fc) (pc2 := 231) C 4 (wT_g0 ct a x fc fb fp (upd (upd fq q (nI fa)) (4 + q) (nI cv)) fn fl) rfl (rfl) (by decide) (by decide) dL_plays_230 rfl ?_
                  refine q_eqi (y := nI q) (hc4) ?_
                  refine q_iadd (v := nI (8 + q)) (pc2 := 232) C dL_plays_231 (nI_add 8 q) rfl ?_
                  refine q_iload (pc2 := 234) C 1 dL_plays_232 rfl rfl ?_
                  refine q_iast (q0 := 29) (f := (upd (upd fq q (nI fa)) (4 + q) (nI cv))) (ws' := (wT ct a x fc fb fp (upd (upd (upd fq q (nI fa)) (4 + q) (nI cv)) (8 + q) fo) fn fl)) (pc2 := 235) C (8 + q) (wT_g3 ct a x fc fb fp (upd (upd fq q (nI fa)) (4 + q) (nI cv)) fn fl) rfl (rfl) (by omega) (by decide) (wT_a3 ct a x fc fb fp (upd (upd fq q (nI fa)) (4 + q) (nI cv)) fn fl (upd (upd (upd fq q (nI fa)) (4 + q) (nI cv)) (8 + q) fo)) dL_plays_234 rfl ?_
                  refine q_aload_n (pc2 := 236) C 9 dL_plays_235 rfl rfl rfl ?_
                  refine q_iconst (v := nI 4) (pc2 := 237) C dL_plays_236 (by decide) rfl ?_
                  refine q_dup2 (pc2 := 238) C dL_plays_237 rfl rfl rfl ?_
                  refine q_iald (q0 := 26) (f := fc) (pc2 := 239) C 4 (wT_g0 ct a x fc fb fp (upd (upd (upd fq q (nI fa)) (4 + q) (nI cv)) (8 + q) fo) fn fl) rfl (rfl) (by decide) (by decide) dL_plays_238 rfl ?_
                  refine q_eqi (y := nI q) (hc4) ?_
                  refine q_iconst (v := nI 1) (pc2 := 240) C dL_plays_239 (by decide) rfl ?_
                  refine q_iadd (v := nI (q + 1)) (pc2 := 241) C dL_plays_240 (nI_add q 1) rfl ?_
                  refine q_iast (q0 := 26) (f := fc) (ws' := (wT ct a x (upd fc 4 (nI (q + 1))) fb fp (upd (upd (upd fq q (nI fa)) (4 + q) (nI cv)) (8 + q) fo) fn fl)) (pc2 := 242) C 4 (wT_g0 ct a x fc fb fp (upd (upd (upd fq q (nI fa)) (4 + q) (nI cv)) (8 + q) fo) fn fl) rfl (rfl) (by decide) (by decide) (wT_a0 ct a x fc fb fp (upd (upd (upd fq q (nI fa)) (4 + q) (nI cv)) (8 + q) fo) fn fl (upd fc 4 (nI (q + 1)))) dL_plays_241 rfl ?_
                  refine q_aload_n (pc2 := 243) C 6 dL_plays_242 rfl rfl rfl ?_
                  refine q_iconst (v := nI 1) (pc2 := 244) C dL_plays_243 (by decide) rfl ?_
                  refine q_iload (pc2 := 246) C 3 dL_plays_244 rfl rfl ?_
                  refine q_iload (pc2 := 248) C 2 dL_plays_246 rfl rfl ?_
                  refine q_iload (pc2 := 250) C 1 dL_plays_248 rfl rfl ?_
                  have hM := c_X3_cue l hl D ct a x q hx16 (by omega) (nI fa) (nI cv) fo
                  rw [hx16] at hM
                  have hfo1 : -1 ≤ fo ∧ fo ≤ 50 := by
                    rcases hfo with w | w | ⟨m9, hm9, w⟩
                    · exact absurd (by rw [w]; decide) c177
                    · rw [w]; decide
                    · rw [w]; exact ⟨Int32.le_trans (by decide) (nI_pos' (by omega)), nI_le (b := 50) (by omega) (by omega)⟩
                  refine q_Hok_wT (pc2 := 253) (As := [.ref (a 30), .int (nI 1), .int (nI fa), .int (nI cv), .int fo]) (st := []) (st2 := [.int (nI q)]) (x' := (set2 (set2 (set2 (set2 x 16 (fun _ => nI q + 1)) 17 (upd (x 17) q (nI fa))) 18 (upd (x 18) q (nI cv))) 19 (upd (x 19) q fo))) C (c_L_made1 l D ct a x _ (nI fa) (nI cv) fo _ _ hM) (by rw [if_pos (show 0 ≤ nI fa ∧ nI fa ≤ 50 from ⟨nI_pos' (by omega), nI_le (b := 50) (by omega) (by omega)⟩), if_pos (show 0 ≤ nI cv ∧ nI cv ≤ 2 from ⟨nI_pos' (by omega), nI_le (b := 2) (by omega) (by omega)⟩), if_pos hfo1, if_pos (show nI q < 8 from nI_lt (b := 8) (by omega) (by omega))]) (vx_cwSW 5 C.w gL_plays_L_made rfl rfl rfl (by decide +kernel) ⟨Nat.le_of_ble_eq_true rfl, Nat.le_of_ble_eq_true rfl⟩) dL_plays_250 rfl rfl (Nat.le_of_ble_eq_true rfl) ⟨Nat.zero_le _, Nat.zero_le _⟩ rfl rfl ?_
                  refine q_iload (pc2 := 255) C 0 dL_plays_253 rfl rfl ?_
                  refine q_if_eq (tgt := 266) (pc2 := 258) C dL_plays_255 (by decide) rfl (fun h9 => absurd h9 (by decide)) (fun _ => ?_)
                  refine q_aload_n (pc2 := 259) C 9 dL_plays_258 rfl rfl rfl ?_
                  refine q_iconst (v := nI 4) (pc2 := 260) C dL_plays_259 (by decide) rfl ?_
                  refine q_iald (q0 := 26) (f := (upd fc 4 (nI (q + 1)))) (pc2 := 261) C 4 (wT_g0 ct a (set2 (set2 (set2 (set2 x 16 (fun _ => nI q + 1)) 17 (upd (x 17) q (nI fa))) 18 (upd (x 18) q (nI cv))) 19 (upd (x 19) q fo)) (upd fc 4 (nI (q + 1))) fb fp (upd (upd (upd fq q (nI fa)) (4 + q) (nI cv)) (8 + q) fo) fn fl) rfl (rfl) (by decide) (by decide) dL_plays_260 rfl ?_
                  refine q_eqi (y := nI (q + 1)) (upd_s) ?_
                  refine q_iconst (v := nI 1) (pc2 := 262) C dL_plays_261 (by decide) rfl ?_
                  refine q_isub (v := nI q) (pc2 := 263) C dL_plays_262 (nI_pred q) rfl ?_
                  refine q_goto (pc2 := 268) C dL_plays_263 (by decide) ?_
                  refine q_icmp_ne (tgt := 275) (pc2 := 271) C dL_plays_268 (by decide) rfl (fun h9 => absurd (rfl) h9) (fun _ => ?_)
                  refine q_iconst (v := nI 1) (pc2 := 272) C dL_plays_271 (by decide) rfl ?_
                  refine q_goto (pc2 := 276) C dL_plays_272 (by decide) ?_
                  exact q_zret C hQ rfl (rfl) (Nat.zero_le _) (Nat.zero_le _) dL_plays_276 ⟨rfl, _, _, _, _, _, _, _, rfl, ⟨n, h, q + 1, b, t, kb, K, S, _, _, Nat.le_trans ht (Nat.le_add_right M 50), (by have hh := st_cue r (fa := fa) (cv := cv) (by omega) (by omega) (by omega) fo; rw [hx16] at hh; exact hh)⟩⟩
                · skip
                  have k196 : q = 4 := (nI_eq (a := q) (b := 4) (by omega) (by omega)).mp (c196)
                  refine q_iconst (v := nI 1) (pc2 := 200) C dL_plays_199 (by decide) rfl ?_
                  exact q_zret C hQ rfl (rfl) (Nat.zero_le _) (Nat.zero_le _) dL_plays_200 ⟨rfl, _, _, _, _, _, _, _, rfl, (RE.mono (Nat.le_add_right M 50) ⟨n, h, q, b, t, kb, K, S, F, V, ht, r⟩)⟩
        refine q_iload_n (pc2 := 118) C 6 dL_plays_117 rfl rfl rfl ?_
        refine q_bipush (v := nI 7) (pc2 := 120) C dL_plays_118 (by decide) rfl ?_
        refine q_ishr (v := (y >>> (nI 7 &&& 31))) (pc2 := 121) C dL_plays_120 (rfl) rfl ?_
        refine q_bipush (v := nI 40) (pc2 := 123) C dL_plays_121 (by decide) rfl ?_
        refine q_some (pc2 := 126) C (v := (y >>> (nI 7 &&& 31))) 40 (by omega) (by omega) (va_cwS 2 C.w gL_plays_L_some rfl rfl rfl (by decide +kernel) ⟨Nat.le_of_ble_eq_true rfl, Nat.le_of_ble_eq_true rfl⟩) dL_plays_123 rfl ⟨Nat.le_of_ble_eq_true rfl, Nat.le_of_ble_eq_true rfl⟩ (Nat.le_of_ble_eq_true rfl) (fun m123 hm123 => ?_)
        refine q_if_ne (tgt := 134) (pc2 := 129) C dL_plays_126 (by decide) rfl (fun c126 => ?_) (fun c126 => ?_)
        · skip
          have k126 : m123 ≠ 0 := fun z => c126 ((nI_eq (a := m123) (b := 0) (by omega) (by omega)).mpr z)
          refine q_iload_n (pc2 := 135) C 6 dL_plays_134 rfl rfl rfl ?_
          refine q_bipush (v := nI 7) (pc2 := 137) C dL_plays_135 (by decide) rfl ?_
          refine q_ishr (v := (y >>> (nI 7 &&& 31))) (pc2 := 138) C dL_plays_137 (rfl) rfl ?_
          refine q_iconst (v := nI 3) (pc2 := 139) C dL_plays_138 (by decide) rfl ?_
          refine q_some (pc2 := 142) C (v := (y >>> (nI 7 &&& 31))) 3 (by omega) (by omega) (va_cwS 2 C.w gL_plays_L_some rfl rfl rfl (by decide +kernel) ⟨Nat.le_of_ble_eq_true rfl, Nat.le_of_ble_eq_true rfl⟩) dL_plays_139 rfl ⟨Nat.le_of_ble_eq_true rfl, Nat.le_of_ble_eq_true rfl⟩ (Nat.le_of_ble_eq_true rfl) (fun m139 hm139 => ?_)
          refine q_if_ne (tgt := 149) (pc2 := 145) C dL_plays_142 (by decide) rfl (fun c142 => ?_) (fun c142 => ?_)
          · skip
            have k142 : m139 ≠ 0 := fun z => c142 ((nI_eq (a := m139) (b := 0) (by omega) (by omega)).mpr z)
            refine q_iload_n (pc2 := 150) C 6 dL_plays_149 rfl rfl rfl ?_
            refine q_bipush (v := nI 8) (pc2 := 152) C dL_plays_150 (by decide) rfl ?_
            refine q_ishr (v := (y >>> (nI 8 &&& 31))) (pc2 := 153) C dL_plays_152 (rfl) rfl ?_
            refine q_bipush (v := nI 6) (pc2 := 155) C dL_plays_153 (by decide) rfl ?_
            refine q_some (pc2 := 158) C (v := (y >>> (nI 8 &&& 31))) 6 (by omega) (by omega) (va_cwS 2 C.w gL_plays_L_some rfl rfl rfl (by decide +kernel) ⟨Nat.le_of_ble_eq_true rfl, Nat.le_of_ble_eq_true rfl⟩) dL_plays_155 rfl ⟨Nat.le_of_ble_eq_true rfl, Nat.le_of_ble_eq_true rfl⟩ (Nat.le_of_ble_eq_true rfl) (fun m155 hm155 => ?_)
            exact hj158 (nI m155) (Or.inr (Or.inr ⟨m155, by omega, rfl⟩))
          · skip
            have k142 : m139 = 0 := (nI_eq (a := m139) (b := 0) (by omega) (by omega)).mp (c142)
            refine q_iconst (v := (-1)) (pc2 := 146) C dL_plays_145 (by decide) rfl ?_
            refine q_goto (pc2 := 158) C dL_plays_146 (by decide) ?_
            exact hj158 (-1) (Or.inr (Or.inl rfl))
        · skip
          have k126 : m123 = 0 := (nI_eq (a := m123) (b := 0) (by omega) (by omega)).mp (c126)
          refine q_bipush (v := (-2)) (pc2 := 131) C dL_plays_129 (by decide) rfl ?_
          refine q_goto (pc2 := 158) C dL_plays_131 (by decide) ?_
          exact hj158 (-2) (Or.inl rfl)
      refine q_iload_n (pc2 := 94) C 5 dL_plays_93 rfl rfl rfl ?_
      refine q_iconst (v := nI 5) (pc2 := 95) C dL_plays_94 (by decide) rfl ?_
      refine q_ishr (v := (y >>> (nI 5 &&& 31))) (pc2 := 96) C dL_plays_95 (rfl) rfl ?_
      refine q_bipush (v := nI 40) (pc2 := 98) C dL_plays_96 (by decide) rfl ?_
      refine q_some (pc2 := 101) C (v := (y >>> (nI 5 &&& 31))) 40 (by omega) (by omega) (va_cwS 2 C.w gL_plays_L_some rfl rfl rfl (by decide +kernel) ⟨Nat.le_of_ble_eq_true rfl, Nat.le_of_ble_eq_true rfl⟩) dL_plays_98 rfl ⟨Nat.le_of_ble_eq_true rfl, Nat.le_of_ble_eq_true rfl⟩ (Nat.le_of_ble_eq_true rfl) (fun m98 hm98 => ?_)
      refine q_if_ne (tgt := 108) (pc2 := 104) C dL_plays_101 (by decide) rfl (fun c101 => ?_) (fun c101 => ?_)
      · skip
        have k101 : m98 ≠ 0 := fun z => c101 ((nI_eq (a := m98) (b := 0) (by omega) (by omega)).mpr z)
        refine q_iload_n (pc2 := 109) C 5 dL_plays_108 rfl rfl rfl ?_
        refine q_iconst (v := nI 5) (pc2 := 110) C dL_plays_109 (by decide) rfl ?_
        refine q_ishr (v := (y >>> (nI 5 &&& 31))) (pc2 := 111) C dL_plays_110 (rfl) rfl ?_
        refine q_iconst (v := nI 3) (pc2 := 112) C dL_plays_111 (by decide) rfl ?_
        refine q_some (pc2 := 115) C (v := (y >>> (nI 5 &&& 31))) 3 (by omega) (by omega) (va_cwS 2 C.w gL_plays_L_some rfl rfl rfl (by decide +kernel) ⟨Nat.le_of_ble_eq_true rfl, Nat.le_of_ble_eq_true rfl⟩) dL_plays_112 rfl ⟨Nat.le_of_ble_eq_true rfl, Nat.le_of_ble_eq_true rfl⟩ (Nat.le_of_ble_eq_true rfl) (fun m112 hm112 => ?_)
        exact hj115 m112 (by omega)
      · skip
        have k101 : m98 = 0 := (nI_eq (a := m98) (b := 0) (by omega) (by omega)).mp (c101)
        refine q_iconst (v := nI 3) (pc2 := 105) C dL_plays_104 (by decide) rfl ?_
        refine q_goto (pc2 := 115) C dL_plays_105 (by decide) ?_
        exact hj115 3 (by omega)
    refine q_iload_n (pc2 := 54) C 4 dL_plays_53 rfl rfl rfl ?_
    refine q_iconst (v := nI 2) (pc2 := 55) C dL_plays_54 (by decide) rfl ?_
    refine q_ishr (v := (y >>> (nI 2 &&& 31))) (pc2 := 56) C dL_plays_55 (rfl) rfl ?_
    refine q_bipush (v := nI 40) (pc2 := 58) C dL_plays_56 (by decide) rfl ?_
    refine q_some (pc2 := 61) C (v := (y >>> (nI 2 &&& 31))) 40 (by omega) (by omega) (va_cwS 2 C.w gL_plays_L_some rfl rfl rfl (by decide +kernel) ⟨Nat.le_of_ble_eq_true rfl, Nat.le_of_ble_eq_true rfl⟩) dL_plays_58 rfl ⟨Nat.le_of_ble_eq_true rfl, Nat.le_of_ble_eq_true rfl⟩ (Nat.le_of_ble_eq_true rfl) (fun m58 hm58 => ?_)
    refine q_if_ne (tgt := 69) (pc2 := 64) C dL_plays_61 (by decide) rfl (fun c61 => ?_) (fun c61 => ?_)
    · skip
      have k61 : m58 ≠ 0 := fun z => c61 ((nI_eq (a := m58) (b := 0) (by omega) (by omega)).mpr z)
      refine q_iload_n (pc2 := 70) C 4 dL_plays_69 rfl rfl rfl ?_
      refine q_iconst (v := nI 2) (pc2 := 71) C dL_plays_70 (by decide) rfl ?_
      refine q_ishr (v := (y >>> (nI 2 &&& 31))) (pc2 := 72) C dL_plays_71 (rfl) rfl ?_
      refine q_iconst (v := nI 3) (pc2 := 73) C dL_plays_72 (by decide) rfl ?_
      refine q_some (pc2 := 76) C (v := (y >>> (nI 2 &&& 31))) 3 (by omega) (by omega) (va_cwS 2 C.w gL_plays_L_some rfl rfl rfl (by decide +kernel) ⟨Nat.le_of_ble_eq_true rfl, Nat.le_of_ble_eq_true rfl⟩) dL_plays_73 rfl ⟨Nat.le_of_ble_eq_true rfl, Nat.le_of_ble_eq_true rfl⟩ (Nat.le_of_ble_eq_true rfl) (fun m73 hm73 => ?_)
      refine q_if_ne (tgt := 83) (pc2 := 79) C dL_plays_76 (by decide) rfl (fun c76 => ?_) (fun c76 => ?_)
      · skip
        have k76 : m73 ≠ 0 := fun z => c76 ((nI_eq (a := m73) (b := 0) (by omega) (by omega)).mpr z)
        refine q_iload_n (pc2 := 84) C 4 dL_plays_83 rfl rfl rfl ?_
        refine q_iconst (v := nI 3) (pc2 := 85) C dL_plays_84 (by decide) rfl ?_
        refine q_ishr (v := (y >>> (nI 3 &&& 31))) (pc2 := 86) C dL_plays_85 (rfl) rfl ?_
        refine q_bipush (v := nI 20) (pc2 := 88) C dL_plays_86 (by decide) rfl ?_
        refine q_some (pc2 := 91) C (v := (y >>> (nI 3 &&& 31))) 20 (by omega) (by omega) (va_cwS 2 C.w gL_plays_L_some rfl rfl rfl (by decide +kernel) ⟨Nat.le_of_ble_eq_true rfl, Nat.le_of_ble_eq_true rfl⟩) dL_plays_88 rfl ⟨Nat.le_of_ble_eq_true rfl, Nat.le_of_ble_eq_true rfl⟩ (Nat.le_of_ble_eq_true rfl) (fun m88 hm88 => ?_)
        exact hj91 m88 (by omega)
      · skip
        have k76 : m73 = 0 := (nI_eq (a := m73) (b := 0) (by omega) (by omega)).mp (c76)
        refine q_iconst (v := nI 0) (pc2 := 80) C dL_plays_79 (by decide) rfl ?_
        refine q_goto (pc2 := 91) C dL_plays_80 (by decide) ?_
        exact hj91 0 (by omega)
    · skip
      have k61 : m58 = 0 := (nI_eq (a := m58) (b := 0) (by omega) (by omega)).mp (c61)
      refine q_bipush (v := nI 51) (pc2 := 66) C dL_plays_64 (by decide) rfl ?_
      refine q_goto (pc2 := 91) C dL_plays_66 (by decide) ?_
      exact hj91 51 (by omega)
  refine q_iload_n (pc2 := 1) C 2 dL_plays_0 rfl rfl rfl ?_
  refine q_aload_n (pc2 := 2) C 3 dL_plays_1 rfl rfl rfl ?_
  refine q_iconst (v := nI 3) (pc2 := 3) C dL_plays_2 (by decide) rfl ?_
  refine q_iald (q0 := 26) (f := fc) (pc2 := 4) C 3 (wT_g0 ct a x fc fb fp fq fn fl) rfl (rfl) (by decide) (by decide) dL_plays_3 rfl ?_
  refine q_eqi (y := nI n) (hc3) ?_
  refine q_iconst (v := nI 1) (pc2 := 5) C dL_plays_4 (by decide) rfl ?_
  refine q_iadd (v := nI (n + 1)) (pc2 := 6) C dL_plays_5 (nI_add n 1) rfl ?_
  refine q_some (pc2 := 9) C (v := y) (n + 1) (by omega) (by omega) (va_cwS 2 C.w gL_plays_L_some rfl rfl rfl (by decide +kernel) ⟨Nat.le_of_ble_eq_true rfl, Nat.le_of_ble_eq_true rfl⟩) dL_plays_6 rfl ⟨Nat.le_of_ble_eq_true rfl, Nat.le_of_ble_eq_true rfl⟩ (Nat.le_of_ble_eq_true rfl) (fun m6 hm6 => ?_)
  have hj26 : ∀ e1 : Nat, (e1 ≤ 1) → Cf p l e ({ frames := 9, cells := 2, slots := 12, locals := 160 }) s m args below meth c D A 15 0 0 Q 26 [(0, .ref (a 30)), (1, .int (nI 0)), (2, .int y), (3, .ref (a 40)), (4, .ref (a 42)), (5, .ref (a 43)), (6, .ref (a 44)), (7, .ref (a 45))] [.int (nI e1), .int (nI m6)] (wT ct a x fc fb fp fq fn fl) := by
    intro e1 he1
    rcases pick_lamp hn5 hm6 he1 with ⟨i, hi, ei⟩ | hv
    · skip
      refine q_isub (v := nI i) (pc2 := 27) C dL_plays_26 (ei) rfl ?_
      refine q_istore (lv' := [(8, .int (nI i)), (0, .ref (a 30)), (1, .int (nI 0)), (2, .int y), (3, .ref (a 40)), (4, .ref (a 42)), (5, .ref (a 43)), (6, .ref (a 44)), (7, .ref (a 45))]) (pc2 := 29) C dL_plays_27 (by decide) rfl rfl ?_
      refine q_iload (pc2 := 31) C 0 dL_plays_29 rfl rfl ?_
      refine q_if_lt (tgt := 46) (pc2 := 34) C dL_plays_31 (by decide) rfl (fun h9 => absurd h9 (nI_nlt (a := i) (b := 0) (by omega) (by omega))) (fun _ => ?_)
      refine q_iload (pc2 := 36) C 0 dL_plays_34 rfl rfl ?_
      refine q_aload_n (pc2 := 37) C 4 dL_plays_36 rfl rfl rfl ?_
      refine q_iconst (v := nI 3) (pc2 := 38) C dL_plays_37 (by decide) rfl ?_
      refine q_iald (q0 := 26) (f := fc) (pc2 := 39) C 3 (wT_g0 ct a x fc fb fp fq fn fl) rfl (rfl) (by decide) (by decide) dL_plays_38 rfl ?_
      refine q_eqi (y := nI n) (hc3) ?_
      refine q_icmp_ge (tgt := 46) (pc2 := 42) C dL_plays_39 (by decide) rfl (fun h9 => absurd h9 (nI_ge (a := i) (b := n) (by omega) (by omega))) (fun _ => ?_)
      refine q_iconst (v := nI 1) (pc2 := 43) C dL_plays_42 (by decide) rfl ?_
      refine q_goto (pc2 := 47) C dL_plays_43 (by decide) ?_
      refine q_istore (lv' := [(9, .int (nI 1)), (8, .int (nI i)), (0, .ref (a 30)), (1, .int (nI 0)), (2, .int y), (3, .ref (a 40)), (4, .ref (a 42)), (5, .ref (a 43)), (6, .ref (a 44)), (7, .ref (a 45))]) (pc2 := 49) C dL_plays_47 (by decide) rfl rfl ?_
      exact hG _ _
    · skip
      refine q_isub (v := (nI m6 - nI e1)) (pc2 := 27) C dL_plays_26 (rfl) rfl ?_
      refine q_istore (lv' := [(8, .int (nI m6 - nI e1)), (0, .ref (a 30)), (1, .int (nI 0)), (2, .int y), (3, .ref (a 40)), (4, .ref (a 42)), (5, .ref (a 43)), (6, .ref (a 44)), (7, .ref (a 45))]) (pc2 := 29) C dL_plays_27 (by decide) rfl rfl ?_
      refine q_iload (pc2 := 31) C 0 dL_plays_29 rfl rfl ?_
      refine q_if_lt (tgt := 46) (pc2 := 34) C dL_plays_31 (by decide) rfl (fun c31 => ?_) (fun c31 => ?_)
      · skip
        refine q_iconst (v := nI 0) (pc2 := 47) C dL_plays_46 (by decide) rfl ?_
        refine q_istore (lv' := [(9, .int (nI 0)), (8, .int (nI m6 - nI e1)), (0, .ref (a 30)), (1, .int (nI 0)), (2, .int y), (3, .ref (a 40)), (4, .ref (a 42)), (5, .ref (a 43)), (6, .ref (a 44)), (7, .ref (a 45))]) (pc2 := 49) C dL_plays_47 (by decide) rfl rfl ?_
        exact hG _ _
      · skip
        refine q_iload (pc2 := 36) C 0 dL_plays_34 rfl rfl ?_
        refine q_aload_n (pc2 := 37) C 4 dL_plays_36 rfl rfl rfl ?_
        refine q_iconst (v := nI 3) (pc2 := 38) C dL_plays_37 (by decide) rfl ?_
        refine q_iald (q0 := 26) (f := fc) (pc2 := 39) C 3 (wT_g0 ct a x fc fb fp fq fn fl) rfl (rfl) (by decide) (by decide) dL_plays_38 rfl ?_
        refine q_eqi (y := nI n) (hc3) ?_
        refine q_icmp_ge (tgt := 46) (pc2 := 42) C dL_plays_39 (by decide) rfl (fun _ => ?_) (fun h9 => absurd (Int32.not_lt.mp (fun z9 => hv ⟨Int32.not_lt.mp c31, z9⟩)) h9)
        refine q_iconst (v := nI 0) (pc2 := 47) C dL_plays_46 (by decide) rfl ?_
        refine q_istore (lv' := [(9, .int (nI 0)), (8, .int (nI m6 - nI e1)), (0, .ref (a 30)), (1, .int (nI 0)), (2, .int y), (3, .ref (a 40)), (4, .ref (a 42)), (5, .ref (a 43)), (6, .ref (a 44)), (7, .ref (a 45))]) (pc2 := 49) C dL_plays_47 (by decide) rfl rfl ?_
        exact hG _ _
  refine q_iload_n (pc2 := 10) C 2 dL_plays_9 rfl rfl rfl ?_
  refine q_bipush (v := nI 11) (pc2 := 12) C dL_plays_10 (by decide) rfl ?_
  refine q_ishr (v := (y >>> (nI 11 &&& 31))) (pc2 := 13) C dL_plays_12 (rfl) rfl ?_
  refine q_bipush (v := nI 19) (pc2 := 15) C dL_plays_13 (by decide) rfl ?_
  refine q_some (pc2 := 18) C (v := (y >>> (nI 11 &&& 31))) 19 (by omega) (by omega) (va_cwS 2 C.w gL_plays_L_some rfl rfl rfl (by decide +kernel) ⟨Nat.le_of_ble_eq_true rfl, Nat.le_of_ble_eq_true rfl⟩) dL_plays_15 rfl ⟨Nat.le_of_ble_eq_true rfl, Nat.le_of_ble_eq_true rfl⟩ (Nat.le_of_ble_eq_true rfl) (fun m15 hm15 => ?_)
  refine q_if_ne (tgt := 25) (pc2 := 21) C dL_plays_18 (by decide) rfl (fun c18 => ?_) (fun c18 => ?_)
  · skip
    have k18 : m15 ≠ 0 := fun z => c18 ((nI_eq (a := m15) (b := 0) (by omega) (by omega)).mpr z)
    refine q_iconst (v := nI 0) (pc2 := 26) C dL_plays_25 (by decide) rfl ?_
    exact hj26 0 (by omega)
  · skip
    have k18 : m15 = 0 := (nI_eq (a := m15) (b := 0) (by omega) (by omega)).mp (c18)
    refine q_iconst (v := nI 1) (pc2 := 22) C dL_plays_21 (by decide) rfl ?_
    refine q_goto (pc2 := 26) C dL_plays_22 (by decide) ?_
    exact hj26 1 (by omega)

