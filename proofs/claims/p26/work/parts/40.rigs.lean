/-! rigs: a bar, a lamp, a place, down, an address, a circuit -/
/-- what rigs and plays leave: 1, and the relation -/
def pR (ct : Nat → ClassId) (a : Nat → Nat) (N : Nat) : Option Value → va_W → Prop := fun r w => r = some (.int 1) ∧ ∃ (x : Nat → Nat → Int32) (fc fb fp fq fn fl : Nat → Int32), w = wT ct a x fc fb fp fq fn fl ∧ RE N x fc fb fp fq fn fl
theorem pick_lamp {n k e : Nat} (hn : n ≤ 5) (hk : k < n + 1) (he : e ≤ 1) : (∃ i, i < n ∧ nI k - nI e = nI i) ∨ ¬ (0 ≤ nI k - nI e ∧ nI k - nI e < nI n) := by
  rcases (show e = 0 ∨ (e = 1 ∧ k = 0) ∨ (e = 1 ∧ 0 < k) by omega) with rfl | ⟨rfl, rfl⟩ | ⟨rfl, h⟩
  · have e0 : nI k - nI 0 = nI k := pk_sub (Nat.zero_le k)
    rw [e0]
    by_cases h : k < n
    · exact Or.inl ⟨k, h, rfl⟩
    · exact Or.inr (fun z => absurd z.2 (nI_nlt (by omega) (by omega)))
  · exact Or.inr (fun z => absurd z.1 (by decide))
  · exact Or.inl ⟨k - 1, by omega, pk_sub h⟩
theorem pick_place {k e : Nat} (hk : k < 18) (he : e ≤ 1) : (∃ v, v ≤ 17 ∧ nI k - nI e = nI v) ∨ nI k - nI e = -1 := by
  rcases (show e = 0 ∨ (e = 1 ∧ k = 0) ∨ (e = 1 ∧ 0 < k) by omega) with rfl | ⟨rfl, rfl⟩ | ⟨rfl, h⟩
  · exact Or.inl ⟨k, by omega, pk_sub (Nat.zero_le k)⟩
  · exact Or.inr (by decide)
  · exact Or.inl ⟨k - 1, by omega, pk_sub h⟩

set_option maxHeartbeats 4000000 in
set_option maxRecDepth 100000 in
theorem c_L_rigs_0 (l : Launch) (D : va_G) (ct : Nat → ClassId) (hl : l.stackTraces = false) (a : Nat → Nat) (x : Nat → Nat → Int32) (fc fb fp fq fn fl : Nat → Int32) (y : Int32) (M : Nat) (r0 : RE M x fc fb fp fq fn fl) : qM l yL_rigs wsL_rigs ({ frames := 9, cells := 2, slots := 12, locals := 160 }) D ct [.ref (a 30), .int (nI 0), .int y, .ref (a 40), .ref (a 41), .ref (a 42)] (wT ct a x fc fb fp fq fn fl) (pR ct a (M + 50)) 2 12 := by
  refine q_start (ret := some .boolean) (lv := [(0, .ref (a 30)), (1, .int (nI 0)), (2, .int y), (3, .ref (a 40)), (4, .ref (a 41)), (5, .ref (a 42))]) (by decide +kernel) rfl (Nat.le_of_ble_eq_true rfl) rfl ?_
  intro p e s m args below meth c A Q C hQ hnm
  obtain ⟨n, h, q, b, t, kb, K, S, F, V, ht, r⟩ := r0
  obtain ⟨rh, rl, rr, rp, rc, rs, hbq⟩ := id r
  obtain ⟨hlt, hx4, hc0, hkbs, hlen⟩ := id rh
  obtain ⟨hn5, hx0, hc3, hlow, hall, hhigh⟩ := id rl
  obtain ⟨hq4, hx16, hc4, hcue, hfd, hnam, hnaz⟩ := id rc
  obtain ⟨hx22, hc5, hx21, hc7, hc6, hx23, hfl, hlvr, hlev⟩ := id rs
  obtain ⟨hkb2, hx5, hck⟩ := hkbs h hlt
  have hK : ∀ k, k < n → fp k = nI (K k) ∧ K k < 4 := fun k hk => ⟨(hlow k hk).2.1, (hlow k hk).1⟩
  have hb4 : b ≤ 4 := by omega
  have hG : ∀ v z : Int32, Cf p l e ({ frames := 9, cells := 2, slots := 12, locals := 160 }) s m args below meth c D A 14 0 0 Q 49 [(7, .int z), (6, .int v), (0, .ref (a 30)), (1, .int (nI 0)), (2, .int y), (3, .ref (a 40)), (4, .ref (a 41)), (5, .ref (a 42))] [] (wT ct a x fc fb fp fq fn fl) := by
    intro v z
    refine q_iload_n (pc2 := 50) C 3 dL_rigs_49 rfl rfl rfl ?_
    refine q_if_ne (tgt := 267) (pc2 := 53) C dL_rigs_50 (by decide) rfl (fun h9 => absurd (by decide) h9) (fun _ => ?_)
    have hj75 : ∀ ho : Nat, (ho ≤ 2) → Cf p l e ({ frames := 9, cells := 2, slots := 12, locals := 160 }) s m args below meth c D A 14 0 0 Q 75 [(7, .int z), (6, .int v), (0, .ref (a 30)), (1, .int (nI 0)), (2, .int y), (3, .ref (a 40)), (4, .ref (a 41)), (5, .ref (a 42))] [.int (nI ho)] (wT ct a x fc fb fp fq fn fl) := by
      intro ho hho
      refine q_istore (lv' := [(8, .int (nI ho)), (7, .int z), (6, .int v), (0, .ref (a 30)), (1, .int (nI 0)), (2, .int y), (3, .ref (a 40)), (4, .ref (a 41)), (5, .ref (a 42))]) (pc2 := 77) C dL_rigs_75 (by decide) rfl rfl ?_
      have hj101 : ∀ L0 : Nat, (L0 ≤ 15 ∨ L0 = 101) → Cf p l e ({ frames := 9, cells := 2, slots := 12, locals := 160 }) s m args below meth c D A 14 0 0 Q 101 [(8, .int (nI ho)), (7, .int z), (6, .int v), (0, .ref (a 30)), (1, .int (nI 0)), (2, .int y), (3, .ref (a 40)), (4, .ref (a 41)), (5, .ref (a 42))] [.int (nI L0)] (wT ct a x fc fb fp fq fn fl) := by
        intro L0 hL0
        refine q_istore (lv' := [(9, .int (nI L0)), (8, .int (nI ho)), (7, .int z), (6, .int v), (0, .ref (a 30)), (1, .int (nI 0)), (2, .int y), (3, .ref (a 40)), (4, .ref (a 41)), (5, .ref (a 42))]) (pc2 := 103) C dL_rigs_101 (by decide) rfl rfl ?_
        have hj131 : ∀ M0 : Nat, (M0 = 0 ∨ (10 ≤ M0 ∧ M0 ≤ 69)) → Cf p l e ({ frames := 9, cells := 2, slots := 12, locals := 160 }) s m args below meth c D A 14 0 0 Q 131 [(9, .int (nI L0)), (8, .int (nI ho)), (7, .int z), (6, .int v), (0, .ref (a 30)), (1, .int (nI 0)), (2, .int y), (3, .ref (a 40)), (4, .ref (a 41)), (5, .ref (a 42))] [.int (nI M0)] (wT ct a x fc fb fp fq fn fl) := by
          intro M0 hM0
          refine q_istore (lv' := [(10, .int (nI M0)), (9, .int (nI L0)), (8, .int (nI ho)), (7, .int z), (6, .int v), (0, .ref (a 30)), (1, .int (nI 0)), (2, .int y), (3, .ref (a 40)), (4, .ref (a 41)), (5, .ref (a 42))]) (pc2 := 133) C dL_rigs_131 (by decide) rfl rfl ?_
          refine q_iload (pc2 := 135) C 1 dL_rigs_133 rfl rfl ?_
          refine q_bipush (v := nI 101) (pc2 := 137) C dL_rigs_135 (by decide) rfl ?_
          refine q_icmp_ge (tgt := 149) (pc2 := 140) C dL_rigs_137 (by decide) rfl (fun c137 => ?_) (fun c137 => ?_)
          · skip
            have k137 : 101 ≤ L0 := (nI_leI (a := 101) (b := L0) (by omega) (by omega)).mp c137
            refine q_iconst (v := nI 0) (pc2 := 150) C dL_rigs_149 (by decide) rfl ?_
            refine q_istore (lv' := [(11, .int (nI 0)), (10, .int (nI M0)), (9, .int (nI L0)), (8, .int (nI ho)), (7, .int z), (6, .int v), (0, .ref (a 30)), (1, .int (nI 0)), (2, .int y), (3, .ref (a 40)), (4, .ref (a 41)), (5, .ref (a 42))]) (pc2 := 152) C dL_rigs_150 (by decide) rfl rfl ?_
            refine q_iload (pc2 := 154) C 3 dL_rigs_152 rfl rfl ?_
            refine q_iconst (v := nI 2) (pc2 := 155) C dL_rigs_154 (by decide) rfl ?_
            refine q_icmp_ge (tgt := 175) (pc2 := 158) C dL_rigs_155 (by decide) rfl (fun c155 => ?_) (fun c155 => ?_)
            · skip
              have k155 : 2 ≤ ho := (nI_leI (a := 2) (b := ho) (by omega) (by omega)).mp c155
              refine q_iload (pc2 := 177) C 3 dL_rigs_175 rfl rfl ?_
              refine q_iconst (v := nI 1) (pc2 := 178) C dL_rigs_177 (by decide) rfl ?_
              refine q_icmp_le (tgt := 186) (pc2 := 181) C dL_rigs_178 (by decide) rfl (fun h9 => absurd h9 (nI_ge (a := 1) (b := ho) (by omega) (by omega))) (fun _ => ?_)
              refine q_bipush (v := (-101)) (pc2 := 183) C dL_rigs_181 (by decide) rfl ?_
              refine q_goto (pc2 := 202) C dL_rigs_183 (by decide) ?_
              refine q_istore (lv' := [(12, .int (-101)), (11, .int (nI 0)), (10, .int (nI M0)), (9, .int (nI L0)), (8, .int (nI ho)), (7, .int z), (6, .int v), (0, .ref (a 30)), (1, .int (nI 0)), (2, .int y), (3, .ref (a 40)), (4, .ref (a 41)), (5, .ref (a 42))]) (pc2 := 204) C dL_rigs_202 (by decide) rfl rfl ?_
              refine q_iload (pc2 := 206) C 0 dL_rigs_204 rfl rfl ?_
              refine q_if_lt (tgt := 245) (pc2 := 209) C dL_rigs_206 (by decide) rfl (fun _ => ?_) (fun h9 => absurd (by decide) h9)
              refine q_aload_n (pc2 := 246) C 7 dL_rigs_245 rfl rfl rfl ?_
              refine q_iconst (v := nI 0) (pc2 := 247) C dL_rigs_246 (by decide) rfl ?_
              refine q_iload (pc2 := 249) C 4 dL_rigs_247 rfl rfl ?_
              refine q_iload (pc2 := 251) C 3 dL_rigs_249 rfl rfl ?_
              refine q_iload (pc2 := 253) C 2 dL_rigs_251 rfl rfl ?_
              have hM := c_X3_bar l hl D ct a x (fun z hz => by rw [(hkbs z hz).2.1]; exact nI_pos' (by have := (hkbs z hz).1; omega)) (nI ho) (nI L0) (nI M0)
              refine q_Hno_wT (pc2 := 256) (As := [.ref (a 30), .int (nI 0), .int (nI ho), .int (nI L0), .int (nI M0)]) (st := []) (st2 := [.int (-101)]) (c2 := 1) (s2 := 6) C (c_L_hangs0 l D ct a x _ (nI ho) (nI L0) (nI M0) _ _ hM) (by rw [if_neg (fun z : 0 ≤ nI ho ∧ nI ho < 2 => absurd z.2 (nI_nlt (b := 2) (by omega) (by omega)))]) (by decide +kernel) (vx_cwSW 5 C.w gL_rigs_L_hangs rfl rfl rfl (by decide +kernel) ⟨Nat.le_of_ble_eq_true rfl, Nat.le_of_ble_eq_true rfl⟩) dL_rigs_253 rfl rfl (Nat.le_of_ble_eq_true rfl) ⟨Nat.le_of_ble_eq_true rfl, Nat.le_of_ble_eq_true rfl⟩ rfl rfl (by decide) rfl rfl ?_
              refine q_iload (pc2 := 258) C 0 dL_rigs_256 rfl rfl ?_
              refine q_icmp_ne (tgt := 265) (pc2 := 261) C dL_rigs_258 (by decide) rfl (fun h9 => absurd (by decide) h9) (fun _ => ?_)
              refine q_iconst (v := nI 1) (pc2 := 262) C dL_rigs_261 (by decide) rfl ?_
              refine q_goto (pc2 := 266) C dL_rigs_262 (by decide) ?_
              exact q_zret C hQ rfl (rfl) (by omega) (by omega) dL_rigs_266 ⟨rfl, _, _, _, _, _, _, _, rfl, (RE.mono (Nat.le_add_right M 50) ⟨n, h, q, b, t, kb, K, S, F, V, ht, r⟩)⟩
            · skip
              have k155 : ho < 2 := (nI_ltI (a := ho) (b := 2) (by omega) (by omega)).mp (Int32.not_le.mp c155)
              refine q_iload (pc2 := 160) C 0 dL_rigs_158 rfl rfl ?_
              refine q_if_eq (tgt := 175) (pc2 := 163) C dL_rigs_160 (by decide) rfl (fun _ => ?_) (fun h9 => absurd (by decide) h9)
              refine q_iload (pc2 := 177) C 3 dL_rigs_175 rfl rfl ?_
              refine q_iconst (v := nI 1) (pc2 := 178) C dL_rigs_177 (by decide) rfl ?_
              refine q_icmp_le (tgt := 186) (pc2 := 181) C dL_rigs_178 (by decide) rfl (fun _ => ?_) (fun h9 => absurd (nI_le (a := ho) (b := 1) (by omega) (by omega)) h9)
              refine q_iload (pc2 := 188) C 0 dL_rigs_186 rfl rfl ?_
              refine q_if_ne (tgt := 196) (pc2 := 191) C dL_rigs_188 (by decide) rfl (fun h9 => absurd (by decide) h9) (fun _ => ?_)
              refine q_bipush (v := (-102)) (pc2 := 193) C dL_rigs_191 (by decide) rfl ?_
              refine q_goto (pc2 := 202) C dL_rigs_193 (by decide) ?_
              refine q_istore (lv' := [(12, .int (-102)), (11, .int (nI 0)), (10, .int (nI M0)), (9, .int (nI L0)), (8, .int (nI ho)), (7, .int z), (6, .int v), (0, .ref (a 30)), (1, .int (nI 0)), (2, .int y), (3, .ref (a 40)), (4, .ref (a 41)), (5, .ref (a 42))]) (pc2 := 204) C dL_rigs_202 (by decide) rfl rfl ?_
              refine q_iload (pc2 := 206) C 0 dL_rigs_204 rfl rfl ?_
              refine q_if_lt (tgt := 245) (pc2 := 209) C dL_rigs_206 (by decide) rfl (fun _ => ?_) (fun h9 => absurd (by decide) h9)
              refine q_aload_n (pc2 := 246) C 7 dL_rigs_245 rfl rfl rfl ?_
              refine q_iconst (v := nI 0) (pc2 := 247) C dL_rigs_246 (by decide) rfl ?_
              refine q_iload (pc2 := 249) C 4 dL_rigs_247 rfl rfl ?_
              refine q_iload (pc2 := 251) C 3 dL_rigs_249 rfl rfl ?_
              refine q_iload (pc2 := 253) C 2 dL_rigs_251 rfl rfl ?_
              have hM := c_X3_bar l hl D ct a x (fun z hz => by rw [(hkbs z hz).2.1]; exact nI_pos' (by have := (hkbs z hz).1; omega)) (nI ho) (nI L0) (nI M0)
              refine q_Hno_wT (pc2 := 256) (As := [.ref (a 30), .int (nI 0), .int (nI ho), .int (nI L0), .int (nI M0)]) (st := []) (st2 := [.int (-102)]) (c2 := 1) (s2 := 6) C (c_L_hangs0 l D ct a x _ (nI ho) (nI L0) (nI M0) _ _ hM) (by rw [if_pos (show 0 ≤ nI ho ∧ nI ho < 2 from ⟨nI_pos' (by omega), nI_lt (b := 2) (by omega) (by omega)⟩), if_neg (fun z : 0 ≤ nI L0 ∧ nI L0 ≤ 100 => absurd z.2 (nI_ge (b := L0) (a := 100) (by omega) (by omega)))]) (by decide +kernel) (vx_cwSW 5 C.w gL_rigs_L_hangs rfl rfl rfl (by decide +kernel) ⟨Nat.le_of_ble_eq_true rfl, Nat.le_of_ble_eq_true rfl⟩) dL_rigs_253 rfl rfl (Nat.le_of_ble_eq_true rfl) ⟨Nat.le_of_ble_eq_true rfl, Nat.le_of_ble_eq_true rfl⟩ rfl rfl (by decide) rfl rfl ?_
              refine q_iload (pc2 := 258) C 0 dL_rigs_256 rfl rfl ?_
              refine q_icmp_ne (tgt := 265) (pc2 := 261) C dL_rigs_258 (by decide) rfl (fun h9 => absurd (by decide) h9) (fun _ => ?_)
              refine q_iconst (v := nI 1) (pc2 := 262) C dL_rigs_261 (by decide) rfl ?_
              refine q_goto (pc2 := 266) C dL_rigs_262 (by decide) ?_
              exact q_zret C hQ rfl (rfl) (by omega) (by omega) dL_rigs_266 ⟨rfl, _, _, _, _, _, _, _, rfl, (RE.mono (Nat.le_add_right M 50) ⟨n, h, q, b, t, kb, K, S, F, V, ht, r⟩)⟩
          · skip
            have k137 : L0 < 101 := (nI_ltI (a := L0) (b := 101) (by omega) (by omega)).mp (Int32.not_le.mp c137)
            refine q_iload (pc2 := 142) C 0 dL_rigs_140 rfl rfl ?_
            refine q_if_le (tgt := 149) (pc2 := 145) C dL_rigs_142 (by decide) rfl (fun c142 => ?_) (fun c142 => ?_)
            · skip
              have k142 : M0 ≤ 0 := (nI_leI (a := M0) (b := 0) (by omega) (by omega)).mp c142
              refine q_iconst (v := nI 0) (pc2 := 150) C dL_rigs_149 (by decide) rfl ?_
              refine q_istore (lv' := [(11, .int (nI 0)), (10, .int (nI M0)), (9, .int (nI L0)), (8, .int (nI ho)), (7, .int z), (6, .int v), (0, .ref (a 30)), (1, .int (nI 0)), (2, .int y), (3, .ref (a 40)), (4, .ref (a 41)), (5, .ref (a 42))]) (pc2 := 152) C dL_rigs_150 (by decide) rfl rfl ?_
              refine q_iload (pc2 := 154) C 3 dL_rigs_152 rfl rfl ?_
              refine q_iconst (v := nI 2) (pc2 := 155) C dL_rigs_154 (by decide) rfl ?_
              refine q_icmp_ge (tgt := 175) (pc2 := 158) C dL_rigs_155 (by decide) rfl (fun c155 => ?_) (fun c155 => ?_)
              · skip
                have k155 : 2 ≤ ho := (nI_leI (a := 2) (b := ho) (by omega) (by omega)).mp c155
                refine q_iload (pc2 := 177) C 3 dL_rigs_175 rfl rfl ?_
                refine q_iconst (v := nI 1) (pc2 := 178) C dL_rigs_177 (by decide) rfl ?_
                refine q_icmp_le (tgt := 186) (pc2 := 181) C dL_rigs_178 (by decide) rfl (fun h9 => absurd h9 (nI_ge (a := 1) (b := ho) (by omega) (by omega))) (fun _ => ?_)
                refine q_bipush (v := (-101)) (pc2 := 183) C dL_rigs_181 (by decide) rfl ?_
                refine q_goto (pc2 := 202) C dL_rigs_183 (by decide) ?_
                refine q_istore (lv' := [(12, .int (-101)), (11, .int (nI 0)), (10, .int (nI M0)), (9, .int (nI L0)), (8, .int (nI ho)), (7, .int z), (6, .int v), (0, .ref (a 30)), (1, .int (nI 0)), (2, .int y), (3, .ref (a 40)), (4, .ref (a 41)), (5, .ref (a 42))]) (pc2 := 204) C dL_rigs_202 (by decide) rfl rfl ?_
                refine q_iload (pc2 := 206) C 0 dL_rigs_204 rfl rfl ?_
                refine q_if_lt (tgt := 245) (pc2 := 209) C dL_rigs_206 (by decide) rfl (fun _ => ?_) (fun h9 => absurd (by decide) h9)
                refine q_aload_n (pc2 := 246) C 7 dL_rigs_245 rfl rfl rfl ?_
                refine q_iconst (v := nI 0) (pc2 := 247) C dL_rigs_246 (by decide) rfl ?_
                refine q_iload (pc2 := 249) C 4 dL_rigs_247 rfl rfl ?_
                refine q_iload (pc2 := 251) C 3 dL_rigs_249 rfl rfl ?_
                refine q_iload (pc2 := 253) C 2 dL_rigs_251 rfl rfl ?_
                have hM := c_X3_bar l hl D ct a x (fun z hz => by rw [(hkbs z hz).2.1]; exact nI_pos' (by have := (hkbs z hz).1; omega)) (nI ho) (nI L0) (nI M0)
                refine q_Hno_wT (pc2 := 256) (As := [.ref (a 30), .int (nI 0), .int (nI ho), .int (nI L0), .int (nI M0)]) (st := []) (st2 := [.int (-101)]) (c2 := 1) (s2 := 6) C (c_L_hangs0 l D ct a x _ (nI ho) (nI L0) (nI M0) _ _ hM) (by rw [if_neg (fun z : 0 ≤ nI ho ∧ nI ho < 2 => absurd z.2 (nI_nlt (b := 2) (by omega) (by omega)))]) (by decide +kernel) (vx_cwSW 5 C.w gL_rigs_L_hangs rfl rfl rfl (by decide +kernel) ⟨Nat.le_of_ble_eq_true rfl, Nat.le_of_ble_eq_true rfl⟩) dL_rigs_253 rfl rfl (Nat.le_of_ble_eq_true rfl) ⟨Nat.le_of_ble_eq_true rfl, Nat.le_of_ble_eq_true rfl⟩ rfl rfl (by decide) rfl rfl ?_
                refine q_iload (pc2 := 258) C 0 dL_rigs_256 rfl rfl ?_
                refine q_icmp_ne (tgt := 265) (pc2 := 261) C dL_rigs_258 (by decide) rfl (fun h9 => absurd (by decide) h9) (fun _ => ?_)
                refine q_iconst (v := nI 1) (pc2 := 262) C dL_rigs_261 (by decide) rfl ?_
                refine q_goto (pc2 := 266) C dL_rigs_262 (by decide) ?_
                exact q_zret C hQ rfl (rfl) (by omega) (by omega) dL_rigs_266 ⟨rfl, _, _, _, _, _, _, _, rfl, (RE.mono (Nat.le_add_right M 50) ⟨n, h, q, b, t, kb, K, S, F, V, ht, r⟩)⟩
              · skip
                have k155 : ho < 2 := (nI_ltI (a := ho) (b := 2) (by omega) (by omega)).mp (Int32.not_le.mp c155)
                refine q_iload (pc2 := 160) C 0 dL_rigs_158 rfl rfl ?_
                refine q_if_eq (tgt := 175) (pc2 := 163) C dL_rigs_160 (by decide) rfl (fun _ => ?_) (fun h9 => absurd (by decide) h9)
                refine q_iload (pc2 := 177) C 3 dL_rigs_175 rfl rfl ?_
                refine q_iconst (v := nI 1) (pc2 := 178) C dL_rigs_177 (by decide) rfl ?_
                refine q_icmp_le (tgt := 186) (pc2 := 181) C dL_rigs_178 (by decide) rfl (fun _ => ?_) (fun h9 => absurd (nI_le (a := ho) (b := 1) (by omega) (by omega)) h9)
                refine q_iload (pc2 := 188) C 0 dL_rigs_186 rfl rfl ?_
                refine q_if_ne (tgt := 196) (pc2 := 191) C dL_rigs_188 (by decide) rfl (fun h9 => absurd (by decide) h9) (fun _ => ?_)
                refine q_bipush (v := (-102)) (pc2 := 193) C dL_rigs_191 (by decide) rfl ?_
                refine q_goto (pc2 := 202) C dL_rigs_193 (by decide) ?_
                refine q_istore (lv' := [(12, .int (-102)), (11, .int (nI 0)), (10, .int (nI M0)), (9, .int (nI L0)), (8, .int (nI ho)), (7, .int z), (6, .int v), (0, .ref (a 30)), (1, .int (nI 0)), (2, .int y), (3, .ref (a 40)), (4, .ref (a 41)), (5, .ref (a 42))]) (pc2 := 204) C dL_rigs_202 (by decide) rfl rfl ?_
                refine q_iload (pc2 := 206) C 0 dL_rigs_204 rfl rfl ?_
                refine q_if_lt (tgt := 245) (pc2 := 209) C dL_rigs_206 (by decide) rfl (fun _ => ?_) (fun h9 => absurd (by decide) h9)
                refine q_aload_n (pc2 := 246) C 7 dL_rigs_245 rfl rfl rfl ?_
                refine q_iconst (v := nI 0) (pc2 := 247) C dL_rigs_246 (by decide) rfl ?_
                refine q_iload (pc2 := 249) C 4 dL_rigs_247 rfl rfl ?_
                refine q_iload (pc2 := 251) C 3 dL_rigs_249 rfl rfl ?_
                refine q_iload (pc2 := 253) C 2 dL_rigs_251 rfl rfl ?_
                have hM := c_X3_bar l hl D ct a x (fun z hz => by rw [(hkbs z hz).2.1]; exact nI_pos' (by have := (hkbs z hz).1; omega)) (nI ho) (nI L0) (nI M0)
                refine q_Hno_wT (pc2 := 256) (As := [.ref (a 30), .int (nI 0), .int (nI ho), .int (nI L0), .int (nI M0)]) (st := []) (st2 := [.int (-102)]) (c2 := 1) (s2 := 6) C (c_L_hangs0 l D ct a x _ (nI ho) (nI L0) (nI M0) _ _ hM) (by rw [if_pos (show 0 ≤ nI ho ∧ nI ho < 2 from ⟨nI_pos' (by omega), nI_lt (b := 2) (by omega) (by omega)⟩), if_pos (show 0 ≤ nI L0 ∧ nI L0 ≤ 100 from ⟨nI_pos' (by omega), nI_le (b := 100) (by omega) (by omega)⟩), if_neg (fun z : 1 ≤ nI M0 ∧ nI M0 ≤ 500 => absurd z.1 (nI_ge (a := M0) (b := 1) (by omega) (by omega)))]) (by decide +kernel) (vx_cwSW 5 C.w gL_rigs_L_hangs rfl rfl rfl (by decide +kernel) ⟨Nat.le_of_ble_eq_true rfl, Nat.le_of_ble_eq_true rfl⟩) dL_rigs_253 rfl rfl (Nat.le_of_ble_eq_true rfl) ⟨Nat.le_of_ble_eq_true rfl, Nat.le_of_ble_eq_true rfl⟩ rfl rfl (by decide) rfl rfl ?_
                refine q_iload (pc2 := 258) C 0 dL_rigs_256 rfl rfl ?_
                refine q_icmp_ne (tgt := 265) (pc2 := 261) C dL_rigs_258 (by decide) rfl (fun h9 => absurd (by decide) h9) (fun _ => ?_)
                refine q_iconst (v := nI 1) (pc2 := 262) C dL_rigs_261 (by decide) rfl ?_
                refine q_goto (pc2 := 266) C dL_rigs_262 (by decide) ?_
                exact q_zret C hQ rfl (rfl) (by omega) (by omega) dL_rigs_266 ⟨rfl, _, _, _, _, _, _, _, rfl, (RE.mono (Nat.le_add_right M 50) ⟨n, h, q, b, t, kb, K, S, F, V, ht, r⟩)⟩
            · skip
              have k142 : 0 < M0 := (nI_ltI (a := 0) (b := M0) (by omega) (by omega)).mp (Int32.not_le.mp c142)
              refine q_iconst (v := nI 1) (pc2 := 146) C dL_rigs_145 (by decide) rfl ?_
              refine q_goto (pc2 := 150) C dL_rigs_146 (by decide) ?_
              refine q_istore (lv' := [(11, .int (nI 1)), (10, .int (nI M0)), (9, .int (nI L0)), (8, .int (nI ho)), (7, .int z), (6, .int v), (0, .ref (a 30)), (1, .int (nI 0)), (2, .int y), (3, .ref (a 40)), (4, .ref (a 41)), (5, .ref (a 42))]) (pc2 := 152) C dL_rigs_150 (by decide) rfl rfl ?_
              refine q_iload (pc2 := 154) C 3 dL_rigs_152 rfl rfl ?_
              refine q_iconst (v := nI 2) (pc2 := 155) C dL_rigs_154 (by decide) rfl ?_
              refine q_icmp_ge (tgt := 175) (pc2 := 158) C dL_rigs_155 (by decide) rfl (fun c155 => ?_) (fun c155 => ?_)
              · skip
                have k155 : 2 ≤ ho := (nI_leI (a := 2) (b := ho) (by omega) (by omega)).mp c155
                refine q_iload (pc2 := 177) C 3 dL_rigs_175 rfl rfl ?_
                refine q_iconst (v := nI 1) (pc2 := 178) C dL_rigs_177 (by decide) rfl ?_
                refine q_icmp_le (tgt := 186) (pc2 := 181) C dL_rigs_178 (by decide) rfl (fun h9 => absurd h9 (nI_ge (a := 1) (b := ho) (by omega) (by omega))) (fun _ => ?_)
                refine q_bipush (v := (-101)) (pc2 := 183) C dL_rigs_181 (by decide) rfl ?_
                refine q_goto (pc2 := 202) C dL_rigs_183 (by decide) ?_
                refine q_istore (lv' := [(12, .int (-101)), (11, .int (nI 1)), (10, .int (nI M0)), (9, .int (nI L0)), (8, .int (nI ho)), (7, .int z), (6, .int v), (0, .ref (a 30)), (1, .int (nI 0)), (2, .int y), (3, .ref (a 40)), (4, .ref (a 41)), (5, .ref (a 42))]) (pc2 := 204) C dL_rigs_202 (by decide) rfl rfl ?_
                refine q_iload (pc2 := 206) C 0 dL_rigs_204 rfl rfl ?_
                refine q_if_lt (tgt := 245) (pc2 := 209) C dL_rigs_206 (by decide) rfl (fun _ => ?_) (fun h9 => absurd (by decide) h9)
                refine q_aload_n (pc2 := 246) C 7 dL_rigs_245 rfl rfl rfl ?_
                refine q_iconst (v := nI 0) (pc2 := 247) C dL_rigs_246 (by decide) rfl ?_
                refine q_iload (pc2 := 249) C 4 dL_rigs_247 rfl rfl ?_
                refine q_iload (pc2 := 251) C 3 dL_rigs_249 rfl rfl ?_
                refine q_iload (pc2 := 253) C 2 dL_rigs_251 rfl rfl ?_
                have hM := c_X3_bar l hl D ct a x (fun z hz => by rw [(hkbs z hz).2.1]; exact nI_pos' (by have := (hkbs z hz).1; omega)) (nI ho) (nI L0) (nI M0)
                refine q_Hno_wT (pc2 := 256) (As := [.ref (a 30), .int (nI 0), .int (nI ho), .int (nI L0), .int (nI M0)]) (st := []) (st2 := [.int (-101)]) (c2 := 1) (s2 := 6) C (c_L_hangs0 l D ct a x _ (nI ho) (nI L0) (nI M0) _ _ hM) (by rw [if_neg (fun z : 0 ≤ nI ho ∧ nI ho < 2 => absurd z.2 (nI_nlt (b := 2) (by omega) (by omega)))]) (by decide +kernel) (vx_cwSW 5 C.w gL_rigs_L_hangs rfl rfl rfl (by decide +kernel) ⟨Nat.le_of_ble_eq_true rfl, Nat.le_of_ble_eq_true rfl⟩) dL_rigs_253 rfl rfl (Nat.le_of_ble_eq_true rfl) ⟨Nat.le_of_ble_eq_true rfl, Nat.le_of_ble_eq_true rfl⟩ rfl rfl (by decide) rfl rfl ?_
                refine q_iload (pc2 := 258) C 0 dL_rigs_256 rfl rfl ?_
                refine q_icmp_ne (tgt := 265) (pc2 := 261) C dL_rigs_258 (by decide) rfl (fun h9 => absurd (by decide) h9) (fun _ => ?_)
                refine q_iconst (v := nI 1) (pc2 := 262) C dL_rigs_261 (by decide) rfl ?_
                refine q_goto (pc2 := 266) C dL_rigs_262 (by decide) ?_
                exact q_zret C hQ rfl (rfl) (by omega) (by omega) dL_rigs_266 ⟨rfl, _, _, _, _, _, _, _, rfl, (RE.mono (Nat.le_add_right M 50) ⟨n, h, q, b, t, kb, K, S, F, V, ht, r⟩)⟩
              · skip
                have k155 : ho < 2 := (nI_ltI (a := ho) (b := 2) (by omega) (by omega)).mp (Int32.not_le.mp c155)
                refine q_iload (pc2 := 160) C 0 dL_rigs_158 rfl rfl ?_
                refine q_if_eq (tgt := 175) (pc2 := 163) C dL_rigs_160 (by decide) rfl (fun h9 => absurd h9 (by decide)) (fun _ => ?_)
                obtain ⟨hs2, hs5, hsc⟩ := hkbs ho (by omega)
                refine q_aload_n (pc2 := 164) C 9 dL_rigs_163 rfl rfl rfl ?_
                refine q_iconst (v := nI 1) (pc2 := 165) C dL_rigs_164 (by decide) rfl ?_
                refine q_iload (pc2 := 167) C 3 dL_rigs_165 rfl rfl ?_
                refine q_iadd (v := nI (1 + ho)) (pc2 := 168) C dL_rigs_167 (nI_add 1 ho) rfl ?_
                refine q_iald (q0 := 26) (f := fc) (pc2 := 169) C (1 + ho) (wT_g0 ct a x fc fb fp fq fn fl) rfl (rfl) (by omega) (by decide) dL_rigs_168 rfl ?_
                refine q_eqi (y := nI (kb ho)) ((hkbs ho (by omega)).2.2) ?_
                refine q_iconst (v := nI 2) (pc2 := 170) C dL_rigs_169 (by decide) rfl ?_
                refine q_icmp_ne (tgt := 175) (pc2 := 173) C dL_rigs_170 (by decide) rfl (fun c170 => ?_) (fun c170 => ?_)
                · skip
                  have k170 : (kb ho) ≠ 2 := fun z => c170 ((nI_eq (a := (kb ho)) (b := 2) (by omega) (by omega)).mpr z)
                  refine q_iload (pc2 := 177) C 3 dL_rigs_175 rfl rfl ?_
                  refine q_iconst (v := nI 1) (pc2 := 178) C dL_rigs_177 (by decide) rfl ?_
                  refine q_icmp_le (tgt := 186) (pc2 := 181) C dL_rigs_178 (by decide) rfl (fun _ => ?_) (fun h9 => absurd (nI_le (a := ho) (b := 1) (by omega) (by omega)) h9)
                  refine q_iload (pc2 := 188) C 0 dL_rigs_186 rfl rfl ?_
                  refine q_if_ne (tgt := 196) (pc2 := 191) C dL_rigs_188 (by decide) rfl (fun _ => ?_) (fun h9 => absurd h9 (by decide))
                  refine q_aload_n (pc2 := 197) C 9 dL_rigs_196 rfl rfl rfl ?_
                  refine q_iconst (v := nI 1) (pc2 := 198) C dL_rigs_197 (by decide) rfl ?_
                  refine q_iload (pc2 := 200) C 3 dL_rigs_198 rfl rfl ?_
                  refine q_iadd (v := nI (1 + ho)) (pc2 := 201) C dL_rigs_200 (nI_add 1 ho) rfl ?_
                  refine q_iald (q0 := 26) (f := fc) (pc2 := 202) C (1 + ho) (wT_g0 ct a x fc fb fp fq fn fl) rfl (rfl) (by omega) (by decide) dL_rigs_201 rfl ?_
                  refine q_eqi (y := nI (kb ho)) ((hkbs ho (by omega)).2.2) ?_
                  refine q_istore (lv' := [(12, .int (nI (kb ho))), (11, .int (nI 1)), (10, .int (nI M0)), (9, .int (nI L0)), (8, .int (nI ho)), (7, .int z), (6, .int v), (0, .ref (a 30)), (1, .int (nI 0)), (2, .int y), (3, .ref (a 40)), (4, .ref (a 41)), (5, .ref (a 42))]) (pc2 := 204) C dL_rigs_202 (by decide) rfl rfl ?_
                  refine q_iload (pc2 := 206) C 0 dL_rigs_204 rfl rfl ?_
                  refine q_if_lt (tgt := 245) (pc2 := 209) C dL_rigs_206 (by decide) rfl (fun h9 => absurd h9 (nI_nlt (a := (kb ho)) (b := 0) (by omega) (by omega))) (fun _ => ?_)
                  refine q_aload (pc2 := 211) C 11 dL_rigs_209 rfl rfl ?_
                  refine q_iconst (v := nI 2) (pc2 := 212) C dL_rigs_211 (by decide) rfl ?_
                  refine q_iload (pc2 := 214) C 4 dL_rigs_212 rfl rfl ?_
                  refine q_imul (v := nI (2 * ho)) (pc2 := 215) C dL_rigs_214 (pk_mul 2 ho) rfl ?_
                  refine q_iload (pc2 := 217) C 0 dL_rigs_215 rfl rfl ?_
                  refine q_iadd (v := nI ((2 * ho) + (kb ho))) (pc2 := 218) C dL_rigs_217 (nI_add (2 * ho) (kb ho)) rfl ?_
                  refine q_iload (pc2 := 220) C 3 dL_rigs_218 rfl rfl ?_
                  refine q_iast (q0 := 27) (f := fb) (ws' := (wT ct a x fc (upd fb ((2 * ho) + (kb ho)) (nI L0)) fp fq fn fl)) (pc2 := 221) C ((2 * ho) + (kb ho)) (wT_g1 ct a x fc fb fp fq fn fl) rfl (rfl) (by omega) (by decide) (wT_a1 ct a x fc fb fp fq fn fl (upd fb ((2 * ho) + (kb ho)) (nI L0))) dL_rigs_220 rfl ?_
                  refine q_aload (pc2 := 223) C 11 dL_rigs_221 rfl rfl ?_
                  refine q_iconst (v := nI 4) (pc2 := 224) C dL_rigs_223 (by decide) rfl ?_
                  refine q_iconst (v := nI 2) (pc2 := 225) C dL_rigs_224 (by decide) rfl ?_
                  refine q_iload (pc2 := 227) C 4 dL_rigs_225 rfl rfl ?_
                  refine q_imul (v := nI (2 * ho)) (pc2 := 228) C dL_rigs_227 (pk_mul 2 ho) rfl ?_
                  refine q_iadd (v := nI (4 + (2 * ho))) (pc2 := 229) C dL_rigs_228 (nI_add 4 (2 * ho)) rfl ?_
                  refine q_iload (pc2 := 231) C 0 dL_rigs_229 rfl rfl ?_
                  refine q_iadd (v := nI ((4 + (2 * ho)) + (kb ho))) (pc2 := 232) C dL_rigs_231 (nI_add (4 + (2 * ho)) (kb ho)) rfl ?_
                  refine q_iload (pc2 := 234) C 2 dL_rigs_232 rfl rfl ?_
                  refine q_iast (q0 := 27) (f := (upd fb ((2 * ho) + (kb ho)) (nI L0))) (ws' := (wT ct a x fc (upd (upd fb ((2 * ho) + (kb ho)) (nI L0)) ((4 + (2 * ho)) + (kb ho)) (nI M0)) fp fq fn fl)) (pc2 := 235) C ((4 + (2 * ho)) + (kb ho)) (wT_g1 ct a x fc (upd fb ((2 * ho) + (kb ho)) (nI L0)) fp fq fn fl) rfl (rfl) (by omega) (by decide) (wT_a1 ct a x fc (upd fb ((2 * ho) + (kb ho)) (nI L0)) fp fq fn fl (upd (upd fb ((2 * ho) + (kb ho)) (nI L0)) ((4 + (2 * ho)) + (kb ho)) (nI M0))) dL_rigs_234 rfl ?_
                  refine q_aload_n (pc2 := 236) C 10 dL_rigs_235 rfl rfl rfl ?_
                  refine q_iconst (v := nI 1) (pc2 := 237) C dL_rigs_236 (by decide) rfl ?_
                  refine q_iload (pc2 := 239) C 4 dL_rigs_237 rfl rfl ?_
                  refine q_iadd (v := nI (1 + ho)) (pc2 := 240) C dL_rigs_239 (nI_add 1 ho) rfl ?_
                  refine q_dup2 (pc2 := 241) C dL_rigs_240 rfl rfl rfl ?_
                  refine q_iald (q0 := 26) (f := fc) (pc2 := 242) C (1 + ho) (wT_g0 ct a x fc (upd (upd fb ((2 * ho) + (kb ho)) (nI L0)) ((4 + (2 * ho)) + (kb ho)) (nI M0)) fp fq fn fl) rfl (rfl) (by omega) (by decide) dL_rigs_241 rfl ?_
                  refine q_eqi (y := nI (kb ho)) ((hkbs ho (by omega)).2.2) ?_
                  refine q_iconst (v := nI 1) (pc2 := 243) C dL_rigs_242 (by decide) rfl ?_
                  refine q_iadd (v := nI ((kb ho) + 1)) (pc2 := 244) C dL_rigs_243 (nI_add (kb ho) 1) rfl ?_
                  refine q_iast (q0 := 26) (f := fc) (ws' := (wT ct a x (upd fc (1 + ho) (nI ((kb ho) + 1))) (upd (upd fb ((2 * ho) + (kb ho)) (nI L0)) ((4 + (2 * ho)) + (kb ho)) (nI M0)) fp fq fn fl)) (pc2 := 245) C (1 + ho) (wT_g0 ct a x fc (upd (upd fb ((2 * ho) + (kb ho)) (nI L0)) ((4 + (2 * ho)) + (kb ho)) (nI M0)) fp fq fn fl) rfl (rfl) (by omega) (by decide) (wT_a0 ct a x fc (upd (upd fb ((2 * ho) + (kb ho)) (nI L0)) ((4 + (2 * ho)) + (kb ho)) (nI M0)) fp fq fn fl (upd fc (1 + ho) (nI ((kb ho) + 1)))) dL_rigs_244 rfl ?_
                  refine q_aload_n (pc2 := 246) C 7 dL_rigs_245 rfl rfl rfl ?_
                  refine q_iconst (v := nI 0) (pc2 := 247) C dL_rigs_246 (by decide) rfl ?_
                  refine q_iload (pc2 := 249) C 4 dL_rigs_247 rfl rfl ?_
                  refine q_iload (pc2 := 251) C 3 dL_rigs_249 rfl rfl ?_
                  refine q_iload (pc2 := 253) C 2 dL_rigs_251 rfl rfl ?_
                  have hM := c_X3_bar l hl D ct a x (fun z hz => by rw [(hkbs z hz).2.1]; exact nI_pos' (by have := (hkbs z hz).1; omega)) (nI ho) (nI L0) (nI M0)
                  rw [nI_clamp (show ho < 2 ^ 31 by omega), hs5, nI_clamp (show kb ho < 2 ^ 31 by omega)] at hM
                  refine q_Hok_wT (pc2 := 256) (As := [.ref (a 30), .int (nI 0), .int (nI ho), .int (nI L0), .int (nI M0)]) (st := []) (st2 := [.int (nI (kb ho))]) (x' := (set2 (set2 (set2 x 5 (upd (x 5) ho (nI (kb ho) + 1))) 6 (upd (x 6) (4 * ho + kb ho) (nI L0))) 7 (upd (x 7) (4 * ho + kb ho) (nI M0)))) C (c_L_hangs0 l D ct a x _ (nI ho) (nI L0) (nI M0) _ _ hM) (by rw [if_pos (show 0 ≤ nI ho ∧ nI ho < 2 from ⟨nI_pos' (by omega), nI_lt (b := 2) (by omega) (by omega)⟩), if_pos (show 0 ≤ nI L0 ∧ nI L0 ≤ 100 from ⟨nI_pos' (by omega), nI_le (b := 100) (by omega) (by omega)⟩), if_pos (show 1 ≤ nI M0 ∧ nI M0 ≤ 500 from ⟨nI_le (a := 1) (by omega) (by omega), nI_le (b := 500) (by omega) (by omega)⟩), if_pos (show nI (kb ho) < 4 from nI_lt (b := 4) (by omega) (by omega))]) (vx_cwSW 5 C.w gL_rigs_L_hangs rfl rfl rfl (by decide +kernel) ⟨Nat.le_of_ble_eq_true rfl, Nat.le_of_ble_eq_true rfl⟩) dL_rigs_253 rfl rfl (Nat.le_of_ble_eq_true rfl) ⟨Nat.zero_le _, Nat.zero_le _⟩ rfl rfl ?_
                  refine q_iload (pc2 := 258) C 0 dL_rigs_256 rfl rfl ?_
                  refine q_icmp_ne (tgt := 265) (pc2 := 261) C dL_rigs_258 (by decide) rfl (fun h9 => absurd (rfl) h9) (fun _ => ?_)
                  refine q_iconst (v := nI 1) (pc2 := 262) C dL_rigs_261 (by decide) rfl ?_
                  refine q_goto (pc2 := 266) C dL_rigs_262 (by decide) ?_
                  exact q_zret C hQ rfl (rfl) (Nat.zero_le _) (Nat.zero_le _) dL_rigs_266 ⟨rfl, _, _, _, _, _, _, _, rfl, ⟨n, h, q, b, t, _, K, S, F, V, Nat.le_trans ht (Nat.le_add_right M 50), (by have hh := st_bar r (s := ho) (L := L0) (M := M0) (by omega) (by omega) (by omega); rw [hs5] at hh; exact hh)⟩⟩
                · skip
                  have k170 : (kb ho) = 2 := (nI_eq (a := (kb ho)) (b := 2) (by omega) (by omega)).mp (c170)
                  refine q_iconst (v := nI 1) (pc2 := 174) C dL_rigs_173 (by decide) rfl ?_
                  exact q_zret C hQ rfl (rfl) (Nat.zero_le _) (Nat.zero_le _) dL_rigs_174 ⟨rfl, _, _, _, _, _, _, _, rfl, (RE.mono (Nat.le_add_right M 50) ⟨n, h, q, b, t, kb, K, S, F, V, ht, r⟩)⟩
        refine q_iload_n (pc2 := 104) C 6 dL_rigs_103 rfl rfl rfl ?_
        refine q_bipush (v := nI 7) (pc2 := 106) C dL_rigs_104 (by decide) rfl ?_
        refine q_ishr (v := (y >>> (nI 7 &&& 31))) (pc2 := 107) C dL_rigs_106 (rfl) rfl ?_
        refine q_bipush (v := nI 40) (pc2 := 109) C dL_rigs_107 (by decide) rfl ?_
        refine q_some (pc2 := 112) C (v := (y >>> (nI 7 &&& 31))) 40 (by omega) (by omega) (va_cwS 2 C.w gL_rigs_L_some rfl rfl rfl (by decide +kernel) ⟨Nat.le_of_ble_eq_true rfl, Nat.le_of_ble_eq_true rfl⟩) dL_rigs_109 rfl ⟨Nat.le_of_ble_eq_true rfl, Nat.le_of_ble_eq_true rfl⟩ (Nat.le_of_ble_eq_true rfl) (fun m109 hm109 => ?_)
        refine q_if_ne (tgt := 119) (pc2 := 115) C dL_rigs_112 (by decide) rfl (fun c112 => ?_) (fun c112 => ?_)
        · skip
          have k112 : m109 ≠ 0 := fun z => c112 ((nI_eq (a := m109) (b := 0) (by omega) (by omega)).mpr z)
          refine q_bipush (v := nI 10) (pc2 := 121) C dL_rigs_119 (by decide) rfl ?_
          refine q_iload_n (pc2 := 122) C 6 dL_rigs_121 rfl rfl rfl ?_
          refine q_bipush (v := nI 7) (pc2 := 124) C dL_rigs_122 (by decide) rfl ?_
          refine q_ishr (v := (y >>> (nI 7 &&& 31))) (pc2 := 125) C dL_rigs_124 (rfl) rfl ?_
          refine q_bipush (v := nI 60) (pc2 := 127) C dL_rigs_125 (by decide) rfl ?_
          refine q_some (pc2 := 130) C (v := (y >>> (nI 7 &&& 31))) 60 (by omega) (by omega) (va_cwS 2 C.w gL_rigs_L_some rfl rfl rfl (by decide +kernel) ⟨Nat.le_of_ble_eq_true rfl, Nat.le_of_ble_eq_true rfl⟩) dL_rigs_127 rfl ⟨Nat.le_of_ble_eq_true rfl, Nat.le_of_ble_eq_true rfl⟩ (Nat.le_of_ble_eq_true rfl) (fun m127 hm127 => ?_)
          refine q_iadd (v := nI (10 + m127)) (pc2 := 131) C dL_rigs_130 (nI_add 10 m127) rfl ?_
          exact hj131 (10 + m127) (by omega)
        · skip
          have k112 : m109 = 0 := (nI_eq (a := m109) (b := 0) (by omega) (by omega)).mp (c112)
          refine q_iconst (v := nI 0) (pc2 := 116) C dL_rigs_115 (by decide) rfl ?_
          refine q_goto (pc2 := 131) C dL_rigs_116 (by decide) ?_
          exact hj131 0 (by omega)
      refine q_iload_n (pc2 := 78) C 5 dL_rigs_77 rfl rfl rfl ?_
      refine q_iconst (v := nI 5) (pc2 := 79) C dL_rigs_78 (by decide) rfl ?_
      refine q_ishr (v := (y >>> (nI 5 &&& 31))) (pc2 := 80) C dL_rigs_79 (rfl) rfl ?_
      refine q_bipush (v := nI 40) (pc2 := 82) C dL_rigs_80 (by decide) rfl ?_
      refine q_some (pc2 := 85) C (v := (y >>> (nI 5 &&& 31))) 40 (by omega) (by omega) (va_cwS 2 C.w gL_rigs_L_some rfl rfl rfl (by decide +kernel) ⟨Nat.le_of_ble_eq_true rfl, Nat.le_of_ble_eq_true rfl⟩) dL_rigs_82 rfl ⟨Nat.le_of_ble_eq_true rfl, Nat.le_of_ble_eq_true rfl⟩ (Nat.le_of_ble_eq_true rfl) (fun m82 hm82 => ?_)
      refine q_if_ne (tgt := 93) (pc2 := 88) C dL_rigs_85 (by decide) rfl (fun c85 => ?_) (fun c85 => ?_)
      · skip
        have k85 : m82 ≠ 0 := fun z => c85 ((nI_eq (a := m82) (b := 0) (by omega) (by omega)).mpr z)
        refine q_iload_n (pc2 := 94) C 5 dL_rigs_93 rfl rfl rfl ?_
        refine q_iconst (v := nI 5) (pc2 := 95) C dL_rigs_94 (by decide) rfl ?_
        refine q_ishr (v := (y >>> (nI 5 &&& 31))) (pc2 := 96) C dL_rigs_95 (rfl) rfl ?_
        refine q_bipush (v := nI 16) (pc2 := 98) C dL_rigs_96 (by decide) rfl ?_
        refine q_some (pc2 := 101) C (v := (y >>> (nI 5 &&& 31))) 16 (by omega) (by omega) (va_cwS 2 C.w gL_rigs_L_some rfl rfl rfl (by decide +kernel) ⟨Nat.le_of_ble_eq_true rfl, Nat.le_of_ble_eq_true rfl⟩) dL_rigs_98 rfl ⟨Nat.le_of_ble_eq_true rfl, Nat.le_of_ble_eq_true rfl⟩ (Nat.le_of_ble_eq_true rfl) (fun m98 hm98 => ?_)
        exact hj101 m98 (by omega)
      · skip
        have k85 : m82 = 0 := (nI_eq (a := m82) (b := 0) (by omega) (by omega)).mp (c85)
        refine q_bipush (v := nI 101) (pc2 := 90) C dL_rigs_88 (by decide) rfl ?_
        refine q_goto (pc2 := 101) C dL_rigs_90 (by decide) ?_
        exact hj101 101 (by omega)
    refine q_iload_n (pc2 := 54) C 4 dL_rigs_53 rfl rfl rfl ?_
    refine q_iconst (v := nI 2) (pc2 := 55) C dL_rigs_54 (by decide) rfl ?_
    refine q_ishr (v := (y >>> (nI 2 &&& 31))) (pc2 := 56) C dL_rigs_55 (rfl) rfl ?_
    refine q_bipush (v := nI 20) (pc2 := 58) C dL_rigs_56 (by decide) rfl ?_
    refine q_some (pc2 := 61) C (v := (y >>> (nI 2 &&& 31))) 20 (by omega) (by omega) (va_cwS 2 C.w gL_rigs_L_some rfl rfl rfl (by decide +kernel) ⟨Nat.le_of_ble_eq_true rfl, Nat.le_of_ble_eq_true rfl⟩) dL_rigs_58 rfl ⟨Nat.le_of_ble_eq_true rfl, Nat.le_of_ble_eq_true rfl⟩ (Nat.le_of_ble_eq_true rfl) (fun m58 hm58 => ?_)
    refine q_if_ne (tgt := 68) (pc2 := 64) C dL_rigs_61 (by decide) rfl (fun c61 => ?_) (fun c61 => ?_)
    · skip
      have k61 : m58 ≠ 0 := fun z => c61 ((nI_eq (a := m58) (b := 0) (by omega) (by omega)).mpr z)
      refine q_iload_n (pc2 := 69) C 4 dL_rigs_68 rfl rfl rfl ?_
      refine q_iconst (v := nI 2) (pc2 := 70) C dL_rigs_69 (by decide) rfl ?_
      refine q_ishr (v := (y >>> (nI 2 &&& 31))) (pc2 := 71) C dL_rigs_70 (rfl) rfl ?_
      refine q_iconst (v := nI 2) (pc2 := 72) C dL_rigs_71 (by decide) rfl ?_
      refine q_some (pc2 := 75) C (v := (y >>> (nI 2 &&& 31))) 2 (by omega) (by omega) (va_cwS 2 C.w gL_rigs_L_some rfl rfl rfl (by decide +kernel) ⟨Nat.le_of_ble_eq_true rfl, Nat.le_of_ble_eq_true rfl⟩) dL_rigs_72 rfl ⟨Nat.le_of_ble_eq_true rfl, Nat.le_of_ble_eq_true rfl⟩ (Nat.le_of_ble_eq_true rfl) (fun m72 hm72 => ?_)
      exact hj75 m72 (by omega)
    · skip
      have k61 : m58 = 0 := (nI_eq (a := m58) (b := 0) (by omega) (by omega)).mp (c61)
      refine q_iconst (v := nI 2) (pc2 := 65) C dL_rigs_64 (by decide) rfl ?_
      refine q_goto (pc2 := 75) C dL_rigs_65 (by decide) ?_
      exact hj75 2 (by omega)
  refine q_iload_n (pc2 := 1) C 2 dL_rigs_0 rfl rfl rfl ?_
  refine q_aload_n (pc2 := 2) C 3 dL_rigs_1 rfl rfl rfl ?_
  refine q_iconst (v := nI 3) (pc2 := 3) C dL_rigs_2 (by decide) rfl ?_
  refine q_iald (q0 := 26) (f := fc) (pc2 := 4) C 3 (wT_g0 ct a x fc fb fp fq fn fl) rfl (rfl) (by decide) (by decide) dL_rigs_3 rfl ?_
  refine q_eqi (y := nI n) (hc3) ?_
  refine q_iconst (v := nI 1) (pc2 := 5) C dL_rigs_4 (by decide) rfl ?_
  refine q_iadd (v := nI (n + 1)) (pc2 := 6) C dL_rigs_5 (nI_add n 1) rfl ?_
  refine q_some (pc2 := 9) C (v := y) (n + 1) (by omega) (by omega) (va_cwS 2 C.w gL_rigs_L_some rfl rfl rfl (by decide +kernel) ⟨Nat.le_of_ble_eq_true rfl, Nat.le_of_ble_eq_true rfl⟩) dL_rigs_6 rfl ⟨Nat.le_of_ble_eq_true rfl, Nat.le_of_ble_eq_true rfl⟩ (Nat.le_of_ble_eq_true rfl) (fun m6 hm6 => ?_)
  have hj26 : ∀ e1 : Nat, (e1 ≤ 1) → Cf p l e ({ frames := 9, cells := 2, slots := 12, locals := 160 }) s m args below meth c D A 14 0 0 Q 26 [(0, .ref (a 30)), (1, .int (nI 0)), (2, .int y), (3, .ref (a 40)), (4, .ref (a 41)), (5, .ref (a 42))] [.int (nI e1), .int (nI m6)] (wT ct a x fc fb fp fq fn fl) := by
    intro e1 he1
    rcases pick_lamp hn5 hm6 he1 with ⟨i, hi, ei⟩ | hv
    · skip
      refine q_isub (v := nI i) (pc2 := 27) C dL_rigs_26 (ei) rfl ?_
      refine q_istore (lv' := [(6, .int (nI i)), (0, .ref (a 30)), (1, .int (nI 0)), (2, .int y), (3, .ref (a 40)), (4, .ref (a 41)), (5, .ref (a 42))]) (pc2 := 29) C dL_rigs_27 (by decide) rfl rfl ?_
      refine q_iload (pc2 := 31) C 0 dL_rigs_29 rfl rfl ?_
      refine q_if_lt (tgt := 46) (pc2 := 34) C dL_rigs_31 (by decide) rfl (fun h9 => absurd h9 (nI_nlt (a := i) (b := 0) (by omega) (by omega))) (fun _ => ?_)
      refine q_iload (pc2 := 36) C 0 dL_rigs_34 rfl rfl ?_
      refine q_aload_n (pc2 := 37) C 4 dL_rigs_36 rfl rfl rfl ?_
      refine q_iconst (v := nI 3) (pc2 := 38) C dL_rigs_37 (by decide) rfl ?_
      refine q_iald (q0 := 26) (f := fc) (pc2 := 39) C 3 (wT_g0 ct a x fc fb fp fq fn fl) rfl (rfl) (by decide) (by decide) dL_rigs_38 rfl ?_
      refine q_eqi (y := nI n) (hc3) ?_
      refine q_icmp_ge (tgt := 46) (pc2 := 42) C dL_rigs_39 (by decide) rfl (fun h9 => absurd h9 (nI_ge (a := i) (b := n) (by omega) (by omega))) (fun _ => ?_)
      refine q_iconst (v := nI 1) (pc2 := 43) C dL_rigs_42 (by decide) rfl ?_
      refine q_goto (pc2 := 47) C dL_rigs_43 (by decide) ?_
      refine q_istore (lv' := [(7, .int (nI 1)), (6, .int (nI i)), (0, .ref (a 30)), (1, .int (nI 0)), (2, .int y), (3, .ref (a 40)), (4, .ref (a 41)), (5, .ref (a 42))]) (pc2 := 49) C dL_rigs_47 (by decide) rfl rfl ?_
      exact hG _ _
    · skip
      refine q_isub (v := (nI m6 - nI e1)) (pc2 := 27) C dL_rigs_26 (rfl) rfl ?_
      refine q_istore (lv' := [(6, .int (nI m6 - nI e1)), (0, .ref (a 30)), (1, .int (nI 0)), (2, .int y), (3, .ref (a 40)), (4, .ref (a 41)), (5, .ref (a 42))]) (pc2 := 29) C dL_rigs_27 (by decide) rfl rfl ?_
      refine q_iload (pc2 := 31) C 0 dL_rigs_29 rfl rfl ?_
      refine q_if_lt (tgt := 46) (pc2 := 34) C dL_rigs_31 (by decide) rfl (fun c31 => ?_) (fun c31 => ?_)
      · skip
        refine q_iconst (v := nI 0) (pc2 := 47) C dL_rigs_46 (by decide) rfl ?_
        refine q_istore (lv' := [(7, .int (nI 0)), (6, .int (nI m6 - nI e1)), (0, .ref (a 30)), (1, .int (nI 0)), (2, .int y), (3, .ref (a 40)), (4, .ref (a 41)), (5, .ref (a 42))]) (pc2 := 49) C dL_rigs_47 (by decide) rfl rfl ?_
        exact hG _ _
      · skip
        refine q_iload (pc2 := 36) C 0 dL_rigs_34 rfl rfl ?_
        refine q_aload_n (pc2 := 37) C 4 dL_rigs_36 rfl rfl rfl ?_
        refine q_iconst (v := nI 3) (pc2 := 38) C dL_rigs_37 (by decide) rfl ?_
        refine q_iald (q0 := 26) (f := fc) (pc2 := 39) C 3 (wT_g0 ct a x fc fb fp fq fn fl) rfl (rfl) (by decide) (by decide) dL_rigs_38 rfl ?_
        refine q_eqi (y := nI n) (hc3) ?_
        refine q_icmp_ge (tgt := 46) (pc2 := 42) C dL_rigs_39 (by decide) rfl (fun _ => ?_) (fun h9 => absurd (Int32.not_lt.mp (fun z9 => hv ⟨Int32.not_lt.mp c31, z9⟩)) h9)
        refine q_iconst (v := nI 0) (pc2 := 47) C dL_rigs_46 (by decide) rfl ?_
        refine q_istore (lv' := [(7, .int (nI 0)), (6, .int (nI m6 - nI e1)), (0, .ref (a 30)), (1, .int (nI 0)), (2, .int y), (3, .ref (a 40)), (4, .ref (a 41)), (5, .ref (a 42))]) (pc2 := 49) C dL_rigs_47 (by decide) rfl rfl ?_
        exact hG _ _
  refine q_iload_n (pc2 := 10) C 2 dL_rigs_9 rfl rfl rfl ?_
  refine q_bipush (v := nI 11) (pc2 := 12) C dL_rigs_10 (by decide) rfl ?_
  refine q_ishr (v := (y >>> (nI 11 &&& 31))) (pc2 := 13) C dL_rigs_12 (rfl) rfl ?_
  refine q_bipush (v := nI 19) (pc2 := 15) C dL_rigs_13 (by decide) rfl ?_
  refine q_some (pc2 := 18) C (v := (y >>> (nI 11 &&& 31))) 19 (by omega) (by omega) (va_cwS 2 C.w gL_rigs_L_some rfl rfl rfl (by decide +kernel) ⟨Nat.le_of_ble_eq_true rfl, Nat.le_of_ble_eq_true rfl⟩) dL_rigs_15 rfl ⟨Nat.le_of_ble_eq_true rfl, Nat.le_of_ble_eq_true rfl⟩ (Nat.le_of_ble_eq_true rfl) (fun m15 hm15 => ?_)
  refine q_if_ne (tgt := 25) (pc2 := 21) C dL_rigs_18 (by decide) rfl (fun c18 => ?_) (fun c18 => ?_)
  · skip
    have k18 : m15 ≠ 0 := fun z => c18 ((nI_eq (a := m15) (b := 0) (by omega) (by omega)).mpr z)
    refine q_iconst (v := nI 0) (pc2 := 26) C dL_rigs_25 (by decide) rfl ?_
    exact hj26 0 (by omega)
  · skip
    have k18 : m15 = 0 := (nI_eq (a := m15) (b := 0) (by omega) (by omega)).mp (c18)
    refine q_iconst (v := nI 1) (pc2 := 22) C dL_rigs_21 (by decide) rfl ?_
    refine q_goto (pc2 := 26) C dL_rigs_22 (by decide) ?_
    exact hj26 1 (by omega)

set_option maxHeartbeats 4000000 in
set_option maxRecDepth 100000 in
theorem c_L_rigs_1 (l : Launch) (D : va_G) (ct : Nat → ClassId) (hl : l.stackTraces = false) (a : Nat → Nat) (x : Nat → Nat → Int32) (fc fb fp fq fn fl : Nat → Int32) (y : Int32) (M : Nat) (r0 : RE M x fc fb fp fq fn fl) : qM l yL_rigs wsL_rigs ({ frames := 9, cells := 2, slots := 12, locals := 160 }) D ct [.ref (a 30), .int (nI 1), .int y, .ref (a 40), .ref (a 41), .ref (a 42)] (wT ct a x fc fb fp fq fn fl) (pR ct a (M + 50)) 2 12 := by
  refine q_start (ret := some .boolean) (lv := [(0, .ref (a 30)), (1, .int (nI 1)), (2, .int y), (3, .ref (a 40)), (4, .ref (a 41)), (5, .ref (a 42))]) (by decide +kernel) rfl (Nat.le_of_ble_eq_true rfl) rfl ?_
  intro p e s m args below meth c A Q C hQ hnm
  obtain ⟨n, h, q, b, t, kb, K, S, F, V, ht, r⟩ := r0
  obtain ⟨rh, rl, rr, rp, rc, rs, hbq⟩ := id r
  obtain ⟨hlt, hx4, hc0, hkbs, hlen⟩ := id rh
  obtain ⟨hn5, hx0, hc3, hlow, hall, hhigh⟩ := id rl
  obtain ⟨hq4, hx16, hc4, hcue, hfd, hnam, hnaz⟩ := id rc
  obtain ⟨hx22, hc5, hx21, hc7, hc6, hx23, hfl, hlvr, hlev⟩ := id rs
  obtain ⟨hkb2, hx5, hck⟩ := hkbs h hlt
  have hK : ∀ k, k < n → fp k = nI (K k) ∧ K k < 4 := fun k hk => ⟨(hlow k hk).2.1, (hlow k hk).1⟩
  have hb4 : b ≤ 4 := by omega
  have hG : ∀ v z : Int32, Cf p l e ({ frames := 9, cells := 2, slots := 12, locals := 160 }) s m args below meth c D A 14 0 0 Q 49 [(7, .int z), (6, .int v), (0, .ref (a 30)), (1, .int (nI 1)), (2, .int y), (3, .ref (a 40)), (4, .ref (a 41)), (5, .ref (a 42))] [] (wT ct a x fc fb fp fq fn fl) := by
    intro v z
    refine q_iload_n (pc2 := 50) C 3 dL_rigs_49 rfl rfl rfl ?_
    refine q_if_ne (tgt := 267) (pc2 := 53) C dL_rigs_50 (by decide) rfl (fun _ => ?_) (fun h9 => absurd h9 (by decide))
    refine q_iload_n (pc2 := 268) C 3 dL_rigs_267 rfl rfl rfl ?_
    refine q_iconst (v := nI 1) (pc2 := 269) C dL_rigs_268 (by decide) rfl ?_
    refine q_icmp_ne (tgt := 448) (pc2 := 272) C dL_rigs_269 (by decide) rfl (fun h9 => absurd (by decide) h9) (fun _ => ?_)
    have hj292 : ∀ kd : Nat, (kd ≤ 4) → Cf p l e ({ frames := 9, cells := 2, slots := 12, locals := 160 }) s m args below meth c D A 14 0 0 Q 292 [(7, .int z), (6, .int v), (0, .ref (a 30)), (1, .int (nI 1)), (2, .int y), (3, .ref (a 40)), (4, .ref (a 41)), (5, .ref (a 42))] [.int (nI kd)] (wT ct a x fc fb fp fq fn fl) := by
      intro kd hkd
      refine q_istore (lv' := [(8, .int (nI kd)), (7, .int z), (6, .int v), (0, .ref (a 30)), (1, .int (nI 1)), (2, .int y), (3, .ref (a 40)), (4, .ref (a 41)), (5, .ref (a 42))]) (pc2 := 294) C dL_rigs_292 (by decide) rfl rfl ?_
      have hj318 : ∀ co : Nat, (co ≤ 21) → Cf p l e ({ frames := 9, cells := 2, slots := 12, locals := 160 }) s m args below meth c D A 14 0 0 Q 318 [(8, .int (nI kd)), (7, .int z), (6, .int v), (0, .ref (a 30)), (1, .int (nI 1)), (2, .int y), (3, .ref (a 40)), (4, .ref (a 41)), (5, .ref (a 42))] [.int (nI co)] (wT ct a x fc fb fp fq fn fl) := by
        intro co hco
        refine q_istore (lv' := [(9, .int (nI co)), (8, .int (nI kd)), (7, .int z), (6, .int v), (0, .ref (a 30)), (1, .int (nI 1)), (2, .int y), (3, .ref (a 40)), (4, .ref (a 41)), (5, .ref (a 42))]) (pc2 := 320) C dL_rigs_318 (by decide) rfl rfl ?_
        refine q_iload (pc2 := 322) C 1 dL_rigs_320 rfl rfl ?_
        refine q_iconst (v := nI 4) (pc2 := 323) C dL_rigs_322 (by decide) rfl ?_
        refine q_icmp_ge (tgt := 337) (pc2 := 326) C dL_rigs_323 (by decide) rfl (fun c323 => ?_) (fun c323 => ?_)
        · skip
          have k323 : 4 ≤ kd := (nI_leI (a := 4) (b := kd) (by omega) (by omega)).mp c323
          refine q_iconst (v := nI 0) (pc2 := 338) C dL_rigs_337 (by decide) rfl ?_
          refine q_istore (lv' := [(10, .int (nI 0)), (9, .int (nI co)), (8, .int (nI kd)), (7, .int z), (6, .int v), (0, .ref (a 30)), (1, .int (nI 1)), (2, .int y), (3, .ref (a 40)), (4, .ref (a 41)), (5, .ref (a 42))]) (pc2 := 340) C dL_rigs_338 (by decide) rfl rfl ?_
          refine q_iload (pc2 := 342) C 0 dL_rigs_340 rfl rfl ?_
          refine q_if_eq (tgt := 354) (pc2 := 345) C dL_rigs_342 (by decide) rfl (fun _ => ?_) (fun h9 => absurd (by decide) h9)
          refine q_iload (pc2 := 356) C 0 dL_rigs_354 rfl rfl ?_
          refine q_if_eq (tgt := 414) (pc2 := 359) C dL_rigs_356 (by decide) rfl (fun _ => ?_) (fun h9 => absurd (by decide) h9)
          refine q_aload_n (pc2 := 415) C 5 dL_rigs_414 rfl rfl rfl ?_
          refine q_iconst (v := nI 0) (pc2 := 416) C dL_rigs_415 (by decide) rfl ?_
          refine q_iload (pc2 := 418) C 2 dL_rigs_416 rfl rfl ?_
          refine q_iload (pc2 := 420) C 1 dL_rigs_418 rfl rfl ?_
          refine q_iconst (v := nI 0) (pc2 := 421) C dL_rigs_420 (by decide) rfl ?_
          have hM := c_X3_lamp l hl D ct a x n hx0 (by omega) (nI kd) (nI co)
          refine q_Hno_wT (pc2 := 424) (As := [.ref (a 30), .int (nI 0), .int (nI kd), .int (nI co), .int (nI 0)]) (st := []) (st2 := [.int (-101)]) (c2 := 1) (s2 := 6) C (c_L_made0 l D ct a x _ (nI kd) (nI co) (nI 0) _ _ hM) (by rw [if_neg (fun z : 0 ≤ nI kd ∧ nI kd ≤ 3 => absurd z.2 (nI_ge (b := kd) (a := 3) (by omega) (by omega)))]) (by decide +kernel) (vx_cwSW 5 C.w gL_rigs_L_made rfl rfl rfl (by decide +kernel) ⟨Nat.le_of_ble_eq_true rfl, Nat.le_of_ble_eq_true rfl⟩) dL_rigs_421 rfl rfl (Nat.le_of_ble_eq_true rfl) ⟨Nat.le_of_ble_eq_true rfl, Nat.le_of_ble_eq_true rfl⟩ rfl rfl (by decide) rfl rfl ?_
          refine q_iload (pc2 := 426) C 0 dL_rigs_424 rfl rfl ?_
          refine q_if_eq (tgt := 437) (pc2 := 429) C dL_rigs_426 (by decide) rfl (fun _ => ?_) (fun h9 => absurd (by decide) h9)
          refine q_bipush (v := (-101)) (pc2 := 439) C dL_rigs_437 (by decide) rfl ?_
          refine q_icmp_ne (tgt := 446) (pc2 := 442) C dL_rigs_439 (by decide) rfl (fun h9 => absurd (by decide) h9) (fun _ => ?_)
          refine q_iconst (v := nI 1) (pc2 := 443) C dL_rigs_442 (by decide) rfl ?_
          refine q_goto (pc2 := 447) C dL_rigs_443 (by decide) ?_
          exact q_zret C hQ rfl (rfl) (by omega) (by omega) dL_rigs_447 ⟨rfl, _, _, _, _, _, _, _, rfl, (RE.mono (Nat.le_add_right M 50) ⟨n, h, q, b, t, kb, K, S, F, V, ht, r⟩)⟩
        · skip
          have k323 : kd < 4 := (nI_ltI (a := kd) (b := 4) (by omega) (by omega)).mp (Int32.not_le.mp c323)
          refine q_iload (pc2 := 328) C 0 dL_rigs_326 rfl rfl ?_
          refine q_bipush (v := nI 21) (pc2 := 330) C dL_rigs_328 (by decide) rfl ?_
          refine q_icmp_ge (tgt := 337) (pc2 := 333) C dL_rigs_330 (by decide) rfl (fun c330 => ?_) (fun c330 => ?_)
          · skip
            have k330 : 21 ≤ co := (nI_leI (a := 21) (b := co) (by omega) (by omega)).mp c330
            refine q_iconst (v := nI 0) (pc2 := 338) C dL_rigs_337 (by decide) rfl ?_
            refine q_istore (lv' := [(10, .int (nI 0)), (9, .int (nI co)), (8, .int (nI kd)), (7, .int z), (6, .int v), (0, .ref (a 30)), (1, .int (nI 1)), (2, .int y), (3, .ref (a 40)), (4, .ref (a 41)), (5, .ref (a 42))]) (pc2 := 340) C dL_rigs_338 (by decide) rfl rfl ?_
            refine q_iload (pc2 := 342) C 0 dL_rigs_340 rfl rfl ?_
            refine q_if_eq (tgt := 354) (pc2 := 345) C dL_rigs_342 (by decide) rfl (fun _ => ?_) (fun h9 => absurd (by decide) h9)
            refine q_iload (pc2 := 356) C 0 dL_rigs_354 rfl rfl ?_
            refine q_if_eq (tgt := 414) (pc2 := 359) C dL_rigs_356 (by decide) rfl (fun _ => ?_) (fun h9 => absurd (by decide) h9)
            refine q_aload_n (pc2 := 415) C 5 dL_rigs_414 rfl rfl rfl ?_
            refine q_iconst (v := nI 0) (pc2 := 416) C dL_rigs_415 (by decide) rfl ?_
            refine q_iload (pc2 := 418) C 2 dL_rigs_416 rfl rfl ?_
            refine q_iload (pc2 := 420) C 1 dL_rigs_418 rfl rfl ?_
            refine q_iconst (v := nI 0) (pc2 := 421) C dL_rigs_420 (by decide) rfl ?_
            have hM := c_X3_lamp l hl D ct a x n hx0 (by omega) (nI kd) (nI co)
            refine q_Hno_wT (pc2 := 424) (As := [.ref (a 30), .int (nI 0), .int (nI kd), .int (nI co), .int (nI 0)]) (st := []) (st2 := [.int (-101)]) (c2 := 1) (s2 := 6) C (c_L_made0 l D ct a x _ (nI kd) (nI co) (nI 0) _ _ hM) (by rw [if_pos (show 0 ≤ nI kd ∧ nI kd ≤ 3 from ⟨nI_pos' (by omega), nI_le (b := 3) (by omega) (by omega)⟩), if_neg (fun z : 0 ≤ nI co ∧ nI co ≤ 20 => absurd z.2 (nI_ge (b := co) (a := 20) (by omega) (by omega)))]) (by decide +kernel) (vx_cwSW 5 C.w gL_rigs_L_made rfl rfl rfl (by decide +kernel) ⟨Nat.le_of_ble_eq_true rfl, Nat.le_of_ble_eq_true rfl⟩) dL_rigs_421 rfl rfl (Nat.le_of_ble_eq_true rfl) ⟨Nat.le_of_ble_eq_true rfl, Nat.le_of_ble_eq_true rfl⟩ rfl rfl (by decide) rfl rfl ?_
            refine q_iload (pc2 := 426) C 0 dL_rigs_424 rfl rfl ?_
            refine q_if_eq (tgt := 437) (pc2 := 429) C dL_rigs_426 (by decide) rfl (fun _ => ?_) (fun h9 => absurd (by decide) h9)
            refine q_bipush (v := (-101)) (pc2 := 439) C dL_rigs_437 (by decide) rfl ?_
            refine q_icmp_ne (tgt := 446) (pc2 := 442) C dL_rigs_439 (by decide) rfl (fun h9 => absurd (by decide) h9) (fun _ => ?_)
            refine q_iconst (v := nI 1) (pc2 := 443) C dL_rigs_442 (by decide) rfl ?_
            refine q_goto (pc2 := 447) C dL_rigs_443 (by decide) ?_
            exact q_zret C hQ rfl (rfl) (by omega) (by omega) dL_rigs_447 ⟨rfl, _, _, _, _, _, _, _, rfl, (RE.mono (Nat.le_add_right M 50) ⟨n, h, q, b, t, kb, K, S, F, V, ht, r⟩)⟩
          · skip
            have k330 : co < 21 := (nI_ltI (a := co) (b := 21) (by omega) (by omega)).mp (Int32.not_le.mp c330)
            refine q_iconst (v := nI 1) (pc2 := 334) C dL_rigs_333 (by decide) rfl ?_
            refine q_goto (pc2 := 338) C dL_rigs_334 (by decide) ?_
            refine q_istore (lv' := [(10, .int (nI 1)), (9, .int (nI co)), (8, .int (nI kd)), (7, .int z), (6, .int v), (0, .ref (a 30)), (1, .int (nI 1)), (2, .int y), (3, .ref (a 40)), (4, .ref (a 41)), (5, .ref (a 42))]) (pc2 := 340) C dL_rigs_338 (by decide) rfl rfl ?_
            refine q_iload (pc2 := 342) C 0 dL_rigs_340 rfl rfl ?_
            refine q_if_eq (tgt := 354) (pc2 := 345) C dL_rigs_342 (by decide) rfl (fun h9 => absurd h9 (by decide)) (fun _ => ?_)
            refine q_aload_n (pc2 := 346) C 8 dL_rigs_345 rfl rfl rfl ?_
            refine q_iconst (v := nI 3) (pc2 := 347) C dL_rigs_346 (by decide) rfl ?_
            refine q_iald (q0 := 26) (f := fc) (pc2 := 348) C 3 (wT_g0 ct a x fc fb fp fq fn fl) rfl (rfl) (by decide) (by decide) dL_rigs_347 rfl ?_
            refine q_eqi (y := nI n) (hc3) ?_
            refine q_iconst (v := nI 5) (pc2 := 349) C dL_rigs_348 (by decide) rfl ?_
            refine q_icmp_ne (tgt := 354) (pc2 := 352) C dL_rigs_349 (by decide) rfl (fun c349 => ?_) (fun c349 => ?_)
            · skip
              have k349 : n ≠ 5 := fun z => c349 ((nI_eq (a := n) (b := 5) (by omega) (by omega)).mpr z)
              refine q_iload (pc2 := 356) C 0 dL_rigs_354 rfl rfl ?_
              refine q_if_eq (tgt := 414) (pc2 := 359) C dL_rigs_356 (by decide) rfl (fun h9 => absurd h9 (by decide)) (fun _ => ?_)
              refine q_aload (pc2 := 361) C 10 dL_rigs_359 rfl rfl ?_
              refine q_aload_n (pc2 := 362) C 8 dL_rigs_361 rfl rfl rfl ?_
              refine q_iconst (v := nI 3) (pc2 := 363) C dL_rigs_362 (by decide) rfl ?_
              refine q_iald (q0 := 26) (f := fc) (pc2 := 364) C 3 (wT_g0 ct a x fc fb fp fq fn fl) rfl (rfl) (by decide) (by decide) dL_rigs_363 rfl ?_
              refine q_eqi (y := nI n) (hc3) ?_
              refine q_iload (pc2 := 366) C 2 dL_rigs_364 rfl rfl ?_
              refine q_iast (q0 := 28) (f := fp) (ws' := (wT ct a x fc fb (upd fp n (nI kd)) fq fn fl)) (pc2 := 367) C n (wT_g2 ct a x fc fb fp fq fn fl) rfl (rfl) (by omega) (by decide) (wT_a2 ct a x fc fb fp fq fn fl (upd fp n (nI kd))) dL_rigs_366 rfl ?_
              refine q_aload (pc2 := 369) C 10 dL_rigs_367 rfl rfl ?_
              refine q_iconst (v := nI 5) (pc2 := 370) C dL_rigs_369 (by decide) rfl ?_
              refine q_aload_n (pc2 := 371) C 8 dL_rigs_370 rfl rfl rfl ?_
              refine q_iconst (v := nI 3) (pc2 := 372) C dL_rigs_371 (by decide) rfl ?_
              refine q_iald (q0 := 26) (f := fc) (pc2 := 373) C 3 (wT_g0 ct a x fc fb (upd fp n (nI kd)) fq fn fl) rfl (rfl) (by decide) (by decide) dL_rigs_372 rfl ?_
              refine q_eqi (y := nI n) (hc3) ?_
              refine q_iadd (v := nI (5 + n)) (pc2 := 374) C dL_rigs_373 (nI_add 5 n) rfl ?_
              refine q_iload (pc2 := 376) C 1 dL_rigs_374 rfl rfl ?_
              refine q_iast (q0 := 28) (f := (upd fp n (nI kd))) (ws' := (wT ct a x fc fb (upd (upd fp n (nI kd)) (5 + n) (nI co)) fq fn fl)) (pc2 := 377) C (5 + n) (wT_g2 ct a x fc fb (upd fp n (nI kd)) fq fn fl) rfl (rfl) (by omega) (by decide) (wT_a2 ct a x fc fb (upd fp n (nI kd)) fq fn fl (upd (upd fp n (nI kd)) (5 + n) (nI co))) dL_rigs_376 rfl ?_
              refine q_aload (pc2 := 379) C 10 dL_rigs_377 rfl rfl ?_
              refine q_bipush (v := nI 10) (pc2 := 381) C dL_rigs_379 (by decide) rfl ?_
              refine q_aload_n (pc2 := 382) C 8 dL_rigs_381 rfl rfl rfl ?_
              refine q_iconst (v := nI 3) (pc2 := 383) C dL_rigs_382 (by decide) rfl ?_
              refine q_iald (q0 := 26) (f := fc) (pc2 := 384) C 3 (wT_g0 ct a x fc fb (upd (upd fp n (nI kd)) (5 + n) (nI co)) fq fn fl) rfl (rfl) (by decide) (by decide) dL_rigs_383 rfl ?_
              refine q_eqi (y := nI n) (hc3) ?_
              refine q_iadd (v := nI (10 + n)) (pc2 := 385) C dL_rigs_384 (nI_add 10 n) rfl ?_
              refine q_iconst (v := (-1)) (pc2 := 386) C dL_rigs_385 (by decide) rfl ?_
              refine q_iast (q0 := 28) (f := (upd (upd fp n (nI kd)) (5 + n) (nI co))) (ws' := (wT ct a x fc fb (upd (upd (upd fp n (nI kd)) (5 + n) (nI co)) (10 + n) (-1)) fq fn fl)) (pc2 := 387) C (10 + n) (wT_g2 ct a x fc fb (upd (upd fp n (nI kd)) (5 + n) (nI co)) fq fn fl) rfl (rfl) (by omega) (by decide) (wT_a2 ct a x fc fb (upd (upd fp n (nI kd)) (5 + n) (nI co)) fq fn fl (upd (upd (upd fp n (nI kd)) (5 + n) (nI co)) (10 + n) (-1))) dL_rigs_386 rfl ?_
              refine q_aload (pc2 := 389) C 10 dL_rigs_387 rfl rfl ?_
              refine q_bipush (v := nI 20) (pc2 := 391) C dL_rigs_389 (by decide) rfl ?_
              refine q_aload_n (pc2 := 392) C 8 dL_rigs_391 rfl rfl rfl ?_
              refine q_iconst (v := nI 3) (pc2 := 393) C dL_rigs_392 (by decide) rfl ?_
              refine q_iald (q0 := 26) (f := fc) (pc2 := 394) C 3 (wT_g0 ct a x fc fb (upd (upd (upd fp n (nI kd)) (5 + n) (nI co)) (10 + n) (-1)) fq fn fl) rfl (rfl) (by decide) (by decide) dL_rigs_393 rfl ?_
              refine q_eqi (y := nI n) (hc3) ?_
              refine q_iadd (v := nI (20 + n)) (pc2 := 395) C dL_rigs_394 (nI_add 20 n) rfl ?_
              refine q_iconst (v := (-1)) (pc2 := 396) C dL_rigs_395 (by decide) rfl ?_
              refine q_iast (q0 := 28) (f := (upd (upd (upd fp n (nI kd)) (5 + n) (nI co)) (10 + n) (-1))) (ws' := (wT ct a x fc fb (upd (upd (upd (upd fp n (nI kd)) (5 + n) (nI co)) (10 + n) (-1)) (20 + n) (-1)) fq fn fl)) (pc2 := 397) C (20 + n) (wT_g2 ct a x fc fb (upd (upd (upd fp n (nI kd)) (5 + n) (nI co)) (10 + n) (-1)) fq fn fl) rfl (rfl) (by omega) (by decide) (wT_a2 ct a x fc fb (upd (upd (upd fp n (nI kd)) (5 + n) (nI co)) (10 + n) (-1)) fq fn fl (upd (upd (upd (upd fp n (nI kd)) (5 + n) (nI co)) (10 + n) (-1)) (20 + n) (-1))) dL_rigs_396 rfl ?_
              refine q_aload (pc2 := 399) C 10 dL_rigs_397 rfl rfl ?_
              refine q_bipush (v := nI 25) (pc2 := 401) C dL_rigs_399 (by decide) rfl ?_
              refine q_aload_n (pc2 := 402) C 8 dL_rigs_401 rfl rfl rfl ?_
              refine q_iconst (v := nI 3) (pc2 := 403) C dL_rigs_402 (by decide) rfl ?_
              refine q_iald (q0 := 26) (f := fc) (pc2 := 404) C 3 (wT_g0 ct a x fc fb (upd (upd (upd (upd fp n (nI kd)) (5 + n) (nI co)) (10 + n) (-1)) (20 + n) (-1)) fq fn fl) rfl (rfl) (by decide) (by decide) dL_rigs_403 rfl ?_
              refine q_eqi (y := nI n) (hc3) ?_
              refine q_iadd (v := nI (25 + n)) (pc2 := 405) C dL_rigs_404 (nI_add 25 n) rfl ?_
              refine q_iconst (v := (-1)) (pc2 := 406) C dL_rigs_405 (by decide) rfl ?_
              refine q_iast (q0 := 28) (f := (upd (upd (upd (upd fp n (nI kd)) (5 + n) (nI co)) (10 + n) (-1)) (20 + n) (-1))) (ws' := (wT ct a x fc fb (upd (upd (upd (upd (upd fp n (nI kd)) (5 + n) (nI co)) (10 + n) (-1)) (20 + n) (-1)) (25 + n) (-1)) fq fn fl)) (pc2 := 407) C (25 + n) (wT_g2 ct a x fc fb (upd (upd (upd (upd fp n (nI kd)) (5 + n) (nI co)) (10 + n) (-1)) (20 + n) (-1)) fq fn fl) rfl (rfl) (by omega) (by decide) (wT_a2 ct a x fc fb (upd (upd (upd (upd fp n (nI kd)) (5 + n) (nI co)) (10 + n) (-1)) (20 + n) (-1)) fq fn fl (upd (upd (upd (upd (upd fp n (nI kd)) (5 + n) (nI co)) (10 + n) (-1)) (20 + n) (-1)) (25 + n) (-1))) dL_rigs_406 rfl ?_
              refine q_aload_n (pc2 := 408) C 8 dL_rigs_407 rfl rfl rfl ?_
              refine q_iconst (v := nI 3) (pc2 := 409) C dL_rigs_408 (by decide) rfl ?_
              refine q_dup2 (pc2 := 410) C dL_rigs_409 rfl rfl rfl ?_
              refine q_iald (q0 := 26) (f := fc) (pc2 := 411) C 3 (wT_g0 ct a x fc fb (upd (upd (upd (upd (upd fp n (nI kd)) (5 + n) (nI co)) (10 + n) (-1)) (20 + n) (-1)) (25 + n) (-1)) fq fn fl) rfl (rfl) (by decide) (by decide) dL_rigs_410 rfl ?_
              refine q_eqi (y := nI n) (hc3) ?_
              refine q_iconst (v := nI 1) (pc2 := 412) C dL_rigs_411 (by decide) rfl ?_
              refine q_iadd (v := nI (n + 1)) (pc2 := 413) C dL_rigs_412 (nI_add n 1) rfl ?_
              refine q_iast (q0 := 26) (f := fc) (ws' := (wT ct a x (upd fc 3 (nI (n + 1))) fb (upd (upd (upd (upd (upd fp n (nI kd)) (5 + n) (nI co)) (10 + n) (-1)) (20 + n) (-1)) (25 + n) (-1)) fq fn fl)) (pc2 := 414) C 3 (wT_g0 ct a x fc fb (upd (upd (upd (upd (upd fp n (nI kd)) (5 + n) (nI co)) (10 + n) (-1)) (20 + n) (-1)) (25 + n) (-1)) fq fn fl) rfl (rfl) (by decide) (by decide) (wT_a0 ct a x fc fb (upd (upd (upd (upd (upd fp n (nI kd)) (5 + n) (nI co)) (10 + n) (-1)) (20 + n) (-1)) (25 + n) (-1)) fq fn fl (upd fc 3 (nI (n + 1)))) dL_rigs_413 rfl ?_
              refine q_aload_n (pc2 := 415) C 5 dL_rigs_414 rfl rfl rfl ?_
              refine q_iconst (v := nI 0) (pc2 := 416) C dL_rigs_415 (by decide) rfl ?_
              refine q_iload (pc2 := 418) C 2 dL_rigs_416 rfl rfl ?_
              refine q_iload (pc2 := 420) C 1 dL_rigs_418 rfl rfl ?_
              refine q_iconst (v := nI 0) (pc2 := 421) C dL_rigs_420 (by decide) rfl ?_
              have hM := c_X3_lamp l hl D ct a x n hx0 (by omega) (nI kd) (nI co)
              rw [hx0] at hM
              refine q_Hok_wT (pc2 := 424) (As := [.ref (a 30), .int (nI 0), .int (nI kd), .int (nI co), .int (nI 0)]) (st := []) (st2 := [.int (nI n)]) (x' := (set2 (set2 (set2 (set2 (set2 x 0 (fun _ => nI n + 1)) 1 (upd (x 1) n (nI co))) 8 (upd (x 8) n (wgh (nI kd)))) 13 (upd (x 13) n (wdX (nI kd)))) 15 (upd (x 15) n (drw (nI kd))))) C (c_L_made0 l D ct a x _ (nI kd) (nI co) (nI 0) _ _ hM) (by rw [if_pos (show 0 ≤ nI kd ∧ nI kd ≤ 3 from ⟨nI_pos' (by omega), nI_le (b := 3) (by omega) (by omega)⟩), if_pos (show 0 ≤ nI co ∧ nI co ≤ 20 from ⟨nI_pos' (by omega), nI_le (b := 20) (by omega) (by omega)⟩), if_pos (show nI n < 10 from nI_lt (b := 10) (by omega) (by omega))]) (vx_cwSW 5 C.w gL_rigs_L_made rfl rfl rfl (by decide +kernel) ⟨Nat.le_of_ble_eq_true rfl, Nat.le_of_ble_eq_true rfl⟩) dL_rigs_421 rfl rfl (Nat.le_of_ble_eq_true rfl) ⟨Nat.zero_le _, Nat.zero_le _⟩ rfl rfl ?_
              refine q_iload (pc2 := 426) C 0 dL_rigs_424 rfl rfl ?_
              refine q_if_eq (tgt := 437) (pc2 := 429) C dL_rigs_426 (by decide) rfl (fun h9 => absurd h9 (by decide)) (fun _ => ?_)
              refine q_aload_n (pc2 := 430) C 8 dL_rigs_429 rfl rfl rfl ?_
              refine q_iconst (v := nI 3) (pc2 := 431) C dL_rigs_430 (by decide) rfl ?_
              refine q_iald (q0 := 26) (f := (upd fc 3 (nI (n + 1)))) (pc2 := 432) C 3 (wT_g0 ct a (set2 (set2 (set2 (set2 (set2 x 0 (fun _ => nI n + 1)) 1 (upd (x 1) n (nI co))) 8 (upd (x 8) n (wgh (nI kd)))) 13 (upd (x 13) n (wdX (nI kd)))) 15 (upd (x 15) n (drw (nI kd)))) (upd fc 3 (nI (n + 1))) fb (upd (upd (upd (upd (upd fp n (nI kd)) (5 + n) (nI co)) (10 + n) (-1)) (20 + n) (-1)) (25 + n) (-1)) fq fn fl) rfl (rfl) (by decide) (by decide) dL_rigs_431 rfl ?_
              refine q_eqi (y := nI (n + 1)) (upd_s) ?_
              refine q_iconst (v := nI 1) (pc2 := 433) C dL_rigs_432 (by decide) rfl ?_
              refine q_isub (v := nI n) (pc2 := 434) C dL_rigs_433 (nI_pred n) rfl ?_
              refine q_goto (pc2 := 439) C dL_rigs_434 (by decide) ?_
              refine q_icmp_ne (tgt := 446) (pc2 := 442) C dL_rigs_439 (by decide) rfl (fun h9 => absurd (rfl) h9) (fun _ => ?_)
              refine q_iconst (v := nI 1) (pc2 := 443) C dL_rigs_442 (by decide) rfl ?_
              refine q_goto (pc2 := 447) C dL_rigs_443 (by decide) ?_
              exact q_zret C hQ rfl (rfl) (Nat.zero_le _) (Nat.zero_le _) dL_rigs_447 ⟨rfl, _, _, _, _, _, _, _, rfl, ⟨n + 1, h, q, b, t, kb, _, S, F, V, Nat.le_trans ht (Nat.le_add_right M 50), (by have hh := st_lamp r (kd := kd) (co := co) (by omega) (by omega) (by omega); rw [hx0] at hh; exact hh)⟩⟩
            · skip
              have k349 : n = 5 := (nI_eq (a := n) (b := 5) (by omega) (by omega)).mp (c349)
              refine q_iconst (v := nI 1) (pc2 := 353) C dL_rigs_352 (by decide) rfl ?_
              exact q_zret C hQ rfl (rfl) (Nat.zero_le _) (Nat.zero_le _) dL_rigs_353 ⟨rfl, _, _, _, _, _, _, _, rfl, (RE.mono (Nat.le_add_right M 50) ⟨n, h, q, b, t, kb, K, S, F, V, ht, r⟩)⟩
      refine q_iload_n (pc2 := 295) C 5 dL_rigs_294 rfl rfl rfl ?_
      refine q_iconst (v := nI 5) (pc2 := 296) C dL_rigs_295 (by decide) rfl ?_
      refine q_ishr (v := (y >>> (nI 5 &&& 31))) (pc2 := 297) C dL_rigs_296 (rfl) rfl ?_
      refine q_bipush (v := nI 40) (pc2 := 299) C dL_rigs_297 (by decide) rfl ?_
      refine q_some (pc2 := 302) C (v := (y >>> (nI 5 &&& 31))) 40 (by omega) (by omega) (va_cwS 2 C.w gL_rigs_L_some rfl rfl rfl (by decide +kernel) ⟨Nat.le_of_ble_eq_true rfl, Nat.le_of_ble_eq_true rfl⟩) dL_rigs_299 rfl ⟨Nat.le_of_ble_eq_true rfl, Nat.le_of_ble_eq_true rfl⟩ (Nat.le_of_ble_eq_true rfl) (fun m299 hm299 => ?_)
      refine q_if_ne (tgt := 310) (pc2 := 305) C dL_rigs_302 (by decide) rfl (fun c302 => ?_) (fun c302 => ?_)
      · skip
        have k302 : m299 ≠ 0 := fun z => c302 ((nI_eq (a := m299) (b := 0) (by omega) (by omega)).mpr z)
        refine q_iload_n (pc2 := 311) C 5 dL_rigs_310 rfl rfl rfl ?_
        refine q_iconst (v := nI 5) (pc2 := 312) C dL_rigs_311 (by decide) rfl ?_
        refine q_ishr (v := (y >>> (nI 5 &&& 31))) (pc2 := 313) C dL_rigs_312 (rfl) rfl ?_
        refine q_bipush (v := nI 21) (pc2 := 315) C dL_rigs_313 (by decide) rfl ?_
        refine q_some (pc2 := 318) C (v := (y >>> (nI 5 &&& 31))) 21 (by omega) (by omega) (va_cwS 2 C.w gL_rigs_L_some rfl rfl rfl (by decide +kernel) ⟨Nat.le_of_ble_eq_true rfl, Nat.le_of_ble_eq_true rfl⟩) dL_rigs_315 rfl ⟨Nat.le_of_ble_eq_true rfl, Nat.le_of_ble_eq_true rfl⟩ (Nat.le_of_ble_eq_true rfl) (fun m315 hm315 => ?_)
        exact hj318 m315 (by omega)
      · skip
        have k302 : m299 = 0 := (nI_eq (a := m299) (b := 0) (by omega) (by omega)).mp (c302)
        refine q_bipush (v := nI 21) (pc2 := 307) C dL_rigs_305 (by decide) rfl ?_
        refine q_goto (pc2 := 318) C dL_rigs_307 (by decide) ?_
        exact hj318 21 (by omega)
    refine q_iload_n (pc2 := 273) C 4 dL_rigs_272 rfl rfl rfl ?_
    refine q_bipush (v := nI 40) (pc2 := 275) C dL_rigs_273 (by decide) rfl ?_
    refine q_some (pc2 := 278) C (v := y) 40 (by omega) (by omega) (va_cwS 2 C.w gL_rigs_L_some rfl rfl rfl (by decide +kernel) ⟨Nat.le_of_ble_eq_true rfl, Nat.le_of_ble_eq_true rfl⟩) dL_rigs_275 rfl ⟨Nat.le_of_ble_eq_true rfl, Nat.le_of_ble_eq_true rfl⟩ (Nat.le_of_ble_eq_true rfl) (fun m275 hm275 => ?_)
    refine q_if_ne (tgt := 285) (pc2 := 281) C dL_rigs_278 (by decide) rfl (fun c278 => ?_) (fun c278 => ?_)
    · skip
      have k278 : m275 ≠ 0 := fun z => c278 ((nI_eq (a := m275) (b := 0) (by omega) (by omega)).mpr z)
      refine q_iload_n (pc2 := 286) C 4 dL_rigs_285 rfl rfl rfl ?_
      refine q_iconst (v := nI 2) (pc2 := 287) C dL_rigs_286 (by decide) rfl ?_
      refine q_ishr (v := (y >>> (nI 2 &&& 31))) (pc2 := 288) C dL_rigs_287 (rfl) rfl ?_
      refine q_iconst (v := nI 4) (pc2 := 289) C dL_rigs_288 (by decide) rfl ?_
      refine q_some (pc2 := 292) C (v := (y >>> (nI 2 &&& 31))) 4 (by omega) (by omega) (va_cwS 2 C.w gL_rigs_L_some rfl rfl rfl (by decide +kernel) ⟨Nat.le_of_ble_eq_true rfl, Nat.le_of_ble_eq_true rfl⟩) dL_rigs_289 rfl ⟨Nat.le_of_ble_eq_true rfl, Nat.le_of_ble_eq_true rfl⟩ (Nat.le_of_ble_eq_true rfl) (fun m289 hm289 => ?_)
      exact hj292 m289 (by omega)
    · skip
      have k278 : m275 = 0 := (nI_eq (a := m275) (b := 0) (by omega) (by omega)).mp (c278)
      refine q_iconst (v := nI 4) (pc2 := 282) C dL_rigs_281 (by decide) rfl ?_
      refine q_goto (pc2 := 292) C dL_rigs_282 (by decide) ?_
      exact hj292 4 (by omega)
  refine q_iload_n (pc2 := 1) C 2 dL_rigs_0 rfl rfl rfl ?_
  refine q_aload_n (pc2 := 2) C 3 dL_rigs_1 rfl rfl rfl ?_
  refine q_iconst (v := nI 3) (pc2 := 3) C dL_rigs_2 (by decide) rfl ?_
  refine q_iald (q0 := 26) (f := fc) (pc2 := 4) C 3 (wT_g0 ct a x fc fb fp fq fn fl) rfl (rfl) (by decide) (by decide) dL_rigs_3 rfl ?_
  refine q_eqi (y := nI n) (hc3) ?_
  refine q_iconst (v := nI 1) (pc2 := 5) C dL_rigs_4 (by decide) rfl ?_
  refine q_iadd (v := nI (n + 1)) (pc2 := 6) C dL_rigs_5 (nI_add n 1) rfl ?_
  refine q_some (pc2 := 9) C (v := y) (n + 1) (by omega) (by omega) (va_cwS 2 C.w gL_rigs_L_some rfl rfl rfl (by decide +kernel) ⟨Nat.le_of_ble_eq_true rfl, Nat.le_of_ble_eq_true rfl⟩) dL_rigs_6 rfl ⟨Nat.le_of_ble_eq_true rfl, Nat.le_of_ble_eq_true rfl⟩ (Nat.le_of_ble_eq_true rfl) (fun m6 hm6 => ?_)
  have hj26 : ∀ e1 : Nat, (e1 ≤ 1) → Cf p l e ({ frames := 9, cells := 2, slots := 12, locals := 160 }) s m args below meth c D A 14 0 0 Q 26 [(0, .ref (a 30)), (1, .int (nI 1)), (2, .int y), (3, .ref (a 40)), (4, .ref (a 41)), (5, .ref (a 42))] [.int (nI e1), .int (nI m6)] (wT ct a x fc fb fp fq fn fl) := by
    intro e1 he1
    rcases pick_lamp hn5 hm6 he1 with ⟨i, hi, ei⟩ | hv
    · skip
      refine q_isub (v := nI i) (pc2 := 27) C dL_rigs_26 (ei) rfl ?_
      refine q_istore (lv' := [(6, .int (nI i)), (0, .ref (a 30)), (1, .int (nI 1)), (2, .int y), (3, .ref (a 40)), (4, .ref (a 41)), (5, .ref (a 42))]) (pc2 := 29) C dL_rigs_27 (by decide) rfl rfl ?_
      refine q_iload (pc2 := 31) C 0 dL_rigs_29 rfl rfl ?_
      refine q_if_lt (tgt := 46) (pc2 := 34) C dL_rigs_31 (by decide) rfl (fun h9 => absurd h9 (nI_nlt (a := i) (b := 0) (by omega) (by omega))) (fun _ => ?_)
      refine q_iload (pc2 := 36) C 0 dL_rigs_34 rfl rfl ?_
      refine q_aload_n (pc2 := 37) C 4 dL_rigs_36 rfl rfl rfl ?_
      refine q_iconst (v := nI 3) (pc2 := 38) C dL_rigs_37 (by decide) rfl ?_
      refine q_iald (q0 := 26) (f := fc) (pc2 := 39) C 3 (wT_g0 ct a x fc fb fp fq fn fl) rfl (rfl) (by decide) (by decide) dL_rigs_38 rfl ?_
      refine q_eqi (y := nI n) (hc3) ?_
      refine q_icmp_ge (tgt := 46) (pc2 := 42) C dL_rigs_39 (by decide) rfl (fun h9 => absurd h9 (nI_ge (a := i) (b := n) (by omega) (by omega))) (fun _ => ?_)
      refine q_iconst (v := nI 1) (pc2 := 43) C dL_rigs_42 (by decide) rfl ?_
      refine q_goto (pc2 := 47) C dL_rigs_43 (by decide) ?_
      refine q_istore (lv' := [(7, .int (nI 1)), (6, .int (nI i)), (0, .ref (a 30)), (1, .int (nI 1)), (2, .int y), (3, .ref (a 40)), (4, .ref (a 41)), (5, .ref (a 42))]) (pc2 := 49) C dL_rigs_47 (by decide) rfl rfl ?_
      exact hG _ _
    · skip
      refine q_isub (v := (nI m6 - nI e1)) (pc2 := 27) C dL_rigs_26 (rfl) rfl ?_
      refine q_istore (lv' := [(6, .int (nI m6 - nI e1)), (0, .ref (a 30)), (1, .int (nI 1)), (2, .int y), (3, .ref (a 40)), (4, .ref (a 41)), (5, .ref (a 42))]) (pc2 := 29) C dL_rigs_27 (by decide) rfl rfl ?_
      refine q_iload (pc2 := 31) C 0 dL_rigs_29 rfl rfl ?_
      refine q_if_lt (tgt := 46) (pc2 := 34) C dL_rigs_31 (by decide) rfl (fun c31 => ?_) (fun c31 => ?_)
      · skip
        refine q_iconst (v := nI 0) (pc2 := 47) C dL_rigs_46 (by decide) rfl ?_
        refine q_istore (lv' := [(7, .int (nI 0)), (6, .int (nI m6 - nI e1)), (0, .ref (a 30)), (1, .int (nI 1)), (2, .int y), (3, .ref (a 40)), (4, .ref (a 41)), (5, .ref (a 42))]) (pc2 := 49) C dL_rigs_47 (by decide) rfl rfl ?_
        exact hG _ _
      · skip
        refine q_iload (pc2 := 36) C 0 dL_rigs_34 rfl rfl ?_
        refine q_aload_n (pc2 := 37) C 4 dL_rigs_36 rfl rfl rfl ?_
        refine q_iconst (v := nI 3) (pc2 := 38) C dL_rigs_37 (by decide) rfl ?_
        refine q_iald (q0 := 26) (f := fc) (pc2 := 39) C 3 (wT_g0 ct a x fc fb fp fq fn fl) rfl (rfl) (by decide) (by decide) dL_rigs_38 rfl ?_
        refine q_eqi (y := nI n) (hc3) ?_
        refine q_icmp_ge (tgt := 46) (pc2 := 42) C dL_rigs_39 (by decide) rfl (fun _ => ?_) (fun h9 => absurd (Int32.not_lt.mp (fun z9 => hv ⟨Int32.not_lt.mp c31, z9⟩)) h9)
        refine q_iconst (v := nI 0) (pc2 := 47) C dL_rigs_46 (by decide) rfl ?_
        refine q_istore (lv' := [(7, .int (nI 0)), (6, .int (nI m6 - nI e1)), (0, .ref (a 30)), (1, .int (nI 1)), (2, .int y), (3, .ref (a 40)), (4, .ref (a 41)), (5, .ref (a 42))]) (pc2 := 49) C dL_rigs_47 (by decide) rfl rfl ?_
        exact hG _ _
  refine q_iload_n (pc2 := 10) C 2 dL_rigs_9 rfl rfl rfl ?_
  refine q_bipush (v := nI 11) (pc2 := 12) C dL_rigs_10 (by decide) rfl ?_
  refine q_ishr (v := (y >>> (nI 11 &&& 31))) (pc2 := 13) C dL_rigs_12 (rfl) rfl ?_
  refine q_bipush (v := nI 19) (pc2 := 15) C dL_rigs_13 (by decide) rfl ?_
  refine q_some (pc2 := 18) C (v := (y >>> (nI 11 &&& 31))) 19 (by omega) (by omega) (va_cwS 2 C.w gL_rigs_L_some rfl rfl rfl (by decide +kernel) ⟨Nat.le_of_ble_eq_true rfl, Nat.le_of_ble_eq_true rfl⟩) dL_rigs_15 rfl ⟨Nat.le_of_ble_eq_true rfl, Nat.le_of_ble_eq_true rfl⟩ (Nat.le_of_ble_eq_true rfl) (fun m15 hm15 => ?_)
  refine q_if_ne (tgt := 25) (pc2 := 21) C dL_rigs_18 (by decide) rfl (fun c18 => ?_) (fun c18 => ?_)
  · skip
    have k18 : m15 ≠ 0 := fun z => c18 ((nI_eq (a := m15) (b := 0) (by omega) (by omega)).mpr z)
    refine q_iconst (v := nI 0) (pc2 := 26) C dL_rigs_25 (by decide) rfl ?_
    exact hj26 0 (by omega)
  · skip
    have k18 : m15 = 0 := (nI_eq (a := m15) (b := 0) (by omega) (by omega)).mp (c18)
    refine q_iconst (v := nI 1) (pc2 := 22) C dL_rigs_21 (by decide) rfl ?_
    refine q_goto (pc2 := 26) C dL_rigs_22 (by decide) ?_
    exact hj26 1 (by omega)

set_option maxHeartbeats 4000000 in
set_option maxRecDepth 100000 in
theorem c_L_rigs_2 (l : Launch) (D : va_G) (ct : Nat → ClassId) (hl : l.stackTraces = false) (a : Nat → Nat) (x : Nat → Nat → Int32) (fc fb fp fq fn fl : Nat → Int32) (y : Int32) (M : Nat) (r0 : RE M x fc fb fp fq fn fl) : qM l yL_rigs wsL_rigs ({ frames := 9, cells := 2, slots := 12, locals := 160 }) D ct [.ref (a 30), .int (nI 2), .int y, .ref (a 40), .ref (a 41), .ref (a 42)] (wT ct a x fc fb fp fq fn fl) (pR ct a (M + 50)) 2 12 := by
  refine q_start (ret := some .boolean) (lv := [(0, .ref (a 30)), (1, .int (nI 2)), (2, .int y), (3, .ref (a 40)), (4, .ref (a 41)), (5, .ref (a 42))]) (by decide +kernel) rfl (Nat.le_of_ble_eq_true rfl) rfl ?_
  intro p e s m args below meth c A Q C hQ hnm
  obtain ⟨n, h, q, b, t, kb, K, S, F, V, ht, r⟩ := r0
  obtain ⟨rh, rl, rr, rp, rc, rs, hbq⟩ := id r
  obtain ⟨hlt, hx4, hc0, hkbs, hlen⟩ := id rh
  obtain ⟨hn5, hx0, hc3, hlow, hall, hhigh⟩ := id rl
  obtain ⟨hq4, hx16, hc4, hcue, hfd, hnam, hnaz⟩ := id rc
  obtain ⟨hx22, hc5, hx21, hc7, hc6, hx23, hfl, hlvr, hlev⟩ := id rs
  obtain ⟨hkb2, hx5, hck⟩ := hkbs h hlt
  have hK : ∀ k, k < n → fp k = nI (K k) ∧ K k < 4 := fun k hk => ⟨(hlow k hk).2.1, (hlow k hk).1⟩
  have hb4 : b ≤ 4 := by omega
  have hA : ∀ i, i < n → Cf p l e ({ frames := 9, cells := 2, slots := 12, locals := 160 }) s m args below meth c D A 14 0 0 Q 49 [(7, .int (nI 1)), (6, .int (nI i)), (0, .ref (a 30)), (1, .int (nI 2)), (2, .int y), (3, .ref (a 40)), (4, .ref (a 41)), (5, .ref (a 42))] [] (wT ct a x fc fb fp fq fn fl) := by
    intro i hi
    refine q_iload_n (pc2 := 50) C 3 dL_rigs_49 rfl rfl rfl ?_
    refine q_if_ne (tgt := 267) (pc2 := 53) C dL_rigs_50 (by decide) rfl (fun _ => ?_) (fun h9 => absurd h9 (by decide))
    refine q_iload_n (pc2 := 268) C 3 dL_rigs_267 rfl rfl rfl ?_
    refine q_iconst (v := nI 1) (pc2 := 269) C dL_rigs_268 (by decide) rfl ?_
    refine q_icmp_ne (tgt := 448) (pc2 := 272) C dL_rigs_269 (by decide) rfl (fun _ => ?_) (fun h9 => absurd h9 (by decide))
    refine q_iload_n (pc2 := 449) C 3 dL_rigs_448 rfl rfl rfl ?_
    refine q_iconst (v := nI 2) (pc2 := 450) C dL_rigs_449 (by decide) rfl ?_
    refine q_icmp_ne (tgt := 628) (pc2 := 453) C dL_rigs_450 (by decide) rfl (fun h9 => absurd (by decide) h9) (fun _ => ?_)
    refine q_iload_n (pc2 := 454) C 4 dL_rigs_453 rfl rfl rfl ?_
    refine q_iconst (v := nI 3) (pc2 := 455) C dL_rigs_454 (by decide) rfl ?_
    refine q_ishr (v := (y >>> (nI 3 &&& 31))) (pc2 := 456) C dL_rigs_455 (rfl) rfl ?_
    refine q_iconst (v := nI 3) (pc2 := 457) C dL_rigs_456 (by decide) rfl ?_
    refine q_some (pc2 := 460) C (v := (y >>> (nI 3 &&& 31))) 3 (by omega) (by omega) (va_cwS 2 C.w gL_rigs_L_some rfl rfl rfl (by decide +kernel) ⟨Nat.le_of_ble_eq_true rfl, Nat.le_of_ble_eq_true rfl⟩) dL_rigs_457 rfl ⟨Nat.le_of_ble_eq_true rfl, Nat.le_of_ble_eq_true rfl⟩ (Nat.le_of_ble_eq_true rfl) (fun m457 hm457 => ?_)
    refine q_istore (lv' := [(8, .int (nI m457)), (7, .int (nI 1)), (6, .int (nI i)), (0, .ref (a 30)), (1, .int (nI 2)), (2, .int y), (3, .ref (a 40)), (4, .ref (a 41)), (5, .ref (a 42))]) (pc2 := 462) C dL_rigs_460 (by decide) rfl rfl ?_
    refine q_iload_n (pc2 := 463) C 5 dL_rigs_462 rfl rfl rfl ?_
    refine q_iconst (v := nI 5) (pc2 := 464) C dL_rigs_463 (by decide) rfl ?_
    refine q_ishr (v := (y >>> (nI 5 &&& 31))) (pc2 := 465) C dL_rigs_464 (rfl) rfl ?_
    refine q_bipush (v := nI 18) (pc2 := 467) C dL_rigs_465 (by decide) rfl ?_
    refine q_some (pc2 := 470) C (v := (y >>> (nI 5 &&& 31))) 18 (by omega) (by omega) (va_cwS 2 C.w gL_rigs_L_some rfl rfl rfl (by decide +kernel) ⟨Nat.le_of_ble_eq_true rfl, Nat.le_of_ble_eq_true rfl⟩) dL_rigs_467 rfl ⟨Nat.le_of_ble_eq_true rfl, Nat.le_of_ble_eq_true rfl⟩ (Nat.le_of_ble_eq_true rfl) (fun m467 hm467 => ?_)
    have hj487 : ∀ e2 : Nat, (e2 ≤ 1) → Cf p l e ({ frames := 9, cells := 2, slots := 12, locals := 160 }) s m args below meth c D A 14 0 0 Q 487 [(8, .int (nI m457)), (7, .int (nI 1)), (6, .int (nI i)), (0, .ref (a 30)), (1, .int (nI 2)), (2, .int y), (3, .ref (a 40)), (4, .ref (a 41)), (5, .ref (a 42))] [.int (nI e2), .int (nI m467)] (wT ct a x fc fb fp fq fn fl) := by
      intro e2 he2
      rcases pick_place hm467 he2 with ⟨v1, hv1, ev⟩ | ev
      · skip
        refine q_isub (v := nI v1) (pc2 := 488) C dL_rigs_487 (ev) rfl ?_
        refine q_istore (lv' := [(9, .int (nI v1)), (8, .int (nI m457)), (7, .int (nI 1)), (6, .int (nI i)), (0, .ref (a 30)), (1, .int (nI 2)), (2, .int y), (3, .ref (a 40)), (4, .ref (a 41)), (5, .ref (a 42))]) (pc2 := 490) C dL_rigs_488 (by decide) rfl rfl ?_
        refine q_iload (pc2 := 492) C 2 dL_rigs_490 rfl rfl ?_
        refine q_if_eq (tgt := 532) (pc2 := 495) C dL_rigs_492 (by decide) rfl (fun h9 => absurd h9 (by decide)) (fun _ => ?_)
        refine q_iload (pc2 := 497) C 1 dL_rigs_495 rfl rfl ?_
        refine q_aload_n (pc2 := 498) C 7 dL_rigs_497 rfl rfl rfl ?_
        refine q_iconst (v := nI 1) (pc2 := 499) C dL_rigs_498 (by decide) rfl ?_
        refine q_aload_n (pc2 := 500) C 7 dL_rigs_499 rfl rfl rfl ?_
        refine q_iconst (v := nI 0) (pc2 := 501) C dL_rigs_500 (by decide) rfl ?_
        refine q_iald (q0 := 26) (f := fc) (pc2 := 502) C 0 (wT_g0 ct a x fc fb fp fq fn fl) rfl (rfl) (by decide) (by decide) dL_rigs_501 rfl ?_
        refine q_eqi (y := nI h) (hc0) ?_
        refine q_iadd (v := nI (1 + h)) (pc2 := 503) C dL_rigs_502 (nI_add 1 h) rfl ?_
        refine q_iald (q0 := 26) (f := fc) (pc2 := 504) C (1 + h) (wT_g0 ct a x fc fb fp fq fn fl) rfl (rfl) (by omega) (by decide) dL_rigs_503 rfl ?_
        refine q_eqi (y := nI (kb h)) (hck) ?_
        refine q_icmp_ge (tgt := 532) (pc2 := 507) C dL_rigs_504 (by decide) rfl (fun c504 => ?_) (fun c504 => ?_)
        · skip
          have k504 : (kb h) ≤ m457 := (nI_leI (a := (kb h)) (b := m457) (by omega) (by omega)).mp c504
          refine q_iconst (v := nI 0) (pc2 := 533) C dL_rigs_532 (by decide) rfl ?_
          refine q_istore (lv' := [(7, .int (nI 0)), (9, .int (nI v1)), (8, .int (nI m457)), (6, .int (nI i)), (0, .ref (a 30)), (1, .int (nI 2)), (2, .int y), (3, .ref (a 40)), (4, .ref (a 41)), (5, .ref (a 42))]) (pc2 := 535) C dL_rigs_533 (by decide) rfl rfl ?_
          refine q_iload (pc2 := 537) C 0 dL_rigs_535 rfl rfl ?_
          refine q_if_ne (tgt := 545) (pc2 := 540) C dL_rigs_537 (by decide) rfl (fun h9 => absurd (by decide) h9) (fun _ => ?_)
          refine q_bipush (v := (-101)) (pc2 := 542) C dL_rigs_540 (by decide) rfl ?_
          refine q_goto (pc2 := 568) C dL_rigs_542 (by decide) ?_
          refine q_istore (lv' := [(10, .int (-101)), (7, .int (nI 0)), (9, .int (nI v1)), (8, .int (nI m457)), (6, .int (nI i)), (0, .ref (a 30)), (1, .int (nI 2)), (2, .int y), (3, .ref (a 40)), (4, .ref (a 41)), (5, .ref (a 42))]) (pc2 := 570) C dL_rigs_568 (by decide) rfl rfl ?_
          refine q_iload (pc2 := 572) C 0 dL_rigs_570 rfl rfl ?_
          refine q_if_ne (tgt := 606) (pc2 := 575) C dL_rigs_572 (by decide) rfl (fun _ => ?_) (fun h9 => absurd h9 (by decide))
          refine q_aload_n (pc2 := 607) C 5 dL_rigs_606 rfl rfl rfl ?_
          refine q_iconst (v := nI 1) (pc2 := 608) C dL_rigs_607 (by decide) rfl ?_
          refine q_iload (pc2 := 610) C 4 dL_rigs_608 rfl rfl ?_
          refine q_iload (pc2 := 612) C 3 dL_rigs_610 rfl rfl ?_
          refine q_iload (pc2 := 614) C 2 dL_rigs_612 rfl rfl ?_
          have hM := c_X3_hang l hl D ct a x n hx0 (by omega) h hx4 hlt (kb h) hx5 (by omega) (nI i) (nI m457) (nI v1)
          rw [hx0, hx5, nI_clamp (show m457 < 2 ^ 31 by omega)] at hM
          rw [nI_clamp (show i < 2 ^ 31 by omega)] at hM
          refine q_Hno_wT (pc2 := 617) (As := [.ref (a 30), .int (nI 1), .int (nI i), .int (nI m457), .int (nI v1)]) (st := []) (st2 := [.int (-101)]) (c2 := 1) (s2 := 6) C (c_L_hangs1 l D ct a x _ (nI i) (nI m457) (nI v1) _ _ hM) (by rw [if_pos (show 0 ≤ nI i ∧ nI i < nI n from ⟨nI_pos' (by omega), nI_lt hi (by omega)⟩), if_neg (fun z : 0 ≤ nI m457 ∧ nI m457 < nI (kb h) => absurd z.2 (nI_nlt (by omega) (by omega)))]) (by decide +kernel) (vx_cwSW 5 C.w gL_rigs_L_hangs rfl rfl rfl (by decide +kernel) ⟨Nat.le_of_ble_eq_true rfl, Nat.le_of_ble_eq_true rfl⟩) dL_rigs_614 rfl rfl (Nat.le_of_ble_eq_true rfl) ⟨Nat.le_of_ble_eq_true rfl, Nat.le_of_ble_eq_true rfl⟩ rfl rfl (by decide) rfl rfl ?_
          refine q_iload (pc2 := 619) C 0 dL_rigs_617 rfl rfl ?_
          refine q_icmp_ne (tgt := 626) (pc2 := 622) C dL_rigs_619 (by decide) rfl (fun h9 => absurd (by decide) h9) (fun _ => ?_)
          refine q_iconst (v := nI 1) (pc2 := 623) C dL_rigs_622 (by decide) rfl ?_
          refine q_goto (pc2 := 627) C dL_rigs_623 (by decide) ?_
          exact q_zret C hQ rfl (rfl) (by omega) (by omega) dL_rigs_627 ⟨rfl, _, _, _, _, _, _, _, rfl, (RE.mono (Nat.le_add_right M 50) ⟨n, h, q, b, t, kb, K, S, F, V, ht, r⟩)⟩
        · skip
          have k504 : m457 < (kb h) := (nI_ltI (a := m457) (b := (kb h)) (by omega) (by omega)).mp (Int32.not_le.mp c504)
          refine q_iload (pc2 := 509) C 0 dL_rigs_507 rfl rfl ?_
          refine q_if_lt (tgt := 532) (pc2 := 512) C dL_rigs_509 (by decide) rfl (fun h9 => absurd h9 (nI_nlt (a := v1) (b := 0) (by omega) (by omega))) (fun _ => ?_)
          refine q_iload (pc2 := 514) C 0 dL_rigs_512 rfl rfl ?_
          refine q_aload (pc2 := 516) C 8 dL_rigs_514 rfl rfl ?_
          refine q_iconst (v := nI 2) (pc2 := 517) C dL_rigs_516 (by decide) rfl ?_
          refine q_aload_n (pc2 := 518) C 7 dL_rigs_517 rfl rfl rfl ?_
          refine q_iconst (v := nI 0) (pc2 := 519) C dL_rigs_518 (by decide) rfl ?_
          refine q_iald (q0 := 26) (f := fc) (pc2 := 520) C 0 (wT_g0 ct a x fc fb fp fq fn fl) rfl (rfl) (by decide) (by decide) dL_rigs_519 rfl ?_
          refine q_eqi (y := nI h) (hc0) ?_
          refine q_imul (v := nI (2 * h)) (pc2 := 521) C dL_rigs_520 (pk_mul 2 h) rfl ?_
          refine q_iload (pc2 := 523) C 1 dL_rigs_521 rfl rfl ?_
          refine q_iadd (v := nI ((2 * h) + m457)) (pc2 := 524) C dL_rigs_523 (nI_add (2 * h) m457) rfl ?_
          refine q_iald (q0 := 27) (f := fb) (pc2 := 525) C ((2 * h) + m457) (wT_g1 ct a x fc fb fp fq fn fl) rfl (rfl) (by omega) (by decide) dL_rigs_524 rfl ?_
          refine q_eqi (y := (fb ((2 * h) + m457))) (rfl) ?_
          refine q_icmp_gt (tgt := 532) (pc2 := 528) C dL_rigs_525 (by decide) rfl (fun c525 => ?_) (fun c525 => ?_)
          · skip
            refine q_iconst (v := nI 0) (pc2 := 533) C dL_rigs_532 (by decide) rfl ?_
            refine q_istore (lv' := [(7, .int (nI 0)), (9, .int (nI v1)), (8, .int (nI m457)), (6, .int (nI i)), (0, .ref (a 30)), (1, .int (nI 2)), (2, .int y), (3, .ref (a 40)), (4, .ref (a 41)), (5, .ref (a 42))]) (pc2 := 535) C dL_rigs_533 (by decide) rfl rfl ?_
            refine q_iload (pc2 := 537) C 0 dL_rigs_535 rfl rfl ?_
            refine q_if_ne (tgt := 545) (pc2 := 540) C dL_rigs_537 (by decide) rfl (fun h9 => absurd (by decide) h9) (fun _ => ?_)
            refine q_bipush (v := (-101)) (pc2 := 542) C dL_rigs_540 (by decide) rfl ?_
            refine q_goto (pc2 := 568) C dL_rigs_542 (by decide) ?_
            refine q_istore (lv' := [(10, .int (-101)), (7, .int (nI 0)), (9, .int (nI v1)), (8, .int (nI m457)), (6, .int (nI i)), (0, .ref (a 30)), (1, .int (nI 2)), (2, .int y), (3, .ref (a 40)), (4, .ref (a 41)), (5, .ref (a 42))]) (pc2 := 570) C dL_rigs_568 (by decide) rfl rfl ?_
            refine q_iload (pc2 := 572) C 0 dL_rigs_570 rfl rfl ?_
            refine q_if_ne (tgt := 606) (pc2 := 575) C dL_rigs_572 (by decide) rfl (fun _ => ?_) (fun h9 => absurd h9 (by decide))
            refine q_aload_n (pc2 := 607) C 5 dL_rigs_606 rfl rfl rfl ?_
            refine q_iconst (v := nI 1) (pc2 := 608) C dL_rigs_607 (by decide) rfl ?_
            refine q_iload (pc2 := 610) C 4 dL_rigs_608 rfl rfl ?_
            refine q_iload (pc2 := 612) C 3 dL_rigs_610 rfl rfl ?_
            refine q_iload (pc2 := 614) C 2 dL_rigs_612 rfl rfl ?_
            have hM := c_X3_hang l hl D ct a x n hx0 (by omega) h hx4 hlt (kb h) hx5 (by omega) (nI i) (nI m457) (nI v1)
            rw [hx0, hx5, nI_clamp (show m457 < 2 ^ 31 by omega)] at hM
            rw [nI_clamp (show i < 2 ^ 31 by omega)] at hM
            refine q_Hno_wT (pc2 := 617) (As := [.ref (a 30), .int (nI 1), .int (nI i), .int (nI m457), .int (nI v1)]) (st := []) (st2 := [.int (-101)]) (c2 := 1) (s2 := 6) C (c_L_hangs1 l D ct a x _ (nI i) (nI m457) (nI v1) _ _ hM) (by rw [if_pos (show 0 ≤ nI i ∧ nI i < nI n from ⟨nI_pos' (by omega), nI_lt hi (by omega)⟩), if_pos (show 0 ≤ nI m457 ∧ nI m457 < nI (kb h) from ⟨nI_pos' (by omega), nI_lt (by omega) (by omega)⟩), if_neg (fun z : plcX x h m457 (nI v1) => absurd ((hlen h hlt m457 (by omega)).1 ▸ z.2) (Int32.not_le.mpr c525))]) (by decide +kernel) (vx_cwSW 5 C.w gL_rigs_L_hangs rfl rfl rfl (by decide +kernel) ⟨Nat.le_of_ble_eq_true rfl, Nat.le_of_ble_eq_true rfl⟩) dL_rigs_614 rfl rfl (Nat.le_of_ble_eq_true rfl) ⟨Nat.le_of_ble_eq_true rfl, Nat.le_of_ble_eq_true rfl⟩ rfl rfl (by decide) rfl rfl ?_
            refine q_iload (pc2 := 619) C 0 dL_rigs_617 rfl rfl ?_
            refine q_icmp_ne (tgt := 626) (pc2 := 622) C dL_rigs_619 (by decide) rfl (fun h9 => absurd (by decide) h9) (fun _ => ?_)
            refine q_iconst (v := nI 1) (pc2 := 623) C dL_rigs_622 (by decide) rfl ?_
            refine q_goto (pc2 := 627) C dL_rigs_623 (by decide) ?_
            exact q_zret C hQ rfl (rfl) (by omega) (by omega) dL_rigs_627 ⟨rfl, _, _, _, _, _, _, _, rfl, (RE.mono (Nat.le_add_right M 50) ⟨n, h, q, b, t, kb, K, S, F, V, ht, r⟩)⟩
          · skip
            refine q_iconst (v := nI 1) (pc2 := 529) C dL_rigs_528 (by decide) rfl ?_
            refine q_goto (pc2 := 533) C dL_rigs_529 (by decide) ?_
            refine q_istore (lv' := [(7, .int (nI 1)), (9, .int (nI v1)), (8, .int (nI m457)), (6, .int (nI i)), (0, .ref (a 30)), (1, .int (nI 2)), (2, .int y), (3, .ref (a 40)), (4, .ref (a 41)), (5, .ref (a 42))]) (pc2 := 535) C dL_rigs_533 (by decide) rfl rfl ?_
            refine q_iload (pc2 := 537) C 0 dL_rigs_535 rfl rfl ?_
            refine q_if_ne (tgt := 545) (pc2 := 540) C dL_rigs_537 (by decide) rfl (fun _ => ?_) (fun h9 => absurd h9 (by decide))
            refine q_aload_n (pc2 := 546) C 7 dL_rigs_545 rfl rfl rfl ?_
            refine q_aload (pc2 := 548) C 8 dL_rigs_546 rfl rfl ?_
            refine q_aload (pc2 := 550) C 9 dL_rigs_548 rfl rfl ?_
            refine q_iload (pc2 := 552) C 3 dL_rigs_550 rfl rfl ?_
            refine q_iload (pc2 := 554) C 2 dL_rigs_552 rfl rfl ?_
            refine q_iload (pc2 := 556) C 1 dL_rigs_554 rfl rfl ?_
            refine q_NS_wT (pc2 := 559) (As := [.ref (a 40), .ref (a 41), .ref (a 42), .int (nI i), .int (nI m457), .int (nI v1)]) (st := []) (st2 := [.int (b2 (fitL fb fp K n h (kb h) i m457 (nI v1) n))]) C (c_L_fits l D ct a fc fb fp fq fn fl n hc3 hn5 K hK h (kb h) hc0 hlt hck hkb2 i m457 hi (by omega) (nI v1)) (va_cwS 6 C.w gL_rigs_L_fits rfl rfl rfl (by decide +kernel) ⟨Nat.le_of_ble_eq_true rfl, Nat.le_of_ble_eq_true rfl⟩) dL_rigs_556 rfl rfl (Nat.le_of_ble_eq_true rfl) ⟨Nat.zero_le _, Nat.zero_le _⟩ rfl rfl ?_
            refine q_if_ne (tgt := 567) (pc2 := 562) C dL_rigs_559 (by decide) rfl (fun c559 => ?_) (fun c559 => ?_)
            · skip
              refine q_iconst (v := nI 0) (pc2 := 568) C dL_rigs_567 (by decide) rfl ?_
              refine q_istore (lv' := [(10, .int (nI 0)), (7, .int (nI 1)), (9, .int (nI v1)), (8, .int (nI m457)), (6, .int (nI i)), (0, .ref (a 30)), (1, .int (nI 2)), (2, .int y), (3, .ref (a 40)), (4, .ref (a 41)), (5, .ref (a 42))]) (pc2 := 570) C dL_rigs_568 (by decide) rfl rfl ?_
              refine q_iload (pc2 := 572) C 0 dL_rigs_570 rfl rfl ?_
              refine q_if_ne (tgt := 606) (pc2 := 575) C dL_rigs_572 (by decide) rfl (fun h9 => absurd (by decide) h9) (fun _ => ?_)
              refine q_aload (pc2 := 577) C 10 dL_rigs_575 rfl rfl ?_
              refine q_bipush (v := nI 10) (pc2 := 579) C dL_rigs_577 (by decide) rfl ?_
              refine q_iload (pc2 := 581) C 4 dL_rigs_579 rfl rfl ?_
              refine q_iadd (v := nI (10 + i)) (pc2 := 582) C dL_rigs_581 (nI_add 10 i) rfl ?_
              refine q_iload (pc2 := 584) C 3 dL_rigs_582 rfl rfl ?_
              refine q_iast (q0 := 28) (f := fp) (ws' := (wT ct a x fc fb (upd fp (10 + i) (nI m457)) fq fn fl)) (pc2 := 585) C (10 + i) (wT_g2 ct a x fc fb fp fq fn fl) rfl (rfl) (by omega) (by decide) (wT_a2 ct a x fc fb fp fq fn fl (upd fp (10 + i) (nI m457))) dL_rigs_584 rfl ?_
              refine q_aload (pc2 := 587) C 10 dL_rigs_585 rfl rfl ?_
              refine q_bipush (v := nI 15) (pc2 := 589) C dL_rigs_587 (by decide) rfl ?_
              refine q_iload (pc2 := 591) C 4 dL_rigs_589 rfl rfl ?_
              refine q_iadd (v := nI (15 + i)) (pc2 := 592) C dL_rigs_591 (nI_add 15 i) rfl ?_
              refine q_iload (pc2 := 594) C 2 dL_rigs_592 rfl rfl ?_
              refine q_iast (q0 := 28) (f := (upd fp (10 + i) (nI m457))) (ws' := (wT ct a x fc fb (upd (upd fp (10 + i) (nI m457)) (15 + i) (nI v1)) fq fn fl)) (pc2 := 595) C (15 + i) (wT_g2 ct a x fc fb (upd fp (10 + i) (nI m457)) fq fn fl) rfl (rfl) (by omega) (by decide) (wT_a2 ct a x fc fb (upd fp (10 + i) (nI m457)) fq fn fl (upd (upd fp (10 + i) (nI m457)) (15 + i) (nI v1))) dL_rigs_594 rfl ?_
              refine q_aload_n (pc2 := 596) C 8 dL_rigs_595 rfl rfl rfl ?_
              refine q_aload (pc2 := 598) C 10 dL_rigs_596 rfl rfl ?_
              refine q_iload (pc2 := 600) C 3 dL_rigs_598 rfl rfl ?_
              refine q_iconst (v := (-1)) (pc2 := 601) C dL_rigs_600 (by decide) rfl ?_
              refine q_NS_wT (pc2 := 604) (As := [.ref (a 40), .ref (a 42), .int (nI m457), .int (-1)]) (st := []) (st2 := [.int (wgL (upd (upd fp (10 + i) (nI m457)) (15 + i) (nI v1)) K (nI m457) (-1) n)]) C (c_L_weight l D ct a fc fb (upd (upd fp (10 + i) (nI m457)) (15 + i) (nI v1)) fq fn fl n hc3 hn5 K (fun k hk => ⟨(upd_n (by omega)).trans ((upd_n (by omega)).trans (hK k hk).1), (hK k hk).2⟩) (nI m457) (-1)) (va_cwS 4 C.w gL_rigs_L_weight rfl rfl rfl (by decide +kernel) ⟨Nat.le_of_ble_eq_true rfl, Nat.le_of_ble_eq_true rfl⟩) dL_rigs_601 rfl rfl (Nat.le_of_ble_eq_true rfl) ⟨Nat.zero_le _, Nat.zero_le _⟩ rfl rfl ?_
              refine q_istore (lv' := [(10, .int (wgL (upd (upd fp (10 + i) (nI m457)) (15 + i) (nI v1)) K (nI m457) (-1) n)), (7, .int (nI 1)), (9, .int (nI v1)), (8, .int (nI m457)), (6, .int (nI i)), (0, .ref (a 30)), (1, .int (nI 2)), (2, .int y), (3, .ref (a 40)), (4, .ref (a 41)), (5, .ref (a 42))]) (pc2 := 606) C dL_rigs_604 (by decide) rfl rfl ?_
              refine q_aload_n (pc2 := 607) C 5 dL_rigs_606 rfl rfl rfl ?_
              refine q_iconst (v := nI 1) (pc2 := 608) C dL_rigs_607 (by decide) rfl ?_
              refine q_iload (pc2 := 610) C 4 dL_rigs_608 rfl rfl ?_
              refine q_iload (pc2 := 612) C 3 dL_rigs_610 rfl rfl ?_
              refine q_iload (pc2 := 614) C 2 dL_rigs_612 rfl rfl ?_
              have hM := c_X3_hang l hl D ct a x n hx0 (by omega) h hx4 hlt (kb h) hx5 (by omega) (nI i) (nI m457) (nI v1)
              rw [hx0, hx5, nI_clamp (show m457 < 2 ^ 31 by omega)] at hM
              rw [nI_clamp (show i < 2 ^ 31 by omega)] at hM
              have hcan := can_eq rh rl rr hi (j := m457) (by omega) (v := nI v1) ⟨by rw [nI_toInt (by omega)]; omega, by rw [nI_toInt (by omega)]; omega⟩
              have hfit := b2_ne.mp c559
              have hc9 := hcan.mpr hfit
              refine q_Hok_wT (pc2 := 617) (As := [.ref (a 30), .int (nI 1), .int (nI i), .int (nI m457), .int (nI v1)]) (st := []) (st2 := [.int (wOnX (set2 (set2 x 9 (upd (x 9) i (nI m457))) 11 (upd (x 11) i (nI v1))) (nI m457))]) (x' := (set2 (set2 x 9 (upd (x 9) i (nI m457))) 11 (upd (x 11) i (nI v1)))) C (c_L_hangs1 l D ct a x _ (nI i) (nI m457) (nI v1) _ _ hM) (by rw [if_pos (show 0 ≤ nI i ∧ nI i < nI n from ⟨nI_pos' (by omega), nI_lt hi (by omega)⟩), if_pos (show 0 ≤ nI m457 ∧ nI m457 < nI (kb h) from ⟨nI_pos' (by omega), nI_lt (by omega) (by omega)⟩), if_pos (show plcX x h m457 (nI v1) from ⟨nI_pos' (by omega), by rw [(hlen h hlt m457 (by omega)).1]; exact Int32.not_lt.mp c525⟩), if_pos hc9.1.2]) (vx_cwSW 5 C.w gL_rigs_L_hangs rfl rfl rfl (by decide +kernel) ⟨Nat.le_of_ble_eq_true rfl, Nat.le_of_ble_eq_true rfl⟩) dL_rigs_614 rfl rfl (Nat.le_of_ble_eq_true rfl) ⟨Nat.zero_le _, Nat.zero_le _⟩ rfl rfl ?_
              refine q_iload (pc2 := 619) C 0 dL_rigs_617 rfl rfl ?_
              refine q_icmp_ne (tgt := 626) (pc2 := 622) C dL_rigs_619 (by decide) rfl (fun h9 => absurd (won_eq (rl_hang rl hi (nI m457) (nI v1)) (nI_m1 (by omega))) h9) (fun _ => ?_)
              refine q_iconst (v := nI 1) (pc2 := 623) C dL_rigs_622 (by decide) rfl ?_
              refine q_goto (pc2 := 627) C dL_rigs_623 (by decide) ?_
              exact q_zret C hQ rfl (rfl) (Nat.zero_le _) (Nat.zero_le _) dL_rigs_627 ⟨rfl, _, _, _, _, _, _, _, rfl, ⟨n, h, q, b, t, kb, K, S, F, V, Nat.le_trans ht (Nat.le_add_right M 50), st_hang r hi (by omega) (by omega) hfit.2⟩⟩
            · skip
              refine q_bipush (v := (-103)) (pc2 := 564) C dL_rigs_562 (by decide) rfl ?_
              refine q_goto (pc2 := 568) C dL_rigs_564 (by decide) ?_
              refine q_istore (lv' := [(10, .int (-103)), (7, .int (nI 1)), (9, .int (nI v1)), (8, .int (nI m457)), (6, .int (nI i)), (0, .ref (a 30)), (1, .int (nI 2)), (2, .int y), (3, .ref (a 40)), (4, .ref (a 41)), (5, .ref (a 42))]) (pc2 := 570) C dL_rigs_568 (by decide) rfl rfl ?_
              refine q_iload (pc2 := 572) C 0 dL_rigs_570 rfl rfl ?_
              refine q_if_ne (tgt := 606) (pc2 := 575) C dL_rigs_572 (by decide) rfl (fun _ => ?_) (fun h9 => absurd h9 (by decide))
              refine q_aload_n (pc2 := 607) C 5 dL_rigs_606 rfl rfl rfl ?_
              refine q_iconst (v := nI 1) (pc2 := 608) C dL_rigs_607 (by decide) rfl ?_
              refine q_iload (pc2 := 610) C 4 dL_rigs_608 rfl rfl ?_
              refine q_iload (pc2 := 612) C 3 dL_rigs_610 rfl rfl ?_
              refine q_iload (pc2 := 614) C 2 dL_rigs_612 rfl rfl ?_
              have hM := c_X3_hang l hl D ct a x n hx0 (by omega) h hx4 hlt (kb h) hx5 (by omega) (nI i) (nI m457) (nI v1)
              rw [hx0, hx5, nI_clamp (show m457 < 2 ^ 31 by omega)] at hM
              rw [nI_clamp (show i < 2 ^ 31 by omega)] at hM
              have hcan := can_eq rh rl rr hi (j := m457) (by omega) (v := nI v1) ⟨by rw [nI_toInt (by omega)]; omega, by rw [nI_toInt (by omega)]; omega⟩
              refine q_Hno_wT (pc2 := 617) (As := [.ref (a 30), .int (nI 1), .int (nI i), .int (nI m457), .int (nI v1)]) (st := []) (st2 := [.int (-103)]) (c2 := 1) (s2 := 6) C (c_L_hangs1 l D ct a x _ (nI i) (nI m457) (nI v1) _ _ hM) (by rw [if_pos (show 0 ≤ nI i ∧ nI i < nI n from ⟨nI_pos' (by omega), nI_lt hi (by omega)⟩), if_pos (show 0 ≤ nI m457 ∧ nI m457 < nI (kb h) from ⟨nI_pos' (by omega), nI_lt (by omega) (by omega)⟩), if_pos (show plcX x h m457 (nI v1) from ⟨nI_pos' (by omega), by rw [(hlen h hlt m457 (by omega)).1]; exact Int32.not_lt.mp c525⟩), if_neg (fun z : bearX x h i m457 ∧ clrX x (nI i) (nI m457) (nI v1) => absurd (hcan.mp ⟨⟨(show plcX x h m457 (nI v1) from ⟨nI_pos' (by omega), by rw [(hlen h hlt m457 (by omega)).1]; exact Int32.not_lt.mp c525⟩), z.1, z.2⟩, by omega⟩) (b2_eq.mp c559))]) (by decide +kernel) (vx_cwSW 5 C.w gL_rigs_L_hangs rfl rfl rfl (by decide +kernel) ⟨Nat.le_of_ble_eq_true rfl, Nat.le_of_ble_eq_true rfl⟩) dL_rigs_614 rfl rfl (Nat.le_of_ble_eq_true rfl) ⟨Nat.le_of_ble_eq_true rfl, Nat.le_of_ble_eq_true rfl⟩ rfl rfl (by decide) rfl rfl ?_
              refine q_iload (pc2 := 619) C 0 dL_rigs_617 rfl rfl ?_
              refine q_icmp_ne (tgt := 626) (pc2 := 622) C dL_rigs_619 (by decide) rfl (fun h9 => absurd (by decide) h9) (fun _ => ?_)
              refine q_iconst (v := nI 1) (pc2 := 623) C dL_rigs_622 (by decide) rfl ?_
              refine q_goto (pc2 := 627) C dL_rigs_623 (by decide) ?_
              exact q_zret C hQ rfl (rfl) (by omega) (by omega) dL_rigs_627 ⟨rfl, _, _, _, _, _, _, _, rfl, (RE.mono (Nat.le_add_right M 50) ⟨n, h, q, b, t, kb, K, S, F, V, ht, r⟩)⟩
      · skip
        refine q_isub (v := (-1)) (pc2 := 488) C dL_rigs_487 (ev) rfl ?_
        refine q_istore (lv' := [(9, .int (-1)), (8, .int (nI m457)), (7, .int (nI 1)), (6, .int (nI i)), (0, .ref (a 30)), (1, .int (nI 2)), (2, .int y), (3, .ref (a 40)), (4, .ref (a 41)), (5, .ref (a 42))]) (pc2 := 490) C dL_rigs_488 (by decide) rfl rfl ?_
        refine q_iload (pc2 := 492) C 2 dL_rigs_490 rfl rfl ?_
        refine q_if_eq (tgt := 532) (pc2 := 495) C dL_rigs_492 (by decide) rfl (fun h9 => absurd h9 (by decide)) (fun _ => ?_)
        refine q_iload (pc2 := 497) C 1 dL_rigs_495 rfl rfl ?_
        refine q_aload_n (pc2 := 498) C 7 dL_rigs_497 rfl rfl rfl ?_
        refine q_iconst (v := nI 1) (pc2 := 499) C dL_rigs_498 (by decide) rfl ?_
        refine q_aload_n (pc2 := 500) C 7 dL_rigs_499 rfl rfl rfl ?_
        refine q_iconst (v := nI 0) (pc2 := 501) C dL_rigs_500 (by decide) rfl ?_
        refine q_iald (q0 := 26) (f := fc) (pc2 := 502) C 0 (wT_g0 ct a x fc fb fp fq fn fl) rfl (rfl) (by decide) (by decide) dL_rigs_501 rfl ?_
        refine q_eqi (y := nI h) (hc0) ?_
        refine q_iadd (v := nI (1 + h)) (pc2 := 503) C dL_rigs_502 (nI_add 1 h) rfl ?_
        refine q_iald (q0 := 26) (f := fc) (pc2 := 504) C (1 + h) (wT_g0 ct a x fc fb fp fq fn fl) rfl (rfl) (by omega) (by decide) dL_rigs_503 rfl ?_
        refine q_eqi (y := nI (kb h)) (hck) ?_
        refine q_icmp_ge (tgt := 532) (pc2 := 507) C dL_rigs_504 (by decide) rfl (fun c504 => ?_) (fun c504 => ?_)
        · skip
          have k504 : (kb h) ≤ m457 := (nI_leI (a := (kb h)) (b := m457) (by omega) (by omega)).mp c504
          refine q_iconst (v := nI 0) (pc2 := 533) C dL_rigs_532 (by decide) rfl ?_
          refine q_istore (lv' := [(7, .int (nI 0)), (9, .int (-1)), (8, .int (nI m457)), (6, .int (nI i)), (0, .ref (a 30)), (1, .int (nI 2)), (2, .int y), (3, .ref (a 40)), (4, .ref (a 41)), (5, .ref (a 42))]) (pc2 := 535) C dL_rigs_533 (by decide) rfl rfl ?_
          refine q_iload (pc2 := 537) C 0 dL_rigs_535 rfl rfl ?_
          refine q_if_ne (tgt := 545) (pc2 := 540) C dL_rigs_537 (by decide) rfl (fun h9 => absurd (by decide) h9) (fun _ => ?_)
          refine q_bipush (v := (-101)) (pc2 := 542) C dL_rigs_540 (by decide) rfl ?_
          refine q_goto (pc2 := 568) C dL_rigs_542 (by decide) ?_
          refine q_istore (lv' := [(10, .int (-101)), (7, .int (nI 0)), (9, .int (-1)), (8, .int (nI m457)), (6, .int (nI i)), (0, .ref (a 30)), (1, .int (nI 2)), (2, .int y), (3, .ref (a 40)), (4, .ref (a 41)), (5, .ref (a 42))]) (pc2 := 570) C dL_rigs_568 (by decide) rfl rfl ?_
          refine q_iload (pc2 := 572) C 0 dL_rigs_570 rfl rfl ?_
          refine q_if_ne (tgt := 606) (pc2 := 575) C dL_rigs_572 (by decide) rfl (fun _ => ?_) (fun h9 => absurd h9 (by decide))
          refine q_aload_n (pc2 := 607) C 5 dL_rigs_606 rfl rfl rfl ?_
          refine q_iconst (v := nI 1) (pc2 := 608) C dL_rigs_607 (by decide) rfl ?_
          refine q_iload (pc2 := 610) C 4 dL_rigs_608 rfl rfl ?_
          refine q_iload (pc2 := 612) C 3 dL_rigs_610 rfl rfl ?_
          refine q_iload (pc2 := 614) C 2 dL_rigs_612 rfl rfl ?_
          have hM := c_X3_hang l hl D ct a x n hx0 (by omega) h hx4 hlt (kb h) hx5 (by omega) (nI i) (nI m457) ((-1))
          rw [hx0, hx5, nI_clamp (show m457 < 2 ^ 31 by omega)] at hM
          rw [nI_clamp (show i < 2 ^ 31 by omega)] at hM
          refine q_Hno_wT (pc2 := 617) (As := [.ref (a 30), .int (nI 1), .int (nI i), .int (nI m457), .int (-1)]) (st := []) (st2 := [.int (-101)]) (c2 := 1) (s2 := 6) C (c_L_hangs1 l D ct a x _ (nI i) (nI m457) ((-1)) _ _ hM) (by rw [if_pos (show 0 ≤ nI i ∧ nI i < nI n from ⟨nI_pos' (by omega), nI_lt hi (by omega)⟩), if_neg (fun z : 0 ≤ nI m457 ∧ nI m457 < nI (kb h) => absurd z.2 (nI_nlt (by omega) (by omega)))]) (by decide +kernel) (vx_cwSW 5 C.w gL_rigs_L_hangs rfl rfl rfl (by decide +kernel) ⟨Nat.le_of_ble_eq_true rfl, Nat.le_of_ble_eq_true rfl⟩) dL_rigs_614 rfl rfl (Nat.le_of_ble_eq_true rfl) ⟨Nat.le_of_ble_eq_true rfl, Nat.le_of_ble_eq_true rfl⟩ rfl rfl (by decide) rfl rfl ?_
          refine q_iload (pc2 := 619) C 0 dL_rigs_617 rfl rfl ?_
          refine q_icmp_ne (tgt := 626) (pc2 := 622) C dL_rigs_619 (by decide) rfl (fun h9 => absurd (by decide) h9) (fun _ => ?_)
          refine q_iconst (v := nI 1) (pc2 := 623) C dL_rigs_622 (by decide) rfl ?_
          refine q_goto (pc2 := 627) C dL_rigs_623 (by decide) ?_
          exact q_zret C hQ rfl (rfl) (by omega) (by omega) dL_rigs_627 ⟨rfl, _, _, _, _, _, _, _, rfl, (RE.mono (Nat.le_add_right M 50) ⟨n, h, q, b, t, kb, K, S, F, V, ht, r⟩)⟩
        · skip
          have k504 : m457 < (kb h) := (nI_ltI (a := m457) (b := (kb h)) (by omega) (by omega)).mp (Int32.not_le.mp c504)
          refine q_iload (pc2 := 509) C 0 dL_rigs_507 rfl rfl ?_
          refine q_if_lt (tgt := 532) (pc2 := 512) C dL_rigs_509 (by decide) rfl (fun _ => ?_) (fun h9 => absurd (by decide) h9)
          refine q_iconst (v := nI 0) (pc2 := 533) C dL_rigs_532 (by decide) rfl ?_
          refine q_istore (lv' := [(7, .int (nI 0)), (9, .int (-1)), (8, .int (nI m457)), (6, .int (nI i)), (0, .ref (a 30)), (1, .int (nI 2)), (2, .int y), (3, .ref (a 40)), (4, .ref (a 41)), (5, .ref (a 42))]) (pc2 := 535) C dL_rigs_533 (by decide) rfl rfl ?_
          refine q_iload (pc2 := 537) C 0 dL_rigs_535 rfl rfl ?_
          refine q_if_ne (tgt := 545) (pc2 := 540) C dL_rigs_537 (by decide) rfl (fun h9 => absurd (by decide) h9) (fun _ => ?_)
          refine q_bipush (v := (-101)) (pc2 := 542) C dL_rigs_540 (by decide) rfl ?_
          refine q_goto (pc2 := 568) C dL_rigs_542 (by decide) ?_
          refine q_istore (lv' := [(10, .int (-101)), (7, .int (nI 0)), (9, .int (-1)), (8, .int (nI m457)), (6, .int (nI i)), (0, .ref (a 30)), (1, .int (nI 2)), (2, .int y), (3, .ref (a 40)), (4, .ref (a 41)), (5, .ref (a 42))]) (pc2 := 570) C dL_rigs_568 (by decide) rfl rfl ?_
          refine q_iload (pc2 := 572) C 0 dL_rigs_570 rfl rfl ?_
          refine q_if_ne (tgt := 606) (pc2 := 575) C dL_rigs_572 (by decide) rfl (fun _ => ?_) (fun h9 => absurd h9 (by decide))
          refine q_aload_n (pc2 := 607) C 5 dL_rigs_606 rfl rfl rfl ?_
          refine q_iconst (v := nI 1) (pc2 := 608) C dL_rigs_607 (by decide) rfl ?_
          refine q_iload (pc2 := 610) C 4 dL_rigs_608 rfl rfl ?_
          refine q_iload (pc2 := 612) C 3 dL_rigs_610 rfl rfl ?_
          refine q_iload (pc2 := 614) C 2 dL_rigs_612 rfl rfl ?_
          have hM := c_X3_hang l hl D ct a x n hx0 (by omega) h hx4 hlt (kb h) hx5 (by omega) (nI i) (nI m457) ((-1))
          rw [hx0, hx5, nI_clamp (show m457 < 2 ^ 31 by omega)] at hM
          rw [nI_clamp (show i < 2 ^ 31 by omega)] at hM
          refine q_Hno_wT (pc2 := 617) (As := [.ref (a 30), .int (nI 1), .int (nI i), .int (nI m457), .int (-1)]) (st := []) (st2 := [.int (-101)]) (c2 := 1) (s2 := 6) C (c_L_hangs1 l D ct a x _ (nI i) (nI m457) ((-1)) _ _ hM) (by rw [if_pos (show 0 ≤ nI i ∧ nI i < nI n from ⟨nI_pos' (by omega), nI_lt hi (by omega)⟩), if_pos (show 0 ≤ nI m457 ∧ nI m457 < nI (kb h) from ⟨nI_pos' (by omega), nI_lt (by omega) (by omega)⟩), if_neg (fun z => absurd z.1 (by decide))]) (by decide +kernel) (vx_cwSW 5 C.w gL_rigs_L_hangs rfl rfl rfl (by decide +kernel) ⟨Nat.le_of_ble_eq_true rfl, Nat.le_of_ble_eq_true rfl⟩) dL_rigs_614 rfl rfl (Nat.le_of_ble_eq_true rfl) ⟨Nat.le_of_ble_eq_true rfl, Nat.le_of_ble_eq_true rfl⟩ rfl rfl (by decide) rfl rfl ?_
          refine q_iload (pc2 := 619) C 0 dL_rigs_617 rfl rfl ?_
          refine q_icmp_ne (tgt := 626) (pc2 := 622) C dL_rigs_619 (by decide) rfl (fun h9 => absurd (by decide) h9) (fun _ => ?_)
          refine q_iconst (v := nI 1) (pc2 := 623) C dL_rigs_622 (by decide) rfl ?_
          refine q_goto (pc2 := 627) C dL_rigs_623 (by decide) ?_
          exact q_zret C hQ rfl (rfl) (by omega) (by omega) dL_rigs_627 ⟨rfl, _, _, _, _, _, _, _, rfl, (RE.mono (Nat.le_add_right M 50) ⟨n, h, q, b, t, kb, K, S, F, V, ht, r⟩)⟩
    refine q_iload_n (pc2 := 471) C 5 dL_rigs_470 rfl rfl rfl ?_
    refine q_bipush (v := nI 9) (pc2 := 473) C dL_rigs_471 (by decide) rfl ?_
    refine q_ishr (v := (y >>> (nI 9 &&& 31))) (pc2 := 474) C dL_rigs_473 (rfl) rfl ?_
    refine q_bipush (v := nI 19) (pc2 := 476) C dL_rigs_474 (by decide) rfl ?_
    refine q_some (pc2 := 479) C (v := (y >>> (nI 9 &&& 31))) 19 (by omega) (by omega) (va_cwS 2 C.w gL_rigs_L_some rfl rfl rfl (by decide +kernel) ⟨Nat.le_of_ble_eq_true rfl, Nat.le_of_ble_eq_true rfl⟩) dL_rigs_476 rfl ⟨Nat.le_of_ble_eq_true rfl, Nat.le_of_ble_eq_true rfl⟩ (Nat.le_of_ble_eq_true rfl) (fun m476 hm476 => ?_)
    refine q_if_ne (tgt := 486) (pc2 := 482) C dL_rigs_479 (by decide) rfl (fun c479 => ?_) (fun c479 => ?_)
    · skip
      have k479 : m476 ≠ 0 := fun z => c479 ((nI_eq (a := m476) (b := 0) (by omega) (by omega)).mpr z)
      refine q_iconst (v := nI 0) (pc2 := 487) C dL_rigs_486 (by decide) rfl ?_
      exact hj487 0 (by omega)
    · skip
      have k479 : m476 = 0 := (nI_eq (a := m476) (b := 0) (by omega) (by omega)).mp (c479)
      refine q_iconst (v := nI 1) (pc2 := 483) C dL_rigs_482 (by decide) rfl ?_
      refine q_goto (pc2 := 487) C dL_rigs_483 (by decide) ?_
      exact hj487 1 (by omega)
  have hB : ∀ v : Int32, ¬ (0 ≤ v ∧ v < nI n) → Cf p l e ({ frames := 9, cells := 2, slots := 12, locals := 160 }) s m args below meth c D A 14 0 0 Q 49 [(7, .int (nI 0)), (6, .int v), (0, .ref (a 30)), (1, .int (nI 2)), (2, .int y), (3, .ref (a 40)), (4, .ref (a 41)), (5, .ref (a 42))] [] (wT ct a x fc fb fp fq fn fl) := by
    intro v hv
    refine q_iload_n (pc2 := 50) C 3 dL_rigs_49 rfl rfl rfl ?_
    refine q_if_ne (tgt := 267) (pc2 := 53) C dL_rigs_50 (by decide) rfl (fun _ => ?_) (fun h9 => absurd h9 (by decide))
    refine q_iload_n (pc2 := 268) C 3 dL_rigs_267 rfl rfl rfl ?_
    refine q_iconst (v := nI 1) (pc2 := 269) C dL_rigs_268 (by decide) rfl ?_
    refine q_icmp_ne (tgt := 448) (pc2 := 272) C dL_rigs_269 (by decide) rfl (fun _ => ?_) (fun h9 => absurd h9 (by decide))
    refine q_iload_n (pc2 := 449) C 3 dL_rigs_448 rfl rfl rfl ?_
    refine q_iconst (v := nI 2) (pc2 := 450) C dL_rigs_449 (by decide) rfl ?_
    refine q_icmp_ne (tgt := 628) (pc2 := 453) C dL_rigs_450 (by decide) rfl (fun h9 => absurd (by decide) h9) (fun _ => ?_)
    refine q_iload_n (pc2 := 454) C 4 dL_rigs_453 rfl rfl rfl ?_
    refine q_iconst (v := nI 3) (pc2 := 455) C dL_rigs_454 (by decide) rfl ?_
    refine q_ishr (v := (y >>> (nI 3 &&& 31))) (pc2 := 456) C dL_rigs_455 (rfl) rfl ?_
    refine q_iconst (v := nI 3) (pc2 := 457) C dL_rigs_456 (by decide) rfl ?_
    refine q_some (pc2 := 460) C (v := (y >>> (nI 3 &&& 31))) 3 (by omega) (by omega) (va_cwS 2 C.w gL_rigs_L_some rfl rfl rfl (by decide +kernel) ⟨Nat.le_of_ble_eq_true rfl, Nat.le_of_ble_eq_true rfl⟩) dL_rigs_457 rfl ⟨Nat.le_of_ble_eq_true rfl, Nat.le_of_ble_eq_true rfl⟩ (Nat.le_of_ble_eq_true rfl) (fun m457 hm457 => ?_)
    refine q_istore (lv' := [(8, .int (nI m457)), (7, .int (nI 0)), (6, .int v), (0, .ref (a 30)), (1, .int (nI 2)), (2, .int y), (3, .ref (a 40)), (4, .ref (a 41)), (5, .ref (a 42))]) (pc2 := 462) C dL_rigs_460 (by decide) rfl rfl ?_
    refine q_iload_n (pc2 := 463) C 5 dL_rigs_462 rfl rfl rfl ?_
    refine q_iconst (v := nI 5) (pc2 := 464) C dL_rigs_463 (by decide) rfl ?_
    refine q_ishr (v := (y >>> (nI 5 &&& 31))) (pc2 := 465) C dL_rigs_464 (rfl) rfl ?_
    refine q_bipush (v := nI 18) (pc2 := 467) C dL_rigs_465 (by decide) rfl ?_
    refine q_some (pc2 := 470) C (v := (y >>> (nI 5 &&& 31))) 18 (by omega) (by omega) (va_cwS 2 C.w gL_rigs_L_some rfl rfl rfl (by decide +kernel) ⟨Nat.le_of_ble_eq_true rfl, Nat.le_of_ble_eq_true rfl⟩) dL_rigs_467 rfl ⟨Nat.le_of_ble_eq_true rfl, Nat.le_of_ble_eq_true rfl⟩ (Nat.le_of_ble_eq_true rfl) (fun m467 hm467 => ?_)
    have hj487 : ∀ e2 : Nat, (e2 ≤ 1) → Cf p l e ({ frames := 9, cells := 2, slots := 12, locals := 160 }) s m args below meth c D A 14 0 0 Q 487 [(8, .int (nI m457)), (7, .int (nI 0)), (6, .int v), (0, .ref (a 30)), (1, .int (nI 2)), (2, .int y), (3, .ref (a 40)), (4, .ref (a 41)), (5, .ref (a 42))] [.int (nI e2), .int (nI m467)] (wT ct a x fc fb fp fq fn fl) := by
      intro e2 he2
      rcases pick_place hm467 he2 with ⟨v1, hv1, ev⟩ | ev
      · skip
        refine q_isub (v := nI v1) (pc2 := 488) C dL_rigs_487 (ev) rfl ?_
        refine q_istore (lv' := [(9, .int (nI v1)), (8, .int (nI m457)), (7, .int (nI 0)), (6, .int v), (0, .ref (a 30)), (1, .int (nI 2)), (2, .int y), (3, .ref (a 40)), (4, .ref (a 41)), (5, .ref (a 42))]) (pc2 := 490) C dL_rigs_488 (by decide) rfl rfl ?_
        refine q_iload (pc2 := 492) C 2 dL_rigs_490 rfl rfl ?_
        refine q_if_eq (tgt := 532) (pc2 := 495) C dL_rigs_492 (by decide) rfl (fun _ => ?_) (fun h9 => absurd (by decide) h9)
        refine q_iconst (v := nI 0) (pc2 := 533) C dL_rigs_532 (by decide) rfl ?_
        refine q_istore (lv' := [(7, .int (nI 0)), (9, .int (nI v1)), (8, .int (nI m457)), (6, .int v), (0, .ref (a 30)), (1, .int (nI 2)), (2, .int y), (3, .ref (a 40)), (4, .ref (a 41)), (5, .ref (a 42))]) (pc2 := 535) C dL_rigs_533 (by decide) rfl rfl ?_
        refine q_iload (pc2 := 537) C 0 dL_rigs_535 rfl rfl ?_
        refine q_if_ne (tgt := 545) (pc2 := 540) C dL_rigs_537 (by decide) rfl (fun h9 => absurd (by decide) h9) (fun _ => ?_)
        refine q_bipush (v := (-101)) (pc2 := 542) C dL_rigs_540 (by decide) rfl ?_
        refine q_goto (pc2 := 568) C dL_rigs_542 (by decide) ?_
        refine q_istore (lv' := [(10, .int (-101)), (7, .int (nI 0)), (9, .int (nI v1)), (8, .int (nI m457)), (6, .int v), (0, .ref (a 30)), (1, .int (nI 2)), (2, .int y), (3, .ref (a 40)), (4, .ref (a 41)), (5, .ref (a 42))]) (pc2 := 570) C dL_rigs_568 (by decide) rfl rfl ?_
        refine q_iload (pc2 := 572) C 0 dL_rigs_570 rfl rfl ?_
        refine q_if_ne (tgt := 606) (pc2 := 575) C dL_rigs_572 (by decide) rfl (fun _ => ?_) (fun h9 => absurd h9 (by decide))
        refine q_aload_n (pc2 := 607) C 5 dL_rigs_606 rfl rfl rfl ?_
        refine q_iconst (v := nI 1) (pc2 := 608) C dL_rigs_607 (by decide) rfl ?_
        refine q_iload (pc2 := 610) C 4 dL_rigs_608 rfl rfl ?_
        refine q_iload (pc2 := 612) C 3 dL_rigs_610 rfl rfl ?_
        refine q_iload (pc2 := 614) C 2 dL_rigs_612 rfl rfl ?_
        have hM := c_X3_hang l hl D ct a x n hx0 (by omega) h hx4 hlt (kb h) hx5 (by omega) (v) (nI m457) (nI v1)
        rw [hx0, hx5, nI_clamp (show m457 < 2 ^ 31 by omega)] at hM
        refine q_Hno_wT (pc2 := 617) (As := [.ref (a 30), .int (nI 1), .int v, .int (nI m457), .int (nI v1)]) (st := []) (st2 := [.int (-101)]) (c2 := 1) (s2 := 6) C (c_L_hangs1 l D ct a x _ (v) (nI m457) (nI v1) _ _ hM) (if_neg hv) (by decide +kernel) (vx_cwSW 5 C.w gL_rigs_L_hangs rfl rfl rfl (by decide +kernel) ⟨Nat.le_of_ble_eq_true rfl, Nat.le_of_ble_eq_true rfl⟩) dL_rigs_614 rfl rfl (Nat.le_of_ble_eq_true rfl) ⟨Nat.le_of_ble_eq_true rfl, Nat.le_of_ble_eq_true rfl⟩ rfl rfl (by decide) rfl rfl ?_
        refine q_iload (pc2 := 619) C 0 dL_rigs_617 rfl rfl ?_
        refine q_icmp_ne (tgt := 626) (pc2 := 622) C dL_rigs_619 (by decide) rfl (fun h9 => absurd (by decide) h9) (fun _ => ?_)
        refine q_iconst (v := nI 1) (pc2 := 623) C dL_rigs_622 (by decide) rfl ?_
        refine q_goto (pc2 := 627) C dL_rigs_623 (by decide) ?_
        exact q_zret C hQ rfl (rfl) (by omega) (by omega) dL_rigs_627 ⟨rfl, _, _, _, _, _, _, _, rfl, (RE.mono (Nat.le_add_right M 50) ⟨n, h, q, b, t, kb, K, S, F, V, ht, r⟩)⟩
      · skip
        refine q_isub (v := (-1)) (pc2 := 488) C dL_rigs_487 (ev) rfl ?_
        refine q_istore (lv' := [(9, .int (-1)), (8, .int (nI m457)), (7, .int (nI 0)), (6, .int v), (0, .ref (a 30)), (1, .int (nI 2)), (2, .int y), (3, .ref (a 40)), (4, .ref (a 41)), (5, .ref (a 42))]) (pc2 := 490) C dL_rigs_488 (by decide) rfl rfl ?_
        refine q_iload (pc2 := 492) C 2 dL_rigs_490 rfl rfl ?_
        refine q_if_eq (tgt := 532) (pc2 := 495) C dL_rigs_492 (by decide) rfl (fun _ => ?_) (fun h9 => absurd (by decide) h9)
        refine q_iconst (v := nI 0) (pc2 := 533) C dL_rigs_532 (by decide) rfl ?_
        refine q_istore (lv' := [(7, .int (nI 0)), (9, .int (-1)), (8, .int (nI m457)), (6, .int v), (0, .ref (a 30)), (1, .int (nI 2)), (2, .int y), (3, .ref (a 40)), (4, .ref (a 41)), (5, .ref (a 42))]) (pc2 := 535) C dL_rigs_533 (by decide) rfl rfl ?_
        refine q_iload (pc2 := 537) C 0 dL_rigs_535 rfl rfl ?_
        refine q_if_ne (tgt := 545) (pc2 := 540) C dL_rigs_537 (by decide) rfl (fun h9 => absurd (by decide) h9) (fun _ => ?_)
        refine q_bipush (v := (-101)) (pc2 := 542) C dL_rigs_540 (by decide) rfl ?_
        refine q_goto (pc2 := 568) C dL_rigs_542 (by decide) ?_
        refine q_istore (lv' := [(10, .int (-101)), (7, .int (nI 0)), (9, .int (-1)), (8, .int (nI m457)), (6, .int v), (0, .ref (a 30)), (1, .int (nI 2)), (2, .int y), (3, .ref (a 40)), (4, .ref (a 41)), (5, .ref (a 42))]) (pc2 := 570) C dL_rigs_568 (by decide) rfl rfl ?_
        refine q_iload (pc2 := 572) C 0 dL_rigs_570 rfl rfl ?_
        refine q_if_ne (tgt := 606) (pc2 := 575) C dL_rigs_572 (by decide) rfl (fun _ => ?_) (fun h9 => absurd h9 (by decide))
        refine q_aload_n (pc2 := 607) C 5 dL_rigs_606 rfl rfl rfl ?_
        refine q_iconst (v := nI 1) (pc2 := 608) C dL_rigs_607 (by decide) rfl ?_
        refine q_iload (pc2 := 610) C 4 dL_rigs_608 rfl rfl ?_
        refine q_iload (pc2 := 612) C 3 dL_rigs_610 rfl rfl ?_
        refine q_iload (pc2 := 614) C 2 dL_rigs_612 rfl rfl ?_
        have hM := c_X3_hang l hl D ct a x n hx0 (by omega) h hx4 hlt (kb h) hx5 (by omega) (v) (nI m457) ((-1))
        rw [hx0, hx5, nI_clamp (show m457 < 2 ^ 31 by omega)] at hM
        refine q_Hno_wT (pc2 := 617) (As := [.ref (a 30), .int (nI 1), .int v, .int (nI m457), .int (-1)]) (st := []) (st2 := [.int (-101)]) (c2 := 1) (s2 := 6) C (c_L_hangs1 l D ct a x _ (v) (nI m457) ((-1)) _ _ hM) (if_neg hv) (by decide +kernel) (vx_cwSW 5 C.w gL_rigs_L_hangs rfl rfl rfl (by decide +kernel) ⟨Nat.le_of_ble_eq_true rfl, Nat.le_of_ble_eq_true rfl⟩) dL_rigs_614 rfl rfl (Nat.le_of_ble_eq_true rfl) ⟨Nat.le_of_ble_eq_true rfl, Nat.le_of_ble_eq_true rfl⟩ rfl rfl (by decide) rfl rfl ?_
        refine q_iload (pc2 := 619) C 0 dL_rigs_617 rfl rfl ?_
        refine q_icmp_ne (tgt := 626) (pc2 := 622) C dL_rigs_619 (by decide) rfl (fun h9 => absurd (by decide) h9) (fun _ => ?_)
        refine q_iconst (v := nI 1) (pc2 := 623) C dL_rigs_622 (by decide) rfl ?_
        refine q_goto (pc2 := 627) C dL_rigs_623 (by decide) ?_
        exact q_zret C hQ rfl (rfl) (by omega) (by omega) dL_rigs_627 ⟨rfl, _, _, _, _, _, _, _, rfl, (RE.mono (Nat.le_add_right M 50) ⟨n, h, q, b, t, kb, K, S, F, V, ht, r⟩)⟩
    refine q_iload_n (pc2 := 471) C 5 dL_rigs_470 rfl rfl rfl ?_
    refine q_bipush (v := nI 9) (pc2 := 473) C dL_rigs_471 (by decide) rfl ?_
    refine q_ishr (v := (y >>> (nI 9 &&& 31))) (pc2 := 474) C dL_rigs_473 (rfl) rfl ?_
    refine q_bipush (v := nI 19) (pc2 := 476) C dL_rigs_474 (by decide) rfl ?_
    refine q_some (pc2 := 479) C (v := (y >>> (nI 9 &&& 31))) 19 (by omega) (by omega) (va_cwS 2 C.w gL_rigs_L_some rfl rfl rfl (by decide +kernel) ⟨Nat.le_of_ble_eq_true rfl, Nat.le_of_ble_eq_true rfl⟩) dL_rigs_476 rfl ⟨Nat.le_of_ble_eq_true rfl, Nat.le_of_ble_eq_true rfl⟩ (Nat.le_of_ble_eq_true rfl) (fun m476 hm476 => ?_)
    refine q_if_ne (tgt := 486) (pc2 := 482) C dL_rigs_479 (by decide) rfl (fun c479 => ?_) (fun c479 => ?_)
    · skip
      have k479 : m476 ≠ 0 := fun z => c479 ((nI_eq (a := m476) (b := 0) (by omega) (by omega)).mpr z)
      refine q_iconst (v := nI 0) (pc2 := 487) C dL_rigs_486 (by decide) rfl ?_
      exact hj487 0 (by omega)
    · skip
      have k479 : m476 = 0 := (nI_eq (a := m476) (b := 0) (by omega) (by omega)).mp (c479)
      refine q_iconst (v := nI 1) (pc2 := 483) C dL_rigs_482 (by decide) rfl ?_
      refine q_goto (pc2 := 487) C dL_rigs_483 (by decide) ?_
      exact hj487 1 (by omega)
  refine q_iload_n (pc2 := 1) C 2 dL_rigs_0 rfl rfl rfl ?_
  refine q_aload_n (pc2 := 2) C 3 dL_rigs_1 rfl rfl rfl ?_
  refine q_iconst (v := nI 3) (pc2 := 3) C dL_rigs_2 (by decide) rfl ?_
  refine q_iald (q0 := 26) (f := fc) (pc2 := 4) C 3 (wT_g0 ct a x fc fb fp fq fn fl) rfl (rfl) (by decide) (by decide) dL_rigs_3 rfl ?_
  refine q_eqi (y := nI n) (hc3) ?_
  refine q_iconst (v := nI 1) (pc2 := 5) C dL_rigs_4 (by decide) rfl ?_
  refine q_iadd (v := nI (n + 1)) (pc2 := 6) C dL_rigs_5 (nI_add n 1) rfl ?_
  refine q_some (pc2 := 9) C (v := y) (n + 1) (by omega) (by omega) (va_cwS 2 C.w gL_rigs_L_some rfl rfl rfl (by decide +kernel) ⟨Nat.le_of_ble_eq_true rfl, Nat.le_of_ble_eq_true rfl⟩) dL_rigs_6 rfl ⟨Nat.le_of_ble_eq_true rfl, Nat.le_of_ble_eq_true rfl⟩ (Nat.le_of_ble_eq_true rfl) (fun m6 hm6 => ?_)
  have hj26 : ∀ e1 : Nat, (e1 ≤ 1) → Cf p l e ({ frames := 9, cells := 2, slots := 12, locals := 160 }) s m args below meth c D A 14 0 0 Q 26 [(0, .ref (a 30)), (1, .int (nI 2)), (2, .int y), (3, .ref (a 40)), (4, .ref (a 41)), (5, .ref (a 42))] [.int (nI e1), .int (nI m6)] (wT ct a x fc fb fp fq fn fl) := by
    intro e1 he1
    rcases pick_lamp hn5 hm6 he1 with ⟨i, hi, ei⟩ | hv
    · skip
      refine q_isub (v := nI i) (pc2 := 27) C dL_rigs_26 (ei) rfl ?_
      refine q_istore (lv' := [(6, .int (nI i)), (0, .ref (a 30)), (1, .int (nI 2)), (2, .int y), (3, .ref (a 40)), (4, .ref (a 41)), (5, .ref (a 42))]) (pc2 := 29) C dL_rigs_27 (by decide) rfl rfl ?_
      refine q_iload (pc2 := 31) C 0 dL_rigs_29 rfl rfl ?_
      refine q_if_lt (tgt := 46) (pc2 := 34) C dL_rigs_31 (by decide) rfl (fun h9 => absurd h9 (nI_nlt (a := i) (b := 0) (by omega) (by omega))) (fun _ => ?_)
      refine q_iload (pc2 := 36) C 0 dL_rigs_34 rfl rfl ?_
      refine q_aload_n (pc2 := 37) C 4 dL_rigs_36 rfl rfl rfl ?_
      refine q_iconst (v := nI 3) (pc2 := 38) C dL_rigs_37 (by decide) rfl ?_
      refine q_iald (q0 := 26) (f := fc) (pc2 := 39) C 3 (wT_g0 ct a x fc fb fp fq fn fl) rfl (rfl) (by decide) (by decide) dL_rigs_38 rfl ?_
      refine q_eqi (y := nI n) (hc3) ?_
      refine q_icmp_ge (tgt := 46) (pc2 := 42) C dL_rigs_39 (by decide) rfl (fun h9 => absurd h9 (nI_ge (a := i) (b := n) (by omega) (by omega))) (fun _ => ?_)
      refine q_iconst (v := nI 1) (pc2 := 43) C dL_rigs_42 (by decide) rfl ?_
      refine q_goto (pc2 := 47) C dL_rigs_43 (by decide) ?_
      refine q_istore (lv' := [(7, .int (nI 1)), (6, .int (nI i)), (0, .ref (a 30)), (1, .int (nI 2)), (2, .int y), (3, .ref (a 40)), (4, .ref (a 41)), (5, .ref (a 42))]) (pc2 := 49) C dL_rigs_47 (by decide) rfl rfl ?_
      exact hA i hi
    · skip
      refine q_isub (v := (nI m6 - nI e1)) (pc2 := 27) C dL_rigs_26 (rfl) rfl ?_
      refine q_istore (lv' := [(6, .int (nI m6 - nI e1)), (0, .ref (a 30)), (1, .int (nI 2)), (2, .int y), (3, .ref (a 40)), (4, .ref (a 41)), (5, .ref (a 42))]) (pc2 := 29) C dL_rigs_27 (by decide) rfl rfl ?_
      refine q_iload (pc2 := 31) C 0 dL_rigs_29 rfl rfl ?_
      refine q_if_lt (tgt := 46) (pc2 := 34) C dL_rigs_31 (by decide) rfl (fun c31 => ?_) (fun c31 => ?_)
      · skip
        refine q_iconst (v := nI 0) (pc2 := 47) C dL_rigs_46 (by decide) rfl ?_
        refine q_istore (lv' := [(7, .int (nI 0)), (6, .int (nI m6 - nI e1)), (0, .ref (a 30)), (1, .int (nI 2)), (2, .int y), (3, .ref (a 40)), (4, .ref (a 41)), (5, .ref (a 42))]) (pc2 := 49) C dL_rigs_47 (by decide) rfl rfl ?_
        exact hB _ hv
      · skip
        refine q_iload (pc2 := 36) C 0 dL_rigs_34 rfl rfl ?_
        refine q_aload_n (pc2 := 37) C 4 dL_rigs_36 rfl rfl rfl ?_
        refine q_iconst (v := nI 3) (pc2 := 38) C dL_rigs_37 (by decide) rfl ?_
        refine q_iald (q0 := 26) (f := fc) (pc2 := 39) C 3 (wT_g0 ct a x fc fb fp fq fn fl) rfl (rfl) (by decide) (by decide) dL_rigs_38 rfl ?_
        refine q_eqi (y := nI n) (hc3) ?_
        refine q_icmp_ge (tgt := 46) (pc2 := 42) C dL_rigs_39 (by decide) rfl (fun _ => ?_) (fun h9 => absurd (Int32.not_lt.mp (fun z9 => hv ⟨Int32.not_lt.mp c31, z9⟩)) h9)
        refine q_iconst (v := nI 0) (pc2 := 47) C dL_rigs_46 (by decide) rfl ?_
        refine q_istore (lv' := [(7, .int (nI 0)), (6, .int (nI m6 - nI e1)), (0, .ref (a 30)), (1, .int (nI 2)), (2, .int y), (3, .ref (a 40)), (4, .ref (a 41)), (5, .ref (a 42))]) (pc2 := 49) C dL_rigs_47 (by decide) rfl rfl ?_
        exact hB _ hv
  refine q_iload_n (pc2 := 10) C 2 dL_rigs_9 rfl rfl rfl ?_
  refine q_bipush (v := nI 11) (pc2 := 12) C dL_rigs_10 (by decide) rfl ?_
  refine q_ishr (v := (y >>> (nI 11 &&& 31))) (pc2 := 13) C dL_rigs_12 (rfl) rfl ?_
  refine q_bipush (v := nI 19) (pc2 := 15) C dL_rigs_13 (by decide) rfl ?_
  refine q_some (pc2 := 18) C (v := (y >>> (nI 11 &&& 31))) 19 (by omega) (by omega) (va_cwS 2 C.w gL_rigs_L_some rfl rfl rfl (by decide +kernel) ⟨Nat.le_of_ble_eq_true rfl, Nat.le_of_ble_eq_true rfl⟩) dL_rigs_15 rfl ⟨Nat.le_of_ble_eq_true rfl, Nat.le_of_ble_eq_true rfl⟩ (Nat.le_of_ble_eq_true rfl) (fun m15 hm15 => ?_)
  refine q_if_ne (tgt := 25) (pc2 := 21) C dL_rigs_18 (by decide) rfl (fun c18 => ?_) (fun c18 => ?_)
  · skip
    have k18 : m15 ≠ 0 := fun z => c18 ((nI_eq (a := m15) (b := 0) (by omega) (by omega)).mpr z)
    refine q_iconst (v := nI 0) (pc2 := 26) C dL_rigs_25 (by decide) rfl ?_
    exact hj26 0 (by omega)
  · skip
    have k18 : m15 = 0 := (nI_eq (a := m15) (b := 0) (by omega) (by omega)).mp (c18)
    refine q_iconst (v := nI 1) (pc2 := 22) C dL_rigs_21 (by decide) rfl ?_
    refine q_goto (pc2 := 26) C dL_rigs_22 (by decide) ?_
    exact hj26 1 (by omega)

theorem b2_01 (c : Prop) [Decidable c] : b2 c = 0 ∨ b2 c = 1 := by unfold b2; split <;> simp

set_option maxHeartbeats 4000000 in
set_option maxRecDepth 100000 in
theorem c_L_rigs_3 (l : Launch) (D : va_G) (ct : Nat → ClassId) (hl : l.stackTraces = false) (a : Nat → Nat) (x : Nat → Nat → Int32) (fc fb fp fq fn fl : Nat → Int32) (y : Int32) (M : Nat) (r0 : RE M x fc fb fp fq fn fl) : qM l yL_rigs wsL_rigs ({ frames := 9, cells := 2, slots := 12, locals := 158 }) D ct [.ref (a 30), .int (nI 3), .int y, .ref (a 40), .ref (a 41), .ref (a 42)] (wT ct a x fc fb fp fq fn fl) (pR ct a (M + 50)) 2 12 := by
  refine q_start (ret := some .boolean) (lv := [(0, .ref (a 30)), (1, .int (nI 3)), (2, .int y), (3, .ref (a 40)), (4, .ref (a 41)), (5, .ref (a 42))]) (by decide +kernel) rfl (Nat.le_of_ble_eq_true rfl) rfl ?_
  intro p e s m args below meth c A Q C hQ hnm
  obtain ⟨n, h, q, b, t, kb, K, S, F, V, ht, r⟩ := r0
  obtain ⟨rh, rl, rr, rp, rc, rs, hbq⟩ := id r
  obtain ⟨hlt, hx4, hc0, hkbs, hlen⟩ := id rh
  obtain ⟨hn5, hx0, hc3, hlow, hall, hhigh⟩ := id rl
  obtain ⟨hq4, hx16, hc4, hcue, hfd, hnam, hnaz⟩ := id rc
  obtain ⟨hx22, hc5, hx21, hc7, hc6, hx23, hfl, hlvr, hlev⟩ := id rs
  obtain ⟨hkb2, hx5, hck⟩ := hkbs h hlt
  have hK : ∀ k, k < n → fp k = nI (K k) ∧ K k < 4 := fun k hk => ⟨(hlow k hk).2.1, (hlow k hk).1⟩
  have hb4 : b ≤ 4 := by omega
  have hA : ∀ i, i < n → Cf p l e ({ frames := 9, cells := 2, slots := 12, locals := 158 }) s m args below meth c D A 14 0 0 Q 49 [(7, .int (nI 1)), (6, .int (nI i)), (0, .ref (a 30)), (1, .int (nI 3)), (2, .int y), (3, .ref (a 40)), (4, .ref (a 41)), (5, .ref (a 42))] [] (wT ct a x fc fb fp fq fn fl) := by
    intro i hi
    refine q_iload_n (pc2 := 50) C 3 dL_rigs_49 rfl rfl rfl ?_
    refine q_if_ne (tgt := 267) (pc2 := 53) C dL_rigs_50 (by decide) rfl (fun _ => ?_) (fun h9 => absurd h9 (by decide))
    refine q_iload_n (pc2 := 268) C 3 dL_rigs_267 rfl rfl rfl ?_
    refine q_iconst (v := nI 1) (pc2 := 269) C dL_rigs_268 (by decide) rfl ?_
    refine q_icmp_ne (tgt := 448) (pc2 := 272) C dL_rigs_269 (by decide) rfl (fun _ => ?_) (fun h9 => absurd h9 (by decide))
    refine q_iload_n (pc2 := 449) C 3 dL_rigs_448 rfl rfl rfl ?_
    refine q_iconst (v := nI 2) (pc2 := 450) C dL_rigs_449 (by decide) rfl ?_
    refine q_icmp_ne (tgt := 628) (pc2 := 453) C dL_rigs_450 (by decide) rfl (fun _ => ?_) (fun h9 => absurd h9 (by decide))
    refine q_iload_n (pc2 := 629) C 3 dL_rigs_628 rfl rfl rfl ?_
    refine q_iconst (v := nI 3) (pc2 := 630) C dL_rigs_629 (by decide) rfl ?_
    refine q_icmp_ne (tgt := 694) (pc2 := 633) C dL_rigs_630 (by decide) rfl (fun h9 => absurd (by decide) h9) (fun _ => ?_)
    refine q_iload (pc2 := 635) C 0 dL_rigs_633 rfl rfl ?_
    refine q_if_ne (tgt := 643) (pc2 := 638) C dL_rigs_635 (by decide) rfl (fun _ => ?_) (fun h9 => absurd h9 (by decide))
    refine q_aload (pc2 := 645) C 7 dL_rigs_643 rfl rfl ?_
    refine q_bipush (v := nI 10) (pc2 := 647) C dL_rigs_645 (by decide) rfl ?_
    refine q_iload (pc2 := 649) C 1 dL_rigs_647 rfl rfl ?_
    refine q_iadd (v := nI (10 + i)) (pc2 := 650) C dL_rigs_649 (nI_add 10 i) rfl ?_
    refine q_iald (q0 := 28) (f := fp) (pc2 := 651) C (10 + i) (wT_g2 ct a x fc fb fp fq fn fl) rfl (rfl) (by omega) (by decide) dL_rigs_650 rfl ?_
    refine q_if_lt (tgt := 658) (pc2 := 654) C dL_rigs_651 (by decide) rfl (fun c651 => ?_) (fun c651 => ?_)
    · skip
      refine q_iconst (v := nI 0) (pc2 := 659) C dL_rigs_658 (by decide) rfl ?_
      refine q_istore (lv' := [(8, .int (nI 0)), (7, .int (nI 1)), (6, .int (nI i)), (0, .ref (a 30)), (1, .int (nI 3)), (2, .int y), (3, .ref (a 40)), (4, .ref (a 41)), (5, .ref (a 42))]) (pc2 := 661) C dL_rigs_659 (by decide) rfl rfl ?_
      have hn9 : x 9 i = fp (10 + i) → fp (10 + i) < 0 → x 9 i ≠ -1 → False := fun e1 e2 e3 => by
        rcases rp.1 i hi with w | ⟨j, hj, w⟩
        · exact e3 (e1.trans w)
        · rw [w] at e2; exact nI_pos (by omega) e2
      refine q_iload (pc2 := 663) C 1 dL_rigs_661 rfl rfl ?_
      refine q_if_eq (tgt := 675) (pc2 := 666) C dL_rigs_663 (by decide) rfl (fun h9 => absurd h9 (by decide)) (fun _ => ?_)
      refine q_aload (pc2 := 668) C 8 dL_rigs_666 rfl rfl ?_
      refine q_bipush (v := nI 10) (pc2 := 670) C dL_rigs_668 (by decide) rfl ?_
      refine q_iload (pc2 := 672) C 2 dL_rigs_670 rfl rfl ?_
      refine q_iadd (v := nI (10 + i)) (pc2 := 673) C dL_rigs_672 (nI_add 10 i) rfl ?_
      refine q_iconst (v := (-1)) (pc2 := 674) C dL_rigs_673 (by decide) rfl ?_
      refine q_iast (q0 := 28) (f := fp) (ws' := (wT ct a x fc fb (upd fp (10 + i) (-1)) fq fn fl)) (pc2 := 675) C (10 + i) (wT_g2 ct a x fc fb fp fq fn fl) rfl (rfl) (by omega) (by decide) (wT_a2 ct a x fc fb fp fq fn fl (upd fp (10 + i) (-1))) dL_rigs_674 rfl ?_
      refine q_aload_n (pc2 := 676) C 3 dL_rigs_675 rfl rfl rfl ?_
      refine q_iconst (v := nI 0) (pc2 := 677) C dL_rigs_676 (by decide) rfl ?_
      refine q_iload (pc2 := 679) C 2 dL_rigs_677 rfl rfl ?_
      refine q_iconst (v := nI 0) (pc2 := 680) C dL_rigs_679 (by decide) rfl ?_
      have hM := c_X3_down l hl D ct a x n hx0 (by omega) (nI i)
      rw [hx0] at hM
      rw [nI_clamp (show i < 2 ^ 31 by omega)] at hM
      refine q_Hok_wT (pc2 := 683) (As := [.ref (a 30), .int (nI 0), .int (nI i), .int (nI 0)]) (st := []) (st2 := [.int (b2 (x 9 i ≠ -1))]) (x' := (set2 x 9 (upd (x 9) i (-1)))) C (c_L_of0 l D ct a x _ (nI i) (nI 0) _ _ (b2_01 _) hM) (if_pos (show 0 ≤ nI i ∧ nI i < nI n from ⟨nI_pos' (by omega), nI_lt hi (by omega)⟩)) (vx_cwSW 4 C.w gL_rigs_L_of rfl rfl rfl (by decide +kernel) ⟨Nat.le_of_ble_eq_true rfl, Nat.le_of_ble_eq_true rfl⟩) dL_rigs_680 rfl rfl (Nat.le_of_ble_eq_true rfl) ⟨Nat.zero_le _, Nat.zero_le _⟩ rfl rfl ?_
      refine q_iload (pc2 := 685) C 0 dL_rigs_683 rfl rfl ?_
      refine q_icmp_ne (tgt := 692) (pc2 := 688) C dL_rigs_685 (by decide) rfl (fun h9 => absurd (b2_f (fun z => hn9 ((hlow i hi).2.2.2.2.2.2.1) c651 z)) h9) (fun _ => ?_)
      refine q_iconst (v := nI 1) (pc2 := 689) C dL_rigs_688 (by decide) rfl ?_
      refine q_goto (pc2 := 693) C dL_rigs_689 (by decide) ?_
      exact q_zret C hQ rfl (rfl) (Nat.zero_le _) (Nat.zero_le _) dL_rigs_693 ⟨rfl, _, _, _, _, _, _, _, rfl, ⟨n, h, q, b, t, kb, K, S, F, V, Nat.le_trans ht (Nat.le_add_right M 50), st_down r hi⟩⟩
    · skip
      refine q_iconst (v := nI 1) (pc2 := 655) C dL_rigs_654 (by decide) rfl ?_
      refine q_goto (pc2 := 659) C dL_rigs_655 (by decide) ?_
      refine q_istore (lv' := [(8, .int (nI 1)), (7, .int (nI 1)), (6, .int (nI i)), (0, .ref (a 30)), (1, .int (nI 3)), (2, .int y), (3, .ref (a 40)), (4, .ref (a 41)), (5, .ref (a 42))]) (pc2 := 661) C dL_rigs_659 (by decide) rfl rfl ?_
      refine q_iload (pc2 := 663) C 1 dL_rigs_661 rfl rfl ?_
      refine q_if_eq (tgt := 675) (pc2 := 666) C dL_rigs_663 (by decide) rfl (fun h9 => absurd h9 (by decide)) (fun _ => ?_)
      refine q_aload (pc2 := 668) C 8 dL_rigs_666 rfl rfl ?_
      refine q_bipush (v := nI 10) (pc2 := 670) C dL_rigs_668 (by decide) rfl ?_
      refine q_iload (pc2 := 672) C 2 dL_rigs_670 rfl rfl ?_
      refine q_iadd (v := nI (10 + i)) (pc2 := 673) C dL_rigs_672 (nI_add 10 i) rfl ?_
      refine q_iconst (v := (-1)) (pc2 := 674) C dL_rigs_673 (by decide) rfl ?_
      refine q_iast (q0 := 28) (f := fp) (ws' := (wT ct a x fc fb (upd fp (10 + i) (-1)) fq fn fl)) (pc2 := 675) C (10 + i) (wT_g2 ct a x fc fb fp fq fn fl) rfl (rfl) (by omega) (by decide) (wT_a2 ct a x fc fb fp fq fn fl (upd fp (10 + i) (-1))) dL_rigs_674 rfl ?_
      refine q_aload_n (pc2 := 676) C 3 dL_rigs_675 rfl rfl rfl ?_
      refine q_iconst (v := nI 0) (pc2 := 677) C dL_rigs_676 (by decide) rfl ?_
      refine q_iload (pc2 := 679) C 2 dL_rigs_677 rfl rfl ?_
      refine q_iconst (v := nI 0) (pc2 := 680) C dL_rigs_679 (by decide) rfl ?_
      have hM := c_X3_down l hl D ct a x n hx0 (by omega) (nI i)
      rw [hx0] at hM
      rw [nI_clamp (show i < 2 ^ 31 by omega)] at hM
      refine q_Hok_wT (pc2 := 683) (As := [.ref (a 30), .int (nI 0), .int (nI i), .int (nI 0)]) (st := []) (st2 := [.int (b2 (x 9 i ≠ -1))]) (x' := (set2 x 9 (upd (x 9) i (-1)))) C (c_L_of0 l D ct a x _ (nI i) (nI 0) _ _ (b2_01 _) hM) (if_pos (show 0 ≤ nI i ∧ nI i < nI n from ⟨nI_pos' (by omega), nI_lt hi (by omega)⟩)) (vx_cwSW 4 C.w gL_rigs_L_of rfl rfl rfl (by decide +kernel) ⟨Nat.le_of_ble_eq_true rfl, Nat.le_of_ble_eq_true rfl⟩) dL_rigs_680 rfl rfl (Nat.le_of_ble_eq_true rfl) ⟨Nat.zero_le _, Nat.zero_le _⟩ rfl rfl ?_
      refine q_iload (pc2 := 685) C 0 dL_rigs_683 rfl rfl ?_
      refine q_icmp_ne (tgt := 692) (pc2 := 688) C dL_rigs_685 (by decide) rfl (fun h9 => absurd (b2_t (fun z => c651 (by rw [← (hlow i hi).2.2.2.2.2.2.1, z]; decide))) h9) (fun _ => ?_)
      refine q_iconst (v := nI 1) (pc2 := 689) C dL_rigs_688 (by decide) rfl ?_
      refine q_goto (pc2 := 693) C dL_rigs_689 (by decide) ?_
      exact q_zret C hQ rfl (rfl) (Nat.zero_le _) (Nat.zero_le _) dL_rigs_693 ⟨rfl, _, _, _, _, _, _, _, rfl, ⟨n, h, q, b, t, kb, K, S, F, V, Nat.le_trans ht (Nat.le_add_right M 50), st_down r hi⟩⟩
  have hB : ∀ v : Int32, ¬ (0 ≤ v ∧ v < nI n) → Cf p l e ({ frames := 9, cells := 2, slots := 12, locals := 158 }) s m args below meth c D A 14 0 0 Q 49 [(7, .int (nI 0)), (6, .int v), (0, .ref (a 30)), (1, .int (nI 3)), (2, .int y), (3, .ref (a 40)), (4, .ref (a 41)), (5, .ref (a 42))] [] (wT ct a x fc fb fp fq fn fl) := by
    intro v hv
    refine q_iload_n (pc2 := 50) C 3 dL_rigs_49 rfl rfl rfl ?_
    refine q_if_ne (tgt := 267) (pc2 := 53) C dL_rigs_50 (by decide) rfl (fun _ => ?_) (fun h9 => absurd h9 (by decide))
    refine q_iload_n (pc2 := 268) C 3 dL_rigs_267 rfl rfl rfl ?_
    refine q_iconst (v := nI 1) (pc2 := 269) C dL_rigs_268 (by decide) rfl ?_
    refine q_icmp_ne (tgt := 448) (pc2 := 272) C dL_rigs_269 (by decide) rfl (fun _ => ?_) (fun h9 => absurd h9 (by decide))
    refine q_iload_n (pc2 := 449) C 3 dL_rigs_448 rfl rfl rfl ?_
    refine q_iconst (v := nI 2) (pc2 := 450) C dL_rigs_449 (by decide) rfl ?_
    refine q_icmp_ne (tgt := 628) (pc2 := 453) C dL_rigs_450 (by decide) rfl (fun _ => ?_) (fun h9 => absurd h9 (by decide))
    refine q_iload_n (pc2 := 629) C 3 dL_rigs_628 rfl rfl rfl ?_
    refine q_iconst (v := nI 3) (pc2 := 630) C dL_rigs_629 (by decide) rfl ?_
    refine q_icmp_ne (tgt := 694) (pc2 := 633) C dL_rigs_630 (by decide) rfl (fun h9 => absurd (by decide) h9) (fun _ => ?_)
    refine q_iload (pc2 := 635) C 0 dL_rigs_633 rfl rfl ?_
    refine q_if_ne (tgt := 643) (pc2 := 638) C dL_rigs_635 (by decide) rfl (fun h9 => absurd (by decide) h9) (fun _ => ?_)
    refine q_bipush (v := (-101)) (pc2 := 640) C dL_rigs_638 (by decide) rfl ?_
    refine q_goto (pc2 := 659) C dL_rigs_640 (by decide) ?_
    refine q_istore (lv' := [(8, .int (-101)), (7, .int (nI 0)), (6, .int v), (0, .ref (a 30)), (1, .int (nI 3)), (2, .int y), (3, .ref (a 40)), (4, .ref (a 41)), (5, .ref (a 42))]) (pc2 := 661) C dL_rigs_659 (by decide) rfl rfl ?_
    refine q_iload (pc2 := 663) C 1 dL_rigs_661 rfl rfl ?_
    refine q_if_eq (tgt := 675) (pc2 := 666) C dL_rigs_663 (by decide) rfl (fun _ => ?_) (fun h9 => absurd (by decide) h9)
    refine q_aload_n (pc2 := 676) C 3 dL_rigs_675 rfl rfl rfl ?_
    refine q_iconst (v := nI 0) (pc2 := 677) C dL_rigs_676 (by decide) rfl ?_
    refine q_iload (pc2 := 679) C 2 dL_rigs_677 rfl rfl ?_
    refine q_iconst (v := nI 0) (pc2 := 680) C dL_rigs_679 (by decide) rfl ?_
    have hM := c_X3_down l hl D ct a x n hx0 (by omega) (v)
    rw [hx0] at hM
    refine q_Hno_wT (pc2 := 683) (As := [.ref (a 30), .int (nI 0), .int v, .int (nI 0)]) (st := []) (st2 := [.int (-101)]) (c2 := 1) (s2 := 6) C (c_L_of0 l D ct a x _ (v) (nI 0) _ _ (b2_01 _) hM) (if_neg hv) (by decide +kernel) (vx_cwSW 4 C.w gL_rigs_L_of rfl rfl rfl (by decide +kernel) ⟨Nat.le_of_ble_eq_true rfl, Nat.le_of_ble_eq_true rfl⟩) dL_rigs_680 rfl rfl (Nat.le_of_ble_eq_true rfl) ⟨Nat.le_of_ble_eq_true rfl, Nat.le_of_ble_eq_true rfl⟩ rfl rfl (by decide) rfl rfl ?_
    refine q_iload (pc2 := 685) C 0 dL_rigs_683 rfl rfl ?_
    refine q_icmp_ne (tgt := 692) (pc2 := 688) C dL_rigs_685 (by decide) rfl (fun h9 => absurd (by decide) h9) (fun _ => ?_)
    refine q_iconst (v := nI 1) (pc2 := 689) C dL_rigs_688 (by decide) rfl ?_
    refine q_goto (pc2 := 693) C dL_rigs_689 (by decide) ?_
    exact q_zret C hQ rfl (rfl) (by omega) (by omega) dL_rigs_693 ⟨rfl, _, _, _, _, _, _, _, rfl, (RE.mono (Nat.le_add_right M 50) ⟨n, h, q, b, t, kb, K, S, F, V, ht, r⟩)⟩
  refine q_iload_n (pc2 := 1) C 2 dL_rigs_0 rfl rfl rfl ?_
  refine q_aload_n (pc2 := 2) C 3 dL_rigs_1 rfl rfl rfl ?_
  refine q_iconst (v := nI 3) (pc2 := 3) C dL_rigs_2 (by decide) rfl ?_
  refine q_iald (q0 := 26) (f := fc) (pc2 := 4) C 3 (wT_g0 ct a x fc fb fp fq fn fl) rfl (rfl) (by decide) (by decide) dL_rigs_3 rfl ?_
  refine q_eqi (y := nI n) (hc3) ?_
  refine q_iconst (v := nI 1) (pc2 := 5) C dL_rigs_4 (by decide) rfl ?_
  refine q_iadd (v := nI (n + 1)) (pc2 := 6) C dL_rigs_5 (nI_add n 1) rfl ?_
  refine q_some (pc2 := 9) C (v := y) (n + 1) (by omega) (by omega) (va_cwS 2 C.w gL_rigs_L_some rfl rfl rfl (by decide +kernel) ⟨Nat.le_of_ble_eq_true rfl, Nat.le_of_ble_eq_true rfl⟩) dL_rigs_6 rfl ⟨Nat.le_of_ble_eq_true rfl, Nat.le_of_ble_eq_true rfl⟩ (Nat.le_of_ble_eq_true rfl) (fun m6 hm6 => ?_)
  have hj26 : ∀ e1 : Nat, (e1 ≤ 1) → Cf p l e ({ frames := 9, cells := 2, slots := 12, locals := 158 }) s m args below meth c D A 14 0 0 Q 26 [(0, .ref (a 30)), (1, .int (nI 3)), (2, .int y), (3, .ref (a 40)), (4, .ref (a 41)), (5, .ref (a 42))] [.int (nI e1), .int (nI m6)] (wT ct a x fc fb fp fq fn fl) := by
    intro e1 he1
    rcases pick_lamp hn5 hm6 he1 with ⟨i, hi, ei⟩ | hv
    · skip
      refine q_isub (v := nI i) (pc2 := 27) C dL_rigs_26 (ei) rfl ?_
      refine q_istore (lv' := [(6, .int (nI i)), (0, .ref (a 30)), (1, .int (nI 3)), (2, .int y), (3, .ref (a 40)), (4, .ref (a 41)), (5, .ref (a 42))]) (pc2 := 29) C dL_rigs_27 (by decide) rfl rfl ?_
      refine q_iload (pc2 := 31) C 0 dL_rigs_29 rfl rfl ?_
      refine q_if_lt (tgt := 46) (pc2 := 34) C dL_rigs_31 (by decide) rfl (fun h9 => absurd h9 (nI_nlt (a := i) (b := 0) (by omega) (by omega))) (fun _ => ?_)
      refine q_iload (pc2 := 36) C 0 dL_rigs_34 rfl rfl ?_
      refine q_aload_n (pc2 := 37) C 4 dL_rigs_36 rfl rfl rfl ?_
      refine q_iconst (v := nI 3) (pc2 := 38) C dL_rigs_37 (by decide) rfl ?_
      refine q_iald (q0 := 26) (f := fc) (pc2 := 39) C 3 (wT_g0 ct a x fc fb fp fq fn fl) rfl (rfl) (by decide) (by decide) dL_rigs_38 rfl ?_
      refine q_eqi (y := nI n) (hc3) ?_
      refine q_icmp_ge (tgt := 46) (pc2 := 42) C dL_rigs_39 (by decide) rfl (fun h9 => absurd h9 (nI_ge (a := i) (b := n) (by omega) (by omega))) (fun _ => ?_)
      refine q_iconst (v := nI 1) (pc2 := 43) C dL_rigs_42 (by decide) rfl ?_
      refine q_goto (pc2 := 47) C dL_rigs_43 (by decide) ?_
      refine q_istore (lv' := [(7, .int (nI 1)), (6, .int (nI i)), (0, .ref (a 30)), (1, .int (nI 3)), (2, .int y), (3, .ref (a 40)), (4, .ref (a 41)), (5, .ref (a 42))]) (pc2 := 49) C dL_rigs_47 (by decide) rfl rfl ?_
      exact hA i hi
    · skip
      refine q_isub (v := (nI m6 - nI e1)) (pc2 := 27) C dL_rigs_26 (rfl) rfl ?_
      refine q_istore (lv' := [(6, .int (nI m6 - nI e1)), (0, .ref (a 30)), (1, .int (nI 3)), (2, .int y), (3, .ref (a 40)), (4, .ref (a 41)), (5, .ref (a 42))]) (pc2 := 29) C dL_rigs_27 (by decide) rfl rfl ?_
      refine q_iload (pc2 := 31) C 0 dL_rigs_29 rfl rfl ?_
      refine q_if_lt (tgt := 46) (pc2 := 34) C dL_rigs_31 (by decide) rfl (fun c31 => ?_) (fun c31 => ?_)
      · skip
        refine q_iconst (v := nI 0) (pc2 := 47) C dL_rigs_46 (by decide) rfl ?_
        refine q_istore (lv' := [(7, .int (nI 0)), (6, .int (nI m6 - nI e1)), (0, .ref (a 30)), (1, .int (nI 3)), (2, .int y), (3, .ref (a 40)), (4, .ref (a 41)), (5, .ref (a 42))]) (pc2 := 49) C dL_rigs_47 (by decide) rfl rfl ?_
        exact hB _ hv
      · skip
        refine q_iload (pc2 := 36) C 0 dL_rigs_34 rfl rfl ?_
        refine q_aload_n (pc2 := 37) C 4 dL_rigs_36 rfl rfl rfl ?_
        refine q_iconst (v := nI 3) (pc2 := 38) C dL_rigs_37 (by decide) rfl ?_
        refine q_iald (q0 := 26) (f := fc) (pc2 := 39) C 3 (wT_g0 ct a x fc fb fp fq fn fl) rfl (rfl) (by decide) (by decide) dL_rigs_38 rfl ?_
        refine q_eqi (y := nI n) (hc3) ?_
        refine q_icmp_ge (tgt := 46) (pc2 := 42) C dL_rigs_39 (by decide) rfl (fun _ => ?_) (fun h9 => absurd (Int32.not_lt.mp (fun z9 => hv ⟨Int32.not_lt.mp c31, z9⟩)) h9)
        refine q_iconst (v := nI 0) (pc2 := 47) C dL_rigs_46 (by decide) rfl ?_
        refine q_istore (lv' := [(7, .int (nI 0)), (6, .int (nI m6 - nI e1)), (0, .ref (a 30)), (1, .int (nI 3)), (2, .int y), (3, .ref (a 40)), (4, .ref (a 41)), (5, .ref (a 42))]) (pc2 := 49) C dL_rigs_47 (by decide) rfl rfl ?_
        exact hB _ hv
  refine q_iload_n (pc2 := 10) C 2 dL_rigs_9 rfl rfl rfl ?_
  refine q_bipush (v := nI 11) (pc2 := 12) C dL_rigs_10 (by decide) rfl ?_
  refine q_ishr (v := (y >>> (nI 11 &&& 31))) (pc2 := 13) C dL_rigs_12 (rfl) rfl ?_
  refine q_bipush (v := nI 19) (pc2 := 15) C dL_rigs_13 (by decide) rfl ?_
  refine q_some (pc2 := 18) C (v := (y >>> (nI 11 &&& 31))) 19 (by omega) (by omega) (va_cwS 2 C.w gL_rigs_L_some rfl rfl rfl (by decide +kernel) ⟨Nat.le_of_ble_eq_true rfl, Nat.le_of_ble_eq_true rfl⟩) dL_rigs_15 rfl ⟨Nat.le_of_ble_eq_true rfl, Nat.le_of_ble_eq_true rfl⟩ (Nat.le_of_ble_eq_true rfl) (fun m15 hm15 => ?_)
  refine q_if_ne (tgt := 25) (pc2 := 21) C dL_rigs_18 (by decide) rfl (fun c18 => ?_) (fun c18 => ?_)
  · skip
    have k18 : m15 ≠ 0 := fun z => c18 ((nI_eq (a := m15) (b := 0) (by omega) (by omega)).mpr z)
    refine q_iconst (v := nI 0) (pc2 := 26) C dL_rigs_25 (by decide) rfl ?_
    exact hj26 0 (by omega)
  · skip
    have k18 : m15 = 0 := (nI_eq (a := m15) (b := 0) (by omega) (by omega)).mp (c18)
    refine q_iconst (v := nI 1) (pc2 := 22) C dL_rigs_21 (by decide) rfl ?_
    refine q_goto (pc2 := 26) C dL_rigs_22 (by decide) ?_
    exact hj26 1 (by omega)

set_option maxHeartbeats 4000000 in
set_option maxRecDepth 100000 in
theorem c_L_rigs_5 (l : Launch) (D : va_G) (ct : Nat → ClassId) (hl : l.stackTraces = false) (a : Nat → Nat) (x : Nat → Nat → Int32) (fc fb fp fq fn fl : Nat → Int32) (y : Int32) (M : Nat) (r0 : RE M x fc fb fp fq fn fl) : qM l yL_rigs wsL_rigs ({ frames := 9, cells := 2, slots := 12, locals := 162 }) D ct [.ref (a 30), .int (nI 5), .int y, .ref (a 40), .ref (a 41), .ref (a 42)] (wT ct a x fc fb fp fq fn fl) (pR ct a (M + 50)) 2 12 := by
  refine q_start (ret := some .boolean) (lv := [(0, .ref (a 30)), (1, .int (nI 5)), (2, .int y), (3, .ref (a 40)), (4, .ref (a 41)), (5, .ref (a 42))]) (by decide +kernel) rfl (Nat.le_of_ble_eq_true rfl) rfl ?_
  intro p e s m args below meth c A Q C hQ hnm
  obtain ⟨n, h, q, b, t, kb, K, S, F, V, ht, r⟩ := r0
  obtain ⟨rh, rl, rr, rp, rc, rs, hbq⟩ := id r
  obtain ⟨hlt, hx4, hc0, hkbs, hlen⟩ := id rh
  obtain ⟨hn5, hx0, hc3, hlow, hall, hhigh⟩ := id rl
  obtain ⟨hq4, hx16, hc4, hcue, hfd, hnam, hnaz⟩ := id rc
  obtain ⟨hx22, hc5, hx21, hc7, hc6, hx23, hfl, hlvr, hlev⟩ := id rs
  obtain ⟨hkb2, hx5, hck⟩ := hkbs h hlt
  have hK : ∀ k, k < n → fp k = nI (K k) ∧ K k < 4 := fun k hk => ⟨(hlow k hk).2.1, (hlow k hk).1⟩
  have hb4 : b ≤ 4 := by omega
  have hA : ∀ i, i < n → Cf p l e ({ frames := 9, cells := 2, slots := 12, locals := 162 }) s m args below meth c D A 14 0 0 Q 49 [(7, .int (nI 1)), (6, .int (nI i)), (0, .ref (a 30)), (1, .int (nI 5)), (2, .int y), (3, .ref (a 40)), (4, .ref (a 41)), (5, .ref (a 42))] [] (wT ct a x fc fb fp fq fn fl) := by
    intro i hi
    refine q_iload_n (pc2 := 50) C 3 dL_rigs_49 rfl rfl rfl ?_
    refine q_if_ne (tgt := 267) (pc2 := 53) C dL_rigs_50 (by decide) rfl (fun _ => ?_) (fun h9 => absurd h9 (by decide))
    refine q_iload_n (pc2 := 268) C 3 dL_rigs_267 rfl rfl rfl ?_
    refine q_iconst (v := nI 1) (pc2 := 269) C dL_rigs_268 (by decide) rfl ?_
    refine q_icmp_ne (tgt := 448) (pc2 := 272) C dL_rigs_269 (by decide) rfl (fun _ => ?_) (fun h9 => absurd h9 (by decide))
    refine q_iload_n (pc2 := 449) C 3 dL_rigs_448 rfl rfl rfl ?_
    refine q_iconst (v := nI 2) (pc2 := 450) C dL_rigs_449 (by decide) rfl ?_
    refine q_icmp_ne (tgt := 628) (pc2 := 453) C dL_rigs_450 (by decide) rfl (fun _ => ?_) (fun h9 => absurd h9 (by decide))
    refine q_iload_n (pc2 := 629) C 3 dL_rigs_628 rfl rfl rfl ?_
    refine q_iconst (v := nI 3) (pc2 := 630) C dL_rigs_629 (by decide) rfl ?_
    refine q_icmp_ne (tgt := 694) (pc2 := 633) C dL_rigs_630 (by decide) rfl (fun _ => ?_) (fun h9 => absurd h9 (by decide))
    refine q_iload_n (pc2 := 695) C 3 dL_rigs_694 rfl rfl rfl ?_
    refine q_iconst (v := nI 4) (pc2 := 696) C dL_rigs_695 (by decide) rfl ?_
    refine q_icmp_ne (tgt := 967) (pc2 := 699) C dL_rigs_696 (by decide) rfl (fun _ => ?_) (fun h9 => absurd h9 (by decide))
    refine q_iload_n (pc2 := 968) C 3 dL_rigs_967 rfl rfl rfl ?_
    refine q_iconst (v := nI 5) (pc2 := 969) C dL_rigs_968 (by decide) rfl ?_
    refine q_icmp_ne (tgt := 1190) (pc2 := 972) C dL_rigs_969 (by decide) rfl (fun h9 => absurd (by decide) h9) (fun _ => ?_)
    have hj1010 : ∀ f0 : Int32, (f0 = -1 ∨ ∃ m, m ≤ 100 ∧ f0 = nI m) → Cf p l e ({ frames := 9, cells := 2, slots := 12, locals := 162 }) s m args below meth c D A 14 0 0 Q 1010 [(7, .int (nI 1)), (6, .int (nI i)), (0, .ref (a 30)), (1, .int (nI 5)), (2, .int y), (3, .ref (a 40)), (4, .ref (a 41)), (5, .ref (a 42))] [.int f0] (wT ct a x fc fb fp fq fn fl) := by
      intro f0 hf0
      refine q_istore (lv' := [(8, .int f0), (7, .int (nI 1)), (6, .int (nI i)), (0, .ref (a 30)), (1, .int (nI 5)), (2, .int y), (3, .ref (a 40)), (4, .ref (a 41)), (5, .ref (a 42))]) (pc2 := 1012) C dL_rigs_1010 (by decide) rfl rfl ?_
      refine q_iload (pc2 := 1014) C 1 dL_rigs_1012 rfl rfl ?_
      refine q_if_ne (tgt := 1022) (pc2 := 1017) C dL_rigs_1014 (by decide) rfl (fun _ => ?_) (fun h9 => absurd h9 (by decide))
      refine q_iload (pc2 := 1024) C 0 dL_rigs_1022 rfl rfl ?_
      refine q_bipush (v := nI 100) (pc2 := 1026) C dL_rigs_1024 (by decide) rfl ?_
      refine q_aload (pc2 := 1028) C 8 dL_rigs_1026 rfl rfl ?_
      refine q_iload (pc2 := 1030) C 2 dL_rigs_1028 rfl rfl ?_
      refine q_iald (q0 := 28) (f := fp) (pc2 := 1031) C i (wT_g2 ct a x fc fb fp fq fn fl) rfl (rfl) (by omega) (by decide) dL_rigs_1030 rfl ?_
      refine q_eqi (y := nI (K i)) ((hK i hi).1) ?_
      refine q_s0 (pc2 := 1034) (As := [.int (nI (K i))]) (st := [.int (nI 100), .int f0]) (st2 := [.int (nI (hsN (K i))), .int (nI 100), .int f0]) C (c_L_has l D ct (K i) (hK i hi).2) (va_cwS 1 C.w gL_rigs_L_has rfl rfl rfl (by decide +kernel) ⟨Nat.le_of_ble_eq_true rfl, Nat.le_of_ble_eq_true rfl⟩) dL_rigs_1031 rfl rfl (Nat.le_of_ble_eq_true rfl) ⟨Nat.zero_le _, Nat.zero_le _⟩ rfl rfl ?_
      refine q_isub (v := nI (100 - hsN (K i))) (pc2 := 1035) C dL_rigs_1034 (pk_sub (by have := hsN_le (K i); omega)) rfl ?_
      refine q_icmp_le (tgt := 1043) (pc2 := 1038) C dL_rigs_1035 (by decide) rfl (fun c1035 => ?_) (fun c1035 => ?_)
      · skip
        refine q_iconst (v := nI 0) (pc2 := 1044) C dL_rigs_1043 (by decide) rfl ?_
        refine q_istore (lv' := [(9, .int (nI 0)), (8, .int f0), (7, .int (nI 1)), (6, .int (nI i)), (0, .ref (a 30)), (1, .int (nI 5)), (2, .int y), (3, .ref (a 40)), (4, .ref (a 41)), (5, .ref (a 42))]) (pc2 := 1046) C dL_rigs_1044 (by decide) rfl rfl ?_
        refine q_iload (pc2 := 1048) C 0 dL_rigs_1046 rfl rfl ?_
        refine q_if_ne (tgt := 1169) (pc2 := 1051) C dL_rigs_1048 (by decide) rfl (fun h9 => absurd (by decide) h9) (fun _ => ?_)
        have hf2 : f0 = -1 ∨ ∃ m, m + hsN (K i) ≤ 100 ∧ f0 = nI m := by
          rcases hf0 with w | ⟨m, hm, w⟩
          · exact Or.inl w
          · rw [w] at c1035; have h9 := (nI_leI (by omega) (by omega)).mp c1035; have := hsN_le (K i); exact Or.inr ⟨m, by omega, w⟩
        have st9 := st_patch r hi hf2
        refine q_aload (pc2 := 1053) C 9 dL_rigs_1051 rfl rfl ?_
        refine q_bipush (v := nI 20) (pc2 := 1055) C dL_rigs_1053 (by decide) rfl ?_
        refine q_iload (pc2 := 1057) C 3 dL_rigs_1055 rfl rfl ?_
        refine q_iadd (v := nI (20 + i)) (pc2 := 1058) C dL_rigs_1057 (nI_add 20 i) rfl ?_
        refine q_iload (pc2 := 1060) C 1 dL_rigs_1058 rfl rfl ?_
        refine q_iast (q0 := 28) (f := fp) (ws' := (wT ct a x fc fb (upd fp (20 + i) f0) fq fn fl)) (pc2 := 1061) C (20 + i) (wT_g2 ct a x fc fb fp fq fn fl) rfl (rfl) (by omega) (by decide) (wT_a2 ct a x fc fb fp fq fn fl (upd fp (20 + i) f0)) dL_rigs_1060 rfl ?_
        refine q_iconst (v := nI 0) (pc2 := 1062) C dL_rigs_1061 (by decide) rfl ?_
        refine q_istore (lv' := [(10, .int (nI 0)), (9, .int (nI 0)), (8, .int f0), (7, .int (nI 1)), (6, .int (nI i)), (0, .ref (a 30)), (1, .int (nI 5)), (2, .int y), (3, .ref (a 40)), (4, .ref (a 41)), (5, .ref (a 42))]) (pc2 := 1064) C dL_rigs_1062 (by decide) rfl rfl ?_
        refine q_lv (lv' := [(10, .int (nI 0)), (9, .int (nI 0)), (8, .int f0), (7, .int (nI 1)), (6, .int (nI i)), (5, .ref (a 42)), (4, .ref (a 41)), (3, .ref (a 40)), (2, .int y), (1, .int (nI 5)), (0, .ref (a 30))]) [0, 1, 2, 3, 4, 10, 9, 8, 7, 6, 5] rfl ?_
        refine q_eql (lv' := [(10, .int (nI 0)), (9, .int (sumf (fun k9 => if 1 < hld (upd fp (20 + i) f0) K n k9 then 1 else 0) 0)), (8, .int f0), (7, .int (nI 1)), (6, .int (nI i)), (5, .ref (a 42)), (4, .ref (a 41)), (3, .ref (a 40)), (2, .int y), (1, .int (nI 5)), (0, .ref (a 30))]) (rfl) ?_
        refine (lp_up (P := fun d8 => Cf p l e ({ frames := 9, cells := 2, slots := 12, locals := 162 }) s m args below meth c D A 14 0 0 Q 1064 [(10, .int (nI d8)), (9, .int (sumf (fun k9 => if 1 < hld (upd fp (20 + i) f0) K n k9 then 1 else 0) d8)), (8, .int f0), (7, .int (nI 1)), (6, .int (nI i)), (5, .ref (a 42)), (4, .ref (a 41)), (3, .ref (a 40)), (2, .int y), (1, .int (nI 5)), (0, .ref (a 30))] [] (wT ct a x fc fb (upd fp (20 + i) f0) fq fn fl)) 100 (fun d8 hd8 ihd8 => ?_) ?_ : Cf p l e ({ frames := 9, cells := 2, slots := 12, locals := 162 }) s m args below meth c D A 14 0 0 Q 1064 [(10, .int (nI 0)), (9, .int (sumf (fun k9 => if 1 < hld (upd fp (20 + i) f0) K n k9 then 1 else 0) 0)), (8, .int f0), (7, .int (nI 1)), (6, .int (nI i)), (5, .ref (a 42)), (4, .ref (a 41)), (3, .ref (a 40)), (2, .int y), (1, .int (nI 5)), (0, .ref (a 30))] [] (wT ct a x fc fb (upd fp (20 + i) f0) fq fn fl))
        · skip
          refine q_iload (pc2 := 1066) C 0 dL_rigs_1064 rfl rfl ?_
          refine q_bipush (v := nI 100) (pc2 := 1068) C dL_rigs_1066 (by decide) rfl ?_
          refine q_icmp_ge (tgt := 1169) (pc2 := 1071) C dL_rigs_1068 (by decide) rfl (fun h9 => absurd h9 (nI_ge (a := d8) (b := 100) (by omega) (by omega))) (fun _ => ?_)
          refine q_iconst (v := nI 0) (pc2 := 1072) C dL_rigs_1071 (by decide) rfl ?_
          refine q_istore (lv' := [(11, .int (nI 0)), (10, .int (nI d8)), (9, .int (sumf (fun k9 => if 1 < hld (upd fp (20 + i) f0) K n k9 then 1 else 0) d8)), (8, .int f0), (7, .int (nI 1)), (6, .int (nI i)), (5, .ref (a 42)), (4, .ref (a 41)), (3, .ref (a 40)), (2, .int y), (1, .int (nI 5)), (0, .ref (a 30))]) (pc2 := 1074) C dL_rigs_1072 (by decide) rfl rfl ?_
          refine q_iconst (v := nI 0) (pc2 := 1075) C dL_rigs_1074 (by decide) rfl ?_
          refine q_istore (lv' := [(12, .int (nI 0)), (11, .int (nI 0)), (10, .int (nI d8)), (9, .int (sumf (fun k9 => if 1 < hld (upd fp (20 + i) f0) K n k9 then 1 else 0) d8)), (8, .int f0), (7, .int (nI 1)), (6, .int (nI i)), (5, .ref (a 42)), (4, .ref (a 41)), (3, .ref (a 40)), (2, .int y), (1, .int (nI 5)), (0, .ref (a 30))]) (pc2 := 1077) C dL_rigs_1075 (by decide) rfl rfl ?_
          refine q_eql (lv' := [(12, .int (nI 0)), (11, .int (sumf (fun j9 => if holds (upd fp (20 + i) f0) K d8 j9 then 1 else 0) 0)), (10, .int (nI d8)), (9, .int (sumf (fun k9 => if 1 < hld (upd fp (20 + i) f0) K n k9 then 1 else 0) d8)), (8, .int f0), (7, .int (nI 1)), (6, .int (nI i)), (5, .ref (a 42)), (4, .ref (a 41)), (3, .ref (a 40)), (2, .int y), (1, .int (nI 5)), (0, .ref (a 30))]) (rfl) ?_
          refine (lp_up (P := fun k8 => Cf p l e ({ frames := 9, cells := 2, slots := 12, locals := 162 }) s m args below meth c D A 14 0 0 Q 1077 [(12, .int (nI k8)), (11, .int (sumf (fun j9 => if holds (upd fp (20 + i) f0) K d8 j9 then 1 else 0) k8)), (10, .int (nI d8)), (9, .int (sumf (fun k9 => if 1 < hld (upd fp (20 + i) f0) K n k9 then 1 else 0) d8)), (8, .int f0), (7, .int (nI 1)), (6, .int (nI i)), (5, .ref (a 42)), (4, .ref (a 41)), (3, .ref (a 40)), (2, .int y), (1, .int (nI 5)), (0, .ref (a 30))] [] (wT ct a x fc fb (upd fp (20 + i) f0) fq fn fl)) n (fun k8 hk8 ihk8 => ?_) ?_ : Cf p l e ({ frames := 9, cells := 2, slots := 12, locals := 162 }) s m args below meth c D A 14 0 0 Q 1077 [(12, .int (nI 0)), (11, .int (sumf (fun j9 => if holds (upd fp (20 + i) f0) K d8 j9 then 1 else 0) 0)), (10, .int (nI d8)), (9, .int (sumf (fun k9 => if 1 < hld (upd fp (20 + i) f0) K n k9 then 1 else 0) d8)), (8, .int f0), (7, .int (nI 1)), (6, .int (nI i)), (5, .ref (a 42)), (4, .ref (a 41)), (3, .ref (a 40)), (2, .int y), (1, .int (nI 5)), (0, .ref (a 30))] [] (wT ct a x fc fb (upd fp (20 + i) f0) fq fn fl))
          · skip
            refine q_iload (pc2 := 1079) C 0 dL_rigs_1077 rfl rfl ?_
            refine q_aload_n (pc2 := 1080) C 9 dL_rigs_1079 rfl rfl rfl ?_
            refine q_iconst (v := nI 3) (pc2 := 1081) C dL_rigs_1080 (by decide) rfl ?_
            refine q_iald (q0 := 26) (f := fc) (pc2 := 1082) C 3 (wT_g0 ct a x fc fb (upd fp (20 + i) f0) fq fn fl) rfl (rfl) (by decide) (by decide) dL_rigs_1081 rfl ?_
            refine q_eqi (y := nI n) (hc3) ?_
            refine q_icmp_ge (tgt := 1147) (pc2 := 1085) C dL_rigs_1082 (by decide) rfl (fun h9 => absurd h9 (nI_ge (a := k8) (b := n) (by omega) (by omega))) (fun _ => ?_)
            refine q_iload (pc2 := 1087) C 1 dL_rigs_1085 rfl rfl ?_
            refine q_aload (pc2 := 1089) C 7 dL_rigs_1087 rfl rfl ?_
            refine q_bipush (v := nI 20) (pc2 := 1091) C dL_rigs_1089 (by decide) rfl ?_
            refine q_iload (pc2 := 1093) C 0 dL_rigs_1091 rfl rfl ?_
            refine q_iadd (v := nI (20 + k8)) (pc2 := 1094) C dL_rigs_1093 (nI_add 20 k8) rfl ?_
            refine q_iald (q0 := 28) (f := (upd fp (20 + i) f0)) (pc2 := 1095) C (20 + k8) (wT_g2 ct a x fc fb (upd fp (20 + i) f0) fq fn fl) rfl (rfl) (by omega) (by decide) dL_rigs_1094 rfl ?_
            refine q_eqi (y := (fp (20 + k8))) ((upd_n (by omega)).trans (rfl)) ?_
            refine q_if_lt (tgt := 1137) (pc2 := 1098) C dL_rigs_1095 (by decide) rfl (fun c1095 => ?_) (fun c1095 => ?_)
            · skip
              refine q_iconst (v := nI 0) (pc2 := 1138) C dL_rigs_1137 (by decide) rfl ?_
              refine q_iadd (v := (sumf (fun j9 => if holds (upd fp (20 + i) f0) K d8 j9 then 1 else 0) (k8 + 1))) (pc2 := 1139) C dL_rigs_1138 (by rw [sumf_s, if_neg (fun z : holds (upd fp (20 + i) f0) K d8 k8 => absurd z.1 (Int32.not_le.mpr c1095))]; rfl) rfl ?_
              refine q_istore (lv' := [(11, .int (sumf (fun j9 => if holds (upd fp (20 + i) f0) K d8 j9 then 1 else 0) (k8 + 1))), (12, .int (nI k8)), (10, .int (nI d8)), (9, .int (sumf (fun k9 => if 1 < hld (upd fp (20 + i) f0) K n k9 then 1 else 0) d8)), (8, .int f0), (7, .int (nI 1)), (6, .int (nI i)), (5, .ref (a 42)), (4, .ref (a 41)), (3, .ref (a 40)), (2, .int y), (1, .int (nI 5)), (0, .ref (a 30))]) (pc2 := 1141) C dL_rigs_1139 (by decide) rfl rfl ?_
              refine q_iinc (v := nI (k8 + 1)) (lv' := [(12, .int (nI (k8 + 1))), (11, .int (sumf (fun j9 => if holds (upd fp (20 + i) f0) K d8 j9 then 1 else 0) (k8 + 1))), (10, .int (nI d8)), (9, .int (sumf (fun k9 => if 1 < hld (upd fp (20 + i) f0) K n k9 then 1 else 0) d8)), (8, .int f0), (7, .int (nI 1)), (6, .int (nI i)), (5, .ref (a 42)), (4, .ref (a 41)), (3, .ref (a 40)), (2, .int y), (1, .int (nI 5)), (0, .ref (a 30))]) (pc2 := 1144) C 1 dL_rigs_1141 rfl (show nI k8 + Int32.ofInt 1 = nI (k8 + 1) by rw [show Int32.ofInt 1 = nI 1 from by decide]; exact nI_add k8 1) (by decide) rfl rfl ?_
              refine q_goto (pc2 := 1077) C dL_rigs_1144 (by decide) ?_
              exact ihk8
            · skip
              refine q_iload (pc2 := 1100) C 2 dL_rigs_1098 rfl rfl ?_
              refine q_aload (pc2 := 1102) C 7 dL_rigs_1100 rfl rfl ?_
              refine q_bipush (v := nI 20) (pc2 := 1104) C dL_rigs_1102 (by decide) rfl ?_
              refine q_iload (pc2 := 1106) C 0 dL_rigs_1104 rfl rfl ?_
              refine q_iadd (v := nI (20 + k8)) (pc2 := 1107) C dL_rigs_1106 (nI_add 20 k8) rfl ?_
              refine q_iald (q0 := 28) (f := (upd fp (20 + i) f0)) (pc2 := 1108) C (20 + k8) (wT_g2 ct a x fc fb (upd fp (20 + i) f0) fq fn fl) rfl (rfl) (by omega) (by decide) dL_rigs_1107 rfl ?_
              refine q_eqi (y := (fp (20 + k8))) ((upd_n (by omega)).trans (rfl)) ?_
              refine q_icmp_lt (tgt := 1137) (pc2 := 1111) C dL_rigs_1108 (by decide) rfl (fun c1108 => ?_) (fun c1108 => ?_)
              · skip
                refine q_iconst (v := nI 0) (pc2 := 1138) C dL_rigs_1137 (by decide) rfl ?_
                refine q_iadd (v := (sumf (fun j9 => if holds (upd fp (20 + i) f0) K d8 j9 then 1 else 0) (k8 + 1))) (pc2 := 1139) C dL_rigs_1138 (by rw [sumf_s, if_neg (fun z : holds (upd fp (20 + i) f0) K d8 k8 => absurd z.2.1 (Int32.not_le.mpr c1108))]; rfl) rfl ?_
                refine q_istore (lv' := [(11, .int (sumf (fun j9 => if holds (upd fp (20 + i) f0) K d8 j9 then 1 else 0) (k8 + 1))), (12, .int (nI k8)), (10, .int (nI d8)), (9, .int (sumf (fun k9 => if 1 < hld (upd fp (20 + i) f0) K n k9 then 1 else 0) d8)), (8, .int f0), (7, .int (nI 1)), (6, .int (nI i)), (5, .ref (a 42)), (4, .ref (a 41)), (3, .ref (a 40)), (2, .int y), (1, .int (nI 5)), (0, .ref (a 30))]) (pc2 := 1141) C dL_rigs_1139 (by decide) rfl rfl ?_
                refine q_iinc (v := nI (k8 + 1)) (lv' := [(12, .int (nI (k8 + 1))), (11, .int (sumf (fun j9 => if holds (upd fp (20 + i) f0) K d8 j9 then 1 else 0) (k8 + 1))), (10, .int (nI d8)), (9, .int (sumf (fun k9 => if 1 < hld (upd fp (20 + i) f0) K n k9 then 1 else 0) d8)), (8, .int f0), (7, .int (nI 1)), (6, .int (nI i)), (5, .ref (a 42)), (4, .ref (a 41)), (3, .ref (a 40)), (2, .int y), (1, .int (nI 5)), (0, .ref (a 30))]) (pc2 := 1144) C 1 dL_rigs_1141 rfl (show nI k8 + Int32.ofInt 1 = nI (k8 + 1) by rw [show Int32.ofInt 1 = nI 1 from by decide]; exact nI_add k8 1) (by decide) rfl rfl ?_
                refine q_goto (pc2 := 1077) C dL_rigs_1144 (by decide) ?_
                exact ihk8
              · skip
                refine q_iload (pc2 := 1113) C 2 dL_rigs_1111 rfl rfl ?_
                refine q_aload (pc2 := 1115) C 7 dL_rigs_1113 rfl rfl ?_
                refine q_bipush (v := nI 20) (pc2 := 1117) C dL_rigs_1115 (by decide) rfl ?_
                refine q_iload (pc2 := 1119) C 0 dL_rigs_1117 rfl rfl ?_
                refine q_iadd (v := nI (20 + k8)) (pc2 := 1120) C dL_rigs_1119 (nI_add 20 k8) rfl ?_
                refine q_iald (q0 := 28) (f := (upd fp (20 + i) f0)) (pc2 := 1121) C (20 + k8) (wT_g2 ct a x fc fb (upd fp (20 + i) f0) fq fn fl) rfl (rfl) (by omega) (by decide) dL_rigs_1120 rfl ?_
                refine q_eqi (y := (fp (20 + k8))) ((upd_n (by omega)).trans (rfl)) ?_
                refine q_aload (pc2 := 1123) C 7 dL_rigs_1121 rfl rfl ?_
                refine q_iload (pc2 := 1125) C 0 dL_rigs_1123 rfl rfl ?_
                refine q_iald (q0 := 28) (f := (upd fp (20 + i) f0)) (pc2 := 1126) C k8 (wT_g2 ct a x fc fb (upd fp (20 + i) f0) fq fn fl) rfl (rfl) (by omega) (by decide) dL_rigs_1125 rfl ?_
                refine q_eqi (y := nI (K k8)) ((upd_n (by omega)).trans ((hK k8 hk8).1)) ?_
                refine q_s0 (pc2 := 1129) (As := [.int (nI (K k8))]) (st := [.int (fp (20 + k8)), .int (nI d8), .int (sumf (fun j9 => if holds (upd fp (20 + i) f0) K d8 j9 then 1 else 0) k8)]) (st2 := [.int (nI (hsN (K k8))), .int (fp (20 + k8)), .int (nI d8), .int (sumf (fun j9 => if holds (upd fp (20 + i) f0) K d8 j9 then 1 else 0) k8)]) C (c_L_has l D ct (K k8) (hK k8 hk8).2) (va_cwS 1 C.w gL_rigs_L_has rfl rfl rfl (by decide +kernel) ⟨Nat.le_of_ble_eq_true rfl, Nat.le_of_ble_eq_true rfl⟩) dL_rigs_1126 rfl rfl (Nat.le_of_ble_eq_true rfl) ⟨Nat.zero_le _, Nat.zero_le _⟩ rfl rfl ?_
                refine q_iadd (v := ((fp (20 + k8)) + nI (hsN (K k8)))) (pc2 := 1130) C dL_rigs_1129 (rfl) rfl ?_
                refine q_icmp_ge (tgt := 1137) (pc2 := 1133) C dL_rigs_1130 (by decide) rfl (fun c1130 => ?_) (fun c1130 => ?_)
                · skip
                  refine q_iconst (v := nI 0) (pc2 := 1138) C dL_rigs_1137 (by decide) rfl ?_
                  refine q_iadd (v := (sumf (fun j9 => if holds (upd fp (20 + i) f0) K d8 j9 then 1 else 0) (k8 + 1))) (pc2 := 1139) C dL_rigs_1138 (by rw [sumf_s, if_neg (fun z : holds (upd fp (20 + i) f0) K d8 k8 => absurd z.2.2 (Int32.not_lt.mpr c1130))]; rfl) rfl ?_
                  refine q_istore (lv' := [(11, .int (sumf (fun j9 => if holds (upd fp (20 + i) f0) K d8 j9 then 1 else 0) (k8 + 1))), (12, .int (nI k8)), (10, .int (nI d8)), (9, .int (sumf (fun k9 => if 1 < hld (upd fp (20 + i) f0) K n k9 then 1 else 0) d8)), (8, .int f0), (7, .int (nI 1)), (6, .int (nI i)), (5, .ref (a 42)), (4, .ref (a 41)), (3, .ref (a 40)), (2, .int y), (1, .int (nI 5)), (0, .ref (a 30))]) (pc2 := 1141) C dL_rigs_1139 (by decide) rfl rfl ?_
                  refine q_iinc (v := nI (k8 + 1)) (lv' := [(12, .int (nI (k8 + 1))), (11, .int (sumf (fun j9 => if holds (upd fp (20 + i) f0) K d8 j9 then 1 else 0) (k8 + 1))), (10, .int (nI d8)), (9, .int (sumf (fun k9 => if 1 < hld (upd fp (20 + i) f0) K n k9 then 1 else 0) d8)), (8, .int f0), (7, .int (nI 1)), (6, .int (nI i)), (5, .ref (a 42)), (4, .ref (a 41)), (3, .ref (a 40)), (2, .int y), (1, .int (nI 5)), (0, .ref (a 30))]) (pc2 := 1144) C 1 dL_rigs_1141 rfl (show nI k8 + Int32.ofInt 1 = nI (k8 + 1) by rw [show Int32.ofInt 1 = nI 1 from by decide]; exact nI_add k8 1) (by decide) rfl rfl ?_
                  refine q_goto (pc2 := 1077) C dL_rigs_1144 (by decide) ?_
                  exact ihk8
                · skip
                  refine q_iconst (v := nI 1) (pc2 := 1134) C dL_rigs_1133 (by decide) rfl ?_
                  refine q_goto (pc2 := 1138) C dL_rigs_1134 (by decide) ?_
                  refine q_iadd (v := (sumf (fun j9 => if holds (upd fp (20 + i) f0) K d8 j9 then 1 else 0) (k8 + 1))) (pc2 := 1139) C dL_rigs_1138 (by rw [sumf_s, if_pos (⟨Int32.not_lt.mp c1095, Int32.not_lt.mp c1108, Int32.not_le.mp c1130⟩ : holds (upd fp (20 + i) f0) K d8 k8)]; rfl) rfl ?_
                  refine q_istore (lv' := [(11, .int (sumf (fun j9 => if holds (upd fp (20 + i) f0) K d8 j9 then 1 else 0) (k8 + 1))), (12, .int (nI k8)), (10, .int (nI d8)), (9, .int (sumf (fun k9 => if 1 < hld (upd fp (20 + i) f0) K n k9 then 1 else 0) d8)), (8, .int f0), (7, .int (nI 1)), (6, .int (nI i)), (5, .ref (a 42)), (4, .ref (a 41)), (3, .ref (a 40)), (2, .int y), (1, .int (nI 5)), (0, .ref (a 30))]) (pc2 := 1141) C dL_rigs_1139 (by decide) rfl rfl ?_
                  refine q_iinc (v := nI (k8 + 1)) (lv' := [(12, .int (nI (k8 + 1))), (11, .int (sumf (fun j9 => if holds (upd fp (20 + i) f0) K d8 j9 then 1 else 0) (k8 + 1))), (10, .int (nI d8)), (9, .int (sumf (fun k9 => if 1 < hld (upd fp (20 + i) f0) K n k9 then 1 else 0) d8)), (8, .int f0), (7, .int (nI 1)), (6, .int (nI i)), (5, .ref (a 42)), (4, .ref (a 41)), (3, .ref (a 40)), (2, .int y), (1, .int (nI 5)), (0, .ref (a 30))]) (pc2 := 1144) C 1 dL_rigs_1141 rfl (show nI k8 + Int32.ofInt 1 = nI (k8 + 1) by rw [show Int32.ofInt 1 = nI 1 from by decide]; exact nI_add k8 1) (by decide) rfl rfl ?_
                  refine q_goto (pc2 := 1077) C dL_rigs_1144 (by decide) ?_
                  exact ihk8
          · skip
            refine q_iload (pc2 := 1079) C 0 dL_rigs_1077 rfl rfl ?_
            refine q_aload_n (pc2 := 1080) C 9 dL_rigs_1079 rfl rfl rfl ?_
            refine q_iconst (v := nI 3) (pc2 := 1081) C dL_rigs_1080 (by decide) rfl ?_
            refine q_iald (q0 := 26) (f := fc) (pc2 := 1082) C 3 (wT_g0 ct a x fc fb (upd fp (20 + i) f0) fq fn fl) rfl (rfl) (by decide) (by decide) dL_rigs_1081 rfl ?_
            refine q_eqi (y := nI n) (hc3) ?_
            refine q_icmp_ge (tgt := 1147) (pc2 := 1085) C dL_rigs_1082 (by decide) rfl (fun _ => ?_) (fun h9 => absurd (nI_le (a := n) (b := n) (by omega) (by omega)) h9)
            refine q_iload (pc2 := 1149) C 3 dL_rigs_1147 rfl rfl ?_
            refine q_iload (pc2 := 1151) C 1 dL_rigs_1149 rfl rfl ?_
            refine q_iconst (v := nI 1) (pc2 := 1152) C dL_rigs_1151 (by decide) rfl ?_
            refine q_icmp_le (tgt := 1159) (pc2 := 1155) C dL_rigs_1152 (by decide) rfl (fun c1152 => ?_) (fun c1152 => ?_)
            · skip
              refine q_iconst (v := nI 0) (pc2 := 1160) C dL_rigs_1159 (by decide) rfl ?_
              refine q_iadd (v := (sumf (fun k9 => if 1 < hld (upd fp (20 + i) f0) K n k9 then 1 else 0) (d8 + 1))) (pc2 := 1161) C dL_rigs_1160 (by rw [sumf_s, if_neg c1152]; rfl) rfl ?_
              refine q_istore (lv' := [(9, .int (sumf (fun k9 => if 1 < hld (upd fp (20 + i) f0) K n k9 then 1 else 0) (d8 + 1))), (12, .int (nI n)), (11, .int (sumf (fun j9 => if holds (upd fp (20 + i) f0) K d8 j9 then 1 else 0) n)), (10, .int (nI d8)), (8, .int f0), (7, .int (nI 1)), (6, .int (nI i)), (5, .ref (a 42)), (4, .ref (a 41)), (3, .ref (a 40)), (2, .int y), (1, .int (nI 5)), (0, .ref (a 30))]) (pc2 := 1163) C dL_rigs_1161 (by decide) rfl rfl ?_
              refine q_iinc (v := nI (d8 + 1)) (lv' := [(10, .int (nI (d8 + 1))), (9, .int (sumf (fun k9 => if 1 < hld (upd fp (20 + i) f0) K n k9 then 1 else 0) (d8 + 1))), (12, .int (nI n)), (11, .int (sumf (fun j9 => if holds (upd fp (20 + i) f0) K d8 j9 then 1 else 0) n)), (8, .int f0), (7, .int (nI 1)), (6, .int (nI i)), (5, .ref (a 42)), (4, .ref (a 41)), (3, .ref (a 40)), (2, .int y), (1, .int (nI 5)), (0, .ref (a 30))]) (pc2 := 1166) C 3 dL_rigs_1163 rfl (show nI d8 + Int32.ofInt 1 = nI (d8 + 1) by rw [show Int32.ofInt 1 = nI 1 from by decide]; exact nI_add d8 1) (by decide) rfl rfl ?_
              refine q_goto (pc2 := 1064) C dL_rigs_1166 (by decide) ?_
              refine q_lv (lv' := [(10, .int (nI (d8 + 1))), (9, .int (sumf (fun k9 => if 1 < hld (upd fp (20 + i) f0) K n k9 then 1 else 0) (d8 + 1))), (8, .int f0), (7, .int (nI 1)), (6, .int (nI i)), (5, .ref (a 42)), (4, .ref (a 41)), (3, .ref (a 40)), (2, .int y), (1, .int (nI 5)), (0, .ref (a 30))]) [0, 1, 4, 5, 6, 7, 8, 9, 10, 11, 12] rfl ?_
              exact ihd8
            · skip
              refine q_iconst (v := nI 1) (pc2 := 1156) C dL_rigs_1155 (by decide) rfl ?_
              refine q_goto (pc2 := 1160) C dL_rigs_1156 (by decide) ?_
              refine q_iadd (v := (sumf (fun k9 => if 1 < hld (upd fp (20 + i) f0) K n k9 then 1 else 0) (d8 + 1))) (pc2 := 1161) C dL_rigs_1160 (by rw [sumf_s, if_pos c1152]; rfl) rfl ?_
              refine q_istore (lv' := [(9, .int (sumf (fun k9 => if 1 < hld (upd fp (20 + i) f0) K n k9 then 1 else 0) (d8 + 1))), (12, .int (nI n)), (11, .int (sumf (fun j9 => if holds (upd fp (20 + i) f0) K d8 j9 then 1 else 0) n)), (10, .int (nI d8)), (8, .int f0), (7, .int (nI 1)), (6, .int (nI i)), (5, .ref (a 42)), (4, .ref (a 41)), (3, .ref (a 40)), (2, .int y), (1, .int (nI 5)), (0, .ref (a 30))]) (pc2 := 1163) C dL_rigs_1161 (by decide) rfl rfl ?_
              refine q_iinc (v := nI (d8 + 1)) (lv' := [(10, .int (nI (d8 + 1))), (9, .int (sumf (fun k9 => if 1 < hld (upd fp (20 + i) f0) K n k9 then 1 else 0) (d8 + 1))), (12, .int (nI n)), (11, .int (sumf (fun j9 => if holds (upd fp (20 + i) f0) K d8 j9 then 1 else 0) n)), (8, .int f0), (7, .int (nI 1)), (6, .int (nI i)), (5, .ref (a 42)), (4, .ref (a 41)), (3, .ref (a 40)), (2, .int y), (1, .int (nI 5)), (0, .ref (a 30))]) (pc2 := 1166) C 3 dL_rigs_1163 rfl (show nI d8 + Int32.ofInt 1 = nI (d8 + 1) by rw [show Int32.ofInt 1 = nI 1 from by decide]; exact nI_add d8 1) (by decide) rfl rfl ?_
              refine q_goto (pc2 := 1064) C dL_rigs_1166 (by decide) ?_
              refine q_lv (lv' := [(10, .int (nI (d8 + 1))), (9, .int (sumf (fun k9 => if 1 < hld (upd fp (20 + i) f0) K n k9 then 1 else 0) (d8 + 1))), (8, .int f0), (7, .int (nI 1)), (6, .int (nI i)), (5, .ref (a 42)), (4, .ref (a 41)), (3, .ref (a 40)), (2, .int y), (1, .int (nI 5)), (0, .ref (a 30))]) [0, 1, 4, 5, 6, 7, 8, 9, 10, 11, 12] rfl ?_
              exact ihd8
        · skip
          refine q_iload (pc2 := 1066) C 0 dL_rigs_1064 rfl rfl ?_
          refine q_bipush (v := nI 100) (pc2 := 1068) C dL_rigs_1066 (by decide) rfl ?_
          refine q_icmp_ge (tgt := 1169) (pc2 := 1071) C dL_rigs_1068 (by decide) rfl (fun _ => ?_) (fun h9 => absurd (nI_le (a := 100) (b := 100) (by omega) (by omega)) h9)
          refine q_aload_n (pc2 := 1170) C 10 dL_rigs_1169 rfl rfl rfl ?_
          refine q_iconst (v := nI 0) (pc2 := 1171) C dL_rigs_1170 (by decide) rfl ?_
          refine q_iload (pc2 := 1173) C 4 dL_rigs_1171 rfl rfl ?_
          refine q_iload (pc2 := 1175) C 2 dL_rigs_1173 rfl rfl ?_
          refine q_iconst (v := nI 0) (pc2 := 1176) C dL_rigs_1175 (by decide) rfl ?_
          have hM := c_X3_patch l hl D ct a x n hx0 (by omega) (nI i) f0
          rw [hx0] at hM
          rw [nI_clamp (show i < 2 ^ 31 by omega), (hlow i hi).2.2.2.1] at hM
          have hf1 : -1 ≤ f0 ∧ f0 ≤ 100 - nI (hsN (K i)) := ⟨by rcases hf0 with w | ⟨m, hm, w⟩; rw [w]; exact Int32.le_refl _; rw [w]; exact Int32.le_trans (by decide) (nI_pos' (by omega)), by rw [(pk_sub (by have := hsN_le (K i); omega) : (100 : Int32) - nI (hsN (K i)) = nI (100 - hsN (K i)))]; exact c1035⟩
          refine q_Hok_wT (pc2 := 1179) (As := [.ref (a 30), .int (nI 0), .int (nI i), .int f0, .int (nI 0)]) (st := []) (st2 := [.int (dbl (fun k => cntH (set2 x 12 (upd (x 12) i f0)) (nI k)))]) (x' := (set2 x 12 (upd (x 12) i f0))) C (c_L_set0 l D ct a x _ (nI i) f0 (nI 0) _ _ hM) (by rw [if_pos (show 0 ≤ nI i ∧ nI i < nI n from ⟨nI_pos' (by omega), nI_lt hi (by omega)⟩), if_pos hf1]) (vx_cwSW 5 C.w gL_rigs_L_set rfl rfl rfl (by decide +kernel) ⟨Nat.le_of_ble_eq_true rfl, Nat.le_of_ble_eq_true rfl⟩) dL_rigs_1176 rfl rfl (Nat.le_of_ble_eq_true rfl) ⟨Nat.zero_le _, Nat.zero_le _⟩ rfl rfl ?_
          refine q_iload (pc2 := 1181) C 1 dL_rigs_1179 rfl rfl ?_
          refine q_icmp_ne (tgt := 1188) (pc2 := 1184) C dL_rigs_1181 (by decide) rfl (fun h9 => absurd (dbl_eq st9.2.1 st9.2.2.1) h9) (fun _ => ?_)
          refine q_iconst (v := nI 1) (pc2 := 1185) C dL_rigs_1184 (by decide) rfl ?_
          refine q_goto (pc2 := 1189) C dL_rigs_1185 (by decide) ?_
          exact q_zret C hQ rfl (rfl) (Nat.zero_le _) (Nat.zero_le _) dL_rigs_1189 ⟨rfl, _, _, _, _, _, _, _, rfl, ⟨n, h, q, b, t, kb, K, S, F, V, Nat.le_trans ht (Nat.le_add_right M 50), st9⟩⟩
      · skip
        refine q_bipush (v := (-102)) (pc2 := 1040) C dL_rigs_1038 (by decide) rfl ?_
        refine q_goto (pc2 := 1044) C dL_rigs_1040 (by decide) ?_
        refine q_istore (lv' := [(9, .int (-102)), (8, .int f0), (7, .int (nI 1)), (6, .int (nI i)), (0, .ref (a 30)), (1, .int (nI 5)), (2, .int y), (3, .ref (a 40)), (4, .ref (a 41)), (5, .ref (a 42))]) (pc2 := 1046) C dL_rigs_1044 (by decide) rfl rfl ?_
        refine q_iload (pc2 := 1048) C 0 dL_rigs_1046 rfl rfl ?_
        refine q_if_ne (tgt := 1169) (pc2 := 1051) C dL_rigs_1048 (by decide) rfl (fun _ => ?_) (fun h9 => absurd h9 (by decide))
        refine q_aload_n (pc2 := 1170) C 4 dL_rigs_1169 rfl rfl rfl ?_
        refine q_iconst (v := nI 0) (pc2 := 1171) C dL_rigs_1170 (by decide) rfl ?_
        refine q_iload (pc2 := 1173) C 3 dL_rigs_1171 rfl rfl ?_
        refine q_iload (pc2 := 1175) C 1 dL_rigs_1173 rfl rfl ?_
        refine q_iconst (v := nI 0) (pc2 := 1176) C dL_rigs_1175 (by decide) rfl ?_
        have hM := c_X3_patch l hl D ct a x n hx0 (by omega) (nI i) f0
        rw [hx0] at hM
        rw [nI_clamp (show i < 2 ^ 31 by omega), (hlow i hi).2.2.2.1] at hM
        refine q_Hno_wT (pc2 := 1179) (As := [.ref (a 30), .int (nI 0), .int (nI i), .int f0, .int (nI 0)]) (st := []) (st2 := [.int (-102)]) (c2 := 1) (s2 := 6) C (c_L_set0 l D ct a x _ (nI i) f0 (nI 0) _ _ hM) (by rw [if_pos (show 0 ≤ nI i ∧ nI i < nI n from ⟨nI_pos' (by omega), nI_lt hi (by omega)⟩), if_neg (fun z : -1 ≤ f0 ∧ f0 ≤ 100 - nI (hsN (K i)) => absurd ((pk_sub (by have := hsN_le (K i); omega) : (100 : Int32) - nI (hsN (K i)) = nI (100 - hsN (K i))) ▸ z.2) c1035)]) (by decide +kernel) (vx_cwSW 5 C.w gL_rigs_L_set rfl rfl rfl (by decide +kernel) ⟨Nat.le_of_ble_eq_true rfl, Nat.le_of_ble_eq_true rfl⟩) dL_rigs_1176 rfl rfl (Nat.le_of_ble_eq_true rfl) ⟨Nat.le_of_ble_eq_true rfl, Nat.le_of_ble_eq_true rfl⟩ rfl rfl (by decide) rfl rfl ?_
        refine q_iload (pc2 := 1181) C 0 dL_rigs_1179 rfl rfl ?_
        refine q_icmp_ne (tgt := 1188) (pc2 := 1184) C dL_rigs_1181 (by decide) rfl (fun h9 => absurd (by decide) h9) (fun _ => ?_)
        refine q_iconst (v := nI 1) (pc2 := 1185) C dL_rigs_1184 (by decide) rfl ?_
        refine q_goto (pc2 := 1189) C dL_rigs_1185 (by decide) ?_
        exact q_zret C hQ rfl (rfl) (by omega) (by omega) dL_rigs_1189 ⟨rfl, _, _, _, _, _, _, _, rfl, (RE.mono (Nat.le_add_right M 50) ⟨n, h, q, b, t, kb, K, S, F, V, ht, r⟩)⟩
    refine q_iload_n (pc2 := 973) C 4 dL_rigs_972 rfl rfl rfl ?_
    refine q_iconst (v := nI 3) (pc2 := 974) C dL_rigs_973 (by decide) rfl ?_
    refine q_ishr (v := (y >>> (nI 3 &&& 31))) (pc2 := 975) C dL_rigs_974 (rfl) rfl ?_
    refine q_bipush (v := nI 20) (pc2 := 977) C dL_rigs_975 (by decide) rfl ?_
    refine q_some (pc2 := 980) C (v := (y >>> (nI 3 &&& 31))) 20 (by omega) (by omega) (va_cwS 2 C.w gL_rigs_L_some rfl rfl rfl (by decide +kernel) ⟨Nat.le_of_ble_eq_true rfl, Nat.le_of_ble_eq_true rfl⟩) dL_rigs_977 rfl ⟨Nat.le_of_ble_eq_true rfl, Nat.le_of_ble_eq_true rfl⟩ (Nat.le_of_ble_eq_true rfl) (fun m977 hm977 => ?_)
    refine q_if_ne (tgt := 988) (pc2 := 983) C dL_rigs_980 (by decide) rfl (fun c980 => ?_) (fun c980 => ?_)
    · skip
      have k980 : m977 ≠ 0 := fun z => c980 ((nI_eq (a := m977) (b := 0) (by omega) (by omega)).mpr z)
      refine q_iload_n (pc2 := 989) C 4 dL_rigs_988 rfl rfl rfl ?_
      refine q_iconst (v := nI 3) (pc2 := 990) C dL_rigs_989 (by decide) rfl ?_
      refine q_ishr (v := (y >>> (nI 3 &&& 31))) (pc2 := 991) C dL_rigs_990 (rfl) rfl ?_
      refine q_iconst (v := nI 5) (pc2 := 992) C dL_rigs_991 (by decide) rfl ?_
      refine q_some (pc2 := 995) C (v := (y >>> (nI 3 &&& 31))) 5 (by omega) (by omega) (va_cwS 2 C.w gL_rigs_L_some rfl rfl rfl (by decide +kernel) ⟨Nat.le_of_ble_eq_true rfl, Nat.le_of_ble_eq_true rfl⟩) dL_rigs_992 rfl ⟨Nat.le_of_ble_eq_true rfl, Nat.le_of_ble_eq_true rfl⟩ (Nat.le_of_ble_eq_true rfl) (fun m992 hm992 => ?_)
      refine q_if_ne (tgt := 1002) (pc2 := 998) C dL_rigs_995 (by decide) rfl (fun c995 => ?_) (fun c995 => ?_)
      · skip
        have k995 : m992 ≠ 0 := fun z => c995 ((nI_eq (a := m992) (b := 0) (by omega) (by omega)).mpr z)
        refine q_iload_n (pc2 := 1003) C 4 dL_rigs_1002 rfl rfl rfl ?_
        refine q_iconst (v := nI 5) (pc2 := 1004) C dL_rigs_1003 (by decide) rfl ?_
        refine q_ishr (v := (y >>> (nI 5 &&& 31))) (pc2 := 1005) C dL_rigs_1004 (rfl) rfl ?_
        refine q_bipush (v := nI 30) (pc2 := 1007) C dL_rigs_1005 (by decide) rfl ?_
        refine q_some (pc2 := 1010) C (v := (y >>> (nI 5 &&& 31))) 30 (by omega) (by omega) (va_cwS 2 C.w gL_rigs_L_some rfl rfl rfl (by decide +kernel) ⟨Nat.le_of_ble_eq_true rfl, Nat.le_of_ble_eq_true rfl⟩) dL_rigs_1007 rfl ⟨Nat.le_of_ble_eq_true rfl, Nat.le_of_ble_eq_true rfl⟩ (Nat.le_of_ble_eq_true rfl) (fun m1007 hm1007 => ?_)
        exact hj1010 (nI m1007) (Or.inr ⟨m1007, by omega, rfl⟩)
      · skip
        have k995 : m992 = 0 := (nI_eq (a := m992) (b := 0) (by omega) (by omega)).mp (c995)
        refine q_iconst (v := (-1)) (pc2 := 999) C dL_rigs_998 (by decide) rfl ?_
        refine q_goto (pc2 := 1010) C dL_rigs_999 (by decide) ?_
        exact hj1010 (-1) (Or.inl rfl)
    · skip
      have k980 : m977 = 0 := (nI_eq (a := m977) (b := 0) (by omega) (by omega)).mp (c980)
      refine q_bipush (v := nI 100) (pc2 := 985) C dL_rigs_983 (by decide) rfl ?_
      refine q_goto (pc2 := 1010) C dL_rigs_985 (by decide) ?_
      exact hj1010 (nI 100) (Or.inr ⟨100, by omega, rfl⟩)
  have hB : ∀ v : Int32, ¬ (0 ≤ v ∧ v < nI n) → Cf p l e ({ frames := 9, cells := 2, slots := 12, locals := 162 }) s m args below meth c D A 14 0 0 Q 49 [(7, .int (nI 0)), (6, .int v), (0, .ref (a 30)), (1, .int (nI 5)), (2, .int y), (3, .ref (a 40)), (4, .ref (a 41)), (5, .ref (a 42))] [] (wT ct a x fc fb fp fq fn fl) := by
    intro v hv
    refine q_iload_n (pc2 := 50) C 3 dL_rigs_49 rfl rfl rfl ?_
    refine q_if_ne (tgt := 267) (pc2 := 53) C dL_rigs_50 (by decide) rfl (fun _ => ?_) (fun h9 => absurd h9 (by decide))
    refine q_iload_n (pc2 := 268) C 3 dL_rigs_267 rfl rfl rfl ?_
    refine q_iconst (v := nI 1) (pc2 := 269) C dL_rigs_268 (by decide) rfl ?_
    refine q_icmp_ne (tgt := 448) (pc2 := 272) C dL_rigs_269 (by decide) rfl (fun _ => ?_) (fun h9 => absurd h9 (by decide))
    refine q_iload_n (pc2 := 449) C 3 dL_rigs_448 rfl rfl rfl ?_
    refine q_iconst (v := nI 2) (pc2 := 450) C dL_rigs_449 (by decide) rfl ?_
    refine q_icmp_ne (tgt := 628) (pc2 := 453) C dL_rigs_450 (by decide) rfl (fun _ => ?_) (fun h9 => absurd h9 (by decide))
    refine q_iload_n (pc2 := 629) C 3 dL_rigs_628 rfl rfl rfl ?_
    refine q_iconst (v := nI 3) (pc2 := 630) C dL_rigs_629 (by decide) rfl ?_
    refine q_icmp_ne (tgt := 694) (pc2 := 633) C dL_rigs_630 (by decide) rfl (fun _ => ?_) (fun h9 => absurd h9 (by decide))
    refine q_iload_n (pc2 := 695) C 3 dL_rigs_694 rfl rfl rfl ?_
    refine q_iconst (v := nI 4) (pc2 := 696) C dL_rigs_695 (by decide) rfl ?_
    refine q_icmp_ne (tgt := 967) (pc2 := 699) C dL_rigs_696 (by decide) rfl (fun _ => ?_) (fun h9 => absurd h9 (by decide))
    refine q_iload_n (pc2 := 968) C 3 dL_rigs_967 rfl rfl rfl ?_
    refine q_iconst (v := nI 5) (pc2 := 969) C dL_rigs_968 (by decide) rfl ?_
    refine q_icmp_ne (tgt := 1190) (pc2 := 972) C dL_rigs_969 (by decide) rfl (fun h9 => absurd (by decide) h9) (fun _ => ?_)
    have hj1010 : ∀ f0 : Int32, (f0 = -1 ∨ ∃ m, m ≤ 100 ∧ f0 = nI m) → Cf p l e ({ frames := 9, cells := 2, slots := 12, locals := 162 }) s m args below meth c D A 14 0 0 Q 1010 [(7, .int (nI 0)), (6, .int v), (0, .ref (a 30)), (1, .int (nI 5)), (2, .int y), (3, .ref (a 40)), (4, .ref (a 41)), (5, .ref (a 42))] [.int f0] (wT ct a x fc fb fp fq fn fl) := by
      intro f0 hf0
      refine q_istore (lv' := [(8, .int f0), (7, .int (nI 0)), (6, .int v), (0, .ref (a 30)), (1, .int (nI 5)), (2, .int y), (3, .ref (a 40)), (4, .ref (a 41)), (5, .ref (a 42))]) (pc2 := 1012) C dL_rigs_1010 (by decide) rfl rfl ?_
      refine q_iload (pc2 := 1014) C 1 dL_rigs_1012 rfl rfl ?_
      refine q_if_ne (tgt := 1022) (pc2 := 1017) C dL_rigs_1014 (by decide) rfl (fun h9 => absurd (by decide) h9) (fun _ => ?_)
      refine q_bipush (v := (-101)) (pc2 := 1019) C dL_rigs_1017 (by decide) rfl ?_
      refine q_goto (pc2 := 1044) C dL_rigs_1019 (by decide) ?_
      refine q_istore (lv' := [(9, .int (-101)), (8, .int f0), (7, .int (nI 0)), (6, .int v), (0, .ref (a 30)), (1, .int (nI 5)), (2, .int y), (3, .ref (a 40)), (4, .ref (a 41)), (5, .ref (a 42))]) (pc2 := 1046) C dL_rigs_1044 (by decide) rfl rfl ?_
      refine q_iload (pc2 := 1048) C 0 dL_rigs_1046 rfl rfl ?_
      refine q_if_ne (tgt := 1169) (pc2 := 1051) C dL_rigs_1048 (by decide) rfl (fun _ => ?_) (fun h9 => absurd h9 (by decide))
      refine q_aload_n (pc2 := 1170) C 4 dL_rigs_1169 rfl rfl rfl ?_
      refine q_iconst (v := nI 0) (pc2 := 1171) C dL_rigs_1170 (by decide) rfl ?_
      refine q_iload (pc2 := 1173) C 3 dL_rigs_1171 rfl rfl ?_
      refine q_iload (pc2 := 1175) C 1 dL_rigs_1173 rfl rfl ?_
      refine q_iconst (v := nI 0) (pc2 := 1176) C dL_rigs_1175 (by decide) rfl ?_
      have hM := c_X3_patch l hl D ct a x n hx0 (by omega) (v) f0
      rw [hx0] at hM
      refine q_Hno_wT (pc2 := 1179) (As := [.ref (a 30), .int (nI 0), .int v, .int f0, .int (nI 0)]) (st := []) (st2 := [.int (-101)]) (c2 := 1) (s2 := 6) C (c_L_set0 l D ct a x _ (v) f0 (nI 0) _ _ hM) (if_neg hv) (by decide +kernel) (vx_cwSW 5 C.w gL_rigs_L_set rfl rfl rfl (by decide +kernel) ⟨Nat.le_of_ble_eq_true rfl, Nat.le_of_ble_eq_true rfl⟩) dL_rigs_1176 rfl rfl (Nat.le_of_ble_eq_true rfl) ⟨Nat.le_of_ble_eq_true rfl, Nat.le_of_ble_eq_true rfl⟩ rfl rfl (by decide) rfl rfl ?_
      refine q_iload (pc2 := 1181) C 0 dL_rigs_1179 rfl rfl ?_
      refine q_icmp_ne (tgt := 1188) (pc2 := 1184) C dL_rigs_1181 (by decide) rfl (fun h9 => absurd (by decide) h9) (fun _ => ?_)
      refine q_iconst (v := nI 1) (pc2 := 1185) C dL_rigs_1184 (by decide) rfl ?_
      refine q_goto (pc2 := 1189) C dL_rigs_1185 (by decide) ?_
      exact q_zret C hQ rfl (rfl) (by omega) (by omega) dL_rigs_1189 ⟨rfl, _, _, _, _, _, _, _, rfl, (RE.mono (Nat.le_add_right M 50) ⟨n, h, q, b, t, kb, K, S, F, V, ht, r⟩)⟩
    refine q_iload_n (pc2 := 973) C 4 dL_rigs_972 rfl rfl rfl ?_
    refine q_iconst (v := nI 3) (pc2 := 974) C dL_rigs_973 (by decide) rfl ?_
    refine q_ishr (v := (y >>> (nI 3 &&& 31))) (pc2 := 975) C dL_rigs_974 (rfl) rfl ?_
    refine q_bipush (v := nI 20) (pc2 := 977) C dL_rigs_975 (by decide) rfl ?_
    refine q_some (pc2 := 980) C (v := (y >>> (nI 3 &&& 31))) 20 (by omega) (by omega) (va_cwS 2 C.w gL_rigs_L_some rfl rfl rfl (by decide +kernel) ⟨Nat.le_of_ble_eq_true rfl, Nat.le_of_ble_eq_true rfl⟩) dL_rigs_977 rfl ⟨Nat.le_of_ble_eq_true rfl, Nat.le_of_ble_eq_true rfl⟩ (Nat.le_of_ble_eq_true rfl) (fun m977 hm977 => ?_)
    refine q_if_ne (tgt := 988) (pc2 := 983) C dL_rigs_980 (by decide) rfl (fun c980 => ?_) (fun c980 => ?_)
    · skip
      have k980 : m977 ≠ 0 := fun z => c980 ((nI_eq (a := m977) (b := 0) (by omega) (by omega)).mpr z)
      refine q_iload_n (pc2 := 989) C 4 dL_rigs_988 rfl rfl rfl ?_
      refine q_iconst (v := nI 3) (pc2 := 990) C dL_rigs_989 (by decide) rfl ?_
      refine q_ishr (v := (y >>> (nI 3 &&& 31))) (pc2 := 991) C dL_rigs_990 (rfl) rfl ?_
      refine q_iconst (v := nI 5) (pc2 := 992) C dL_rigs_991 (by decide) rfl ?_
      refine q_some (pc2 := 995) C (v := (y >>> (nI 3 &&& 31))) 5 (by omega) (by omega) (va_cwS 2 C.w gL_rigs_L_some rfl rfl rfl (by decide +kernel) ⟨Nat.le_of_ble_eq_true rfl, Nat.le_of_ble_eq_true rfl⟩) dL_rigs_992 rfl ⟨Nat.le_of_ble_eq_true rfl, Nat.le_of_ble_eq_true rfl⟩ (Nat.le_of_ble_eq_true rfl) (fun m992 hm992 => ?_)
      refine q_if_ne (tgt := 1002) (pc2 := 998) C dL_rigs_995 (by decide) rfl (fun c995 => ?_) (fun c995 => ?_)
      · skip
        have k995 : m992 ≠ 0 := fun z => c995 ((nI_eq (a := m992) (b := 0) (by omega) (by omega)).mpr z)
        refine q_iload_n (pc2 := 1003) C 4 dL_rigs_1002 rfl rfl rfl ?_
        refine q_iconst (v := nI 5) (pc2 := 1004) C dL_rigs_1003 (by decide) rfl ?_
        refine q_ishr (v := (y >>> (nI 5 &&& 31))) (pc2 := 1005) C dL_rigs_1004 (rfl) rfl ?_
        refine q_bipush (v := nI 30) (pc2 := 1007) C dL_rigs_1005 (by decide) rfl ?_
        refine q_some (pc2 := 1010) C (v := (y >>> (nI 5 &&& 31))) 30 (by omega) (by omega) (va_cwS 2 C.w gL_rigs_L_some rfl rfl rfl (by decide +kernel) ⟨Nat.le_of_ble_eq_true rfl, Nat.le_of_ble_eq_true rfl⟩) dL_rigs_1007 rfl ⟨Nat.le_of_ble_eq_true rfl, Nat.le_of_ble_eq_true rfl⟩ (Nat.le_of_ble_eq_true rfl) (fun m1007 hm1007 => ?_)
        exact hj1010 (nI m1007) (Or.inr ⟨m1007, by omega, rfl⟩)
      · skip
        have k995 : m992 = 0 := (nI_eq (a := m992) (b := 0) (by omega) (by omega)).mp (c995)
        refine q_iconst (v := (-1)) (pc2 := 999) C dL_rigs_998 (by decide) rfl ?_
        refine q_goto (pc2 := 1010) C dL_rigs_999 (by decide) ?_
        exact hj1010 (-1) (Or.inl rfl)
    · skip
      have k980 : m977 = 0 := (nI_eq (a := m977) (b := 0) (by omega) (by omega)).mp (c980)
      refine q_bipush (v := nI 100) (pc2 := 985) C dL_rigs_983 (by decide) rfl ?_
      refine q_goto (pc2 := 1010) C dL_rigs_985 (by decide) ?_
      exact hj1010 (nI 100) (Or.inr ⟨100, by omega, rfl⟩)
  refine q_iload_n (pc2 := 1) C 2 dL_rigs_0 rfl rfl rfl ?_
  refine q_aload_n (pc2 := 2) C 3 dL_rigs_1 rfl rfl rfl ?_
  refine q_iconst (v := nI 3) (pc2 := 3) C dL_rigs_2 (by decide) rfl ?_
  refine q_iald (q0 := 26) (f := fc) (pc2 := 4) C 3 (wT_g0 ct a x fc fb fp fq fn fl) rfl (rfl) (by decide) (by decide) dL_rigs_3 rfl ?_
  refine q_eqi (y := nI n) (hc3) ?_
  refine q_iconst (v := nI 1) (pc2 := 5) C dL_rigs_4 (by decide) rfl ?_
  refine q_iadd (v := nI (n + 1)) (pc2 := 6) C dL_rigs_5 (nI_add n 1) rfl ?_
  refine q_some (pc2 := 9) C (v := y) (n + 1) (by omega) (by omega) (va_cwS 2 C.w gL_rigs_L_some rfl rfl rfl (by decide +kernel) ⟨Nat.le_of_ble_eq_true rfl, Nat.le_of_ble_eq_true rfl⟩) dL_rigs_6 rfl ⟨Nat.le_of_ble_eq_true rfl, Nat.le_of_ble_eq_true rfl⟩ (Nat.le_of_ble_eq_true rfl) (fun m6 hm6 => ?_)
  have hj26 : ∀ e1 : Nat, (e1 ≤ 1) → Cf p l e ({ frames := 9, cells := 2, slots := 12, locals := 162 }) s m args below meth c D A 14 0 0 Q 26 [(0, .ref (a 30)), (1, .int (nI 5)), (2, .int y), (3, .ref (a 40)), (4, .ref (a 41)), (5, .ref (a 42))] [.int (nI e1), .int (nI m6)] (wT ct a x fc fb fp fq fn fl) := by
    intro e1 he1
    rcases pick_lamp hn5 hm6 he1 with ⟨i, hi, ei⟩ | hv
    · skip
      refine q_isub (v := nI i) (pc2 := 27) C dL_rigs_26 (ei) rfl ?_
      refine q_istore (lv' := [(6, .int (nI i)), (0, .ref (a 30)), (1, .int (nI 5)), (2, .int y), (3, .ref (a 40)), (4, .ref (a 41)), (5, .ref (a 42))]) (pc2 := 29) C dL_rigs_27 (by decide) rfl rfl ?_
      refine q_iload (pc2 := 31) C 0 dL_rigs_29 rfl rfl ?_
      refine q_if_lt (tgt := 46) (pc2 := 34) C dL_rigs_31 (by decide) rfl (fun h9 => absurd h9 (nI_nlt (a := i) (b := 0) (by omega) (by omega))) (fun _ => ?_)
      refine q_iload (pc2 := 36) C 0 dL_rigs_34 rfl rfl ?_
      refine q_aload_n (pc2 := 37) C 4 dL_rigs_36 rfl rfl rfl ?_
      refine q_iconst (v := nI 3) (pc2 := 38) C dL_rigs_37 (by decide) rfl ?_
      refine q_iald (q0 := 26) (f := fc) (pc2 := 39) C 3 (wT_g0 ct a x fc fb fp fq fn fl) rfl (rfl) (by decide) (by decide) dL_rigs_38 rfl ?_
      refine q_eqi (y := nI n) (hc3) ?_
      refine q_icmp_ge (tgt := 46) (pc2 := 42) C dL_rigs_39 (by decide) rfl (fun h9 => absurd h9 (nI_ge (a := i) (b := n) (by omega) (by omega))) (fun _ => ?_)
      refine q_iconst (v := nI 1) (pc2 := 43) C dL_rigs_42 (by decide) rfl ?_
      refine q_goto (pc2 := 47) C dL_rigs_43 (by decide) ?_
      refine q_istore (lv' := [(7, .int (nI 1)), (6, .int (nI i)), (0, .ref (a 30)), (1, .int (nI 5)), (2, .int y), (3, .ref (a 40)), (4, .ref (a 41)), (5, .ref (a 42))]) (pc2 := 49) C dL_rigs_47 (by decide) rfl rfl ?_
      exact hA i hi
    · skip
      refine q_isub (v := (nI m6 - nI e1)) (pc2 := 27) C dL_rigs_26 (rfl) rfl ?_
      refine q_istore (lv' := [(6, .int (nI m6 - nI e1)), (0, .ref (a 30)), (1, .int (nI 5)), (2, .int y), (3, .ref (a 40)), (4, .ref (a 41)), (5, .ref (a 42))]) (pc2 := 29) C dL_rigs_27 (by decide) rfl rfl ?_
      refine q_iload (pc2 := 31) C 0 dL_rigs_29 rfl rfl ?_
      refine q_if_lt (tgt := 46) (pc2 := 34) C dL_rigs_31 (by decide) rfl (fun c31 => ?_) (fun c31 => ?_)
      · skip
        refine q_iconst (v := nI 0) (pc2 := 47) C dL_rigs_46 (by decide) rfl ?_
        refine q_istore (lv' := [(7, .int (nI 0)), (6, .int (nI m6 - nI e1)), (0, .ref (a 30)), (1, .int (nI 5)), (2, .int y), (3, .ref (a 40)), (4, .ref (a 41)), (5, .ref (a 42))]) (pc2 := 49) C dL_rigs_47 (by decide) rfl rfl ?_
        exact hB _ hv
      · skip
        refine q_iload (pc2 := 36) C 0 dL_rigs_34 rfl rfl ?_
        refine q_aload_n (pc2 := 37) C 4 dL_rigs_36 rfl rfl rfl ?_
        refine q_iconst (v := nI 3) (pc2 := 38) C dL_rigs_37 (by decide) rfl ?_
        refine q_iald (q0 := 26) (f := fc) (pc2 := 39) C 3 (wT_g0 ct a x fc fb fp fq fn fl) rfl (rfl) (by decide) (by decide) dL_rigs_38 rfl ?_
        refine q_eqi (y := nI n) (hc3) ?_
        refine q_icmp_ge (tgt := 46) (pc2 := 42) C dL_rigs_39 (by decide) rfl (fun _ => ?_) (fun h9 => absurd (Int32.not_lt.mp (fun z9 => hv ⟨Int32.not_lt.mp c31, z9⟩)) h9)
        refine q_iconst (v := nI 0) (pc2 := 47) C dL_rigs_46 (by decide) rfl ?_
        refine q_istore (lv' := [(7, .int (nI 0)), (6, .int (nI m6 - nI e1)), (0, .ref (a 30)), (1, .int (nI 5)), (2, .int y), (3, .ref (a 40)), (4, .ref (a 41)), (5, .ref (a 42))]) (pc2 := 49) C dL_rigs_47 (by decide) rfl rfl ?_
        exact hB _ hv
  refine q_iload_n (pc2 := 10) C 2 dL_rigs_9 rfl rfl rfl ?_
  refine q_bipush (v := nI 11) (pc2 := 12) C dL_rigs_10 (by decide) rfl ?_
  refine q_ishr (v := (y >>> (nI 11 &&& 31))) (pc2 := 13) C dL_rigs_12 (rfl) rfl ?_
  refine q_bipush (v := nI 19) (pc2 := 15) C dL_rigs_13 (by decide) rfl ?_
  refine q_some (pc2 := 18) C (v := (y >>> (nI 11 &&& 31))) 19 (by omega) (by omega) (va_cwS 2 C.w gL_rigs_L_some rfl rfl rfl (by decide +kernel) ⟨Nat.le_of_ble_eq_true rfl, Nat.le_of_ble_eq_true rfl⟩) dL_rigs_15 rfl ⟨Nat.le_of_ble_eq_true rfl, Nat.le_of_ble_eq_true rfl⟩ (Nat.le_of_ble_eq_true rfl) (fun m15 hm15 => ?_)
  refine q_if_ne (tgt := 25) (pc2 := 21) C dL_rigs_18 (by decide) rfl (fun c18 => ?_) (fun c18 => ?_)
  · skip
    have k18 : m15 ≠ 0 := fun z => c18 ((nI_eq (a := m15) (b := 0) (by omega) (by omega)).mpr z)
    refine q_iconst (v := nI 0) (pc2 := 26) C dL_rigs_25 (by decide) rfl ?_
    exact hj26 0 (by omega)
  · skip
    have k18 : m15 = 0 := (nI_eq (a := m15) (b := 0) (by omega) (by omega)).mp (c18)
    refine q_iconst (v := nI 1) (pc2 := 22) C dL_rigs_21 (by decide) rfl ?_
    refine q_goto (pc2 := 26) C dL_rigs_22 (by decide) ?_
    exact hj26 1 (by omega)

set_option maxHeartbeats 4000000 in
set_option maxRecDepth 100000 in
theorem c_L_rigs_6 (l : Launch) (D : va_G) (ct : Nat → ClassId) (hl : l.stackTraces = false) (a : Nat → Nat) (x : Nat → Nat → Int32) (fc fb fp fq fn fl : Nat → Int32) (y : Int32) (M : Nat) (r0 : RE M x fc fb fp fq fn fl) : qM l yL_rigs wsL_rigs ({ frames := 9, cells := 2, slots := 12, locals := 158 }) D ct [.ref (a 30), .int (nI 6), .int y, .ref (a 40), .ref (a 41), .ref (a 42)] (wT ct a x fc fb fp fq fn fl) (pR ct a (M + 50)) 2 12 := by
  refine q_start (ret := some .boolean) (lv := [(0, .ref (a 30)), (1, .int (nI 6)), (2, .int y), (3, .ref (a 40)), (4, .ref (a 41)), (5, .ref (a 42))]) (by decide +kernel) rfl (Nat.le_of_ble_eq_true rfl) rfl ?_
  intro p e s m args below meth c A Q C hQ hnm
  obtain ⟨n, h, q, b, t, kb, K, S, F, V, ht, r⟩ := r0
  obtain ⟨rh, rl, rr, rp, rc, rs, hbq⟩ := id r
  obtain ⟨hlt, hx4, hc0, hkbs, hlen⟩ := id rh
  obtain ⟨hn5, hx0, hc3, hlow, hall, hhigh⟩ := id rl
  obtain ⟨hq4, hx16, hc4, hcue, hfd, hnam, hnaz⟩ := id rc
  obtain ⟨hx22, hc5, hx21, hc7, hc6, hx23, hfl, hlvr, hlev⟩ := id rs
  obtain ⟨hkb2, hx5, hck⟩ := hkbs h hlt
  have hK : ∀ k, k < n → fp k = nI (K k) ∧ K k < 4 := fun k hk => ⟨(hlow k hk).2.1, (hlow k hk).1⟩
  have hb4 : b ≤ 4 := by omega
  have hA : ∀ i, i < n → Cf p l e ({ frames := 9, cells := 2, slots := 12, locals := 158 }) s m args below meth c D A 14 0 0 Q 49 [(7, .int (nI 1)), (6, .int (nI i)), (0, .ref (a 30)), (1, .int (nI 6)), (2, .int y), (3, .ref (a 40)), (4, .ref (a 41)), (5, .ref (a 42))] [] (wT ct a x fc fb fp fq fn fl) := by
    intro i hi
    refine q_iload_n (pc2 := 50) C 3 dL_rigs_49 rfl rfl rfl ?_
    refine q_if_ne (tgt := 267) (pc2 := 53) C dL_rigs_50 (by decide) rfl (fun _ => ?_) (fun h9 => absurd h9 (by decide))
    refine q_iload_n (pc2 := 268) C 3 dL_rigs_267 rfl rfl rfl ?_
    refine q_iconst (v := nI 1) (pc2 := 269) C dL_rigs_268 (by decide) rfl ?_
    refine q_icmp_ne (tgt := 448) (pc2 := 272) C dL_rigs_269 (by decide) rfl (fun _ => ?_) (fun h9 => absurd h9 (by decide))
    refine q_iload_n (pc2 := 449) C 3 dL_rigs_448 rfl rfl rfl ?_
    refine q_iconst (v := nI 2) (pc2 := 450) C dL_rigs_449 (by decide) rfl ?_
    refine q_icmp_ne (tgt := 628) (pc2 := 453) C dL_rigs_450 (by decide) rfl (fun _ => ?_) (fun h9 => absurd h9 (by decide))
    refine q_iload_n (pc2 := 629) C 3 dL_rigs_628 rfl rfl rfl ?_
    refine q_iconst (v := nI 3) (pc2 := 630) C dL_rigs_629 (by decide) rfl ?_
    refine q_icmp_ne (tgt := 694) (pc2 := 633) C dL_rigs_630 (by decide) rfl (fun _ => ?_) (fun h9 => absurd h9 (by decide))
    refine q_iload_n (pc2 := 695) C 3 dL_rigs_694 rfl rfl rfl ?_
    refine q_iconst (v := nI 4) (pc2 := 696) C dL_rigs_695 (by decide) rfl ?_
    refine q_icmp_ne (tgt := 967) (pc2 := 699) C dL_rigs_696 (by decide) rfl (fun _ => ?_) (fun h9 => absurd h9 (by decide))
    refine q_iload_n (pc2 := 968) C 3 dL_rigs_967 rfl rfl rfl ?_
    refine q_iconst (v := nI 5) (pc2 := 969) C dL_rigs_968 (by decide) rfl ?_
    refine q_icmp_ne (tgt := 1190) (pc2 := 972) C dL_rigs_969 (by decide) rfl (fun _ => ?_) (fun h9 => absurd h9 (by decide))
    have hj1214 : ∀ ci : Int32, (ci = -1 ∨ ∃ m, m ≤ 4 ∧ ci = nI m) → Cf p l e ({ frames := 9, cells := 2, slots := 12, locals := 158 }) s m args below meth c D A 14 0 0 Q 1214 [(7, .int (nI 1)), (6, .int (nI i)), (0, .ref (a 30)), (1, .int (nI 6)), (2, .int y), (3, .ref (a 40)), (4, .ref (a 41)), (5, .ref (a 42))] [.int ci] (wT ct a x fc fb fp fq fn fl) := by
      intro ci hci
      refine q_istore (lv' := [(8, .int ci), (7, .int (nI 1)), (6, .int (nI i)), (0, .ref (a 30)), (1, .int (nI 6)), (2, .int y), (3, .ref (a 40)), (4, .ref (a 41)), (5, .ref (a 42))]) (pc2 := 1216) C dL_rigs_1214 (by decide) rfl rfl ?_
      refine q_iload (pc2 := 1218) C 1 dL_rigs_1216 rfl rfl ?_
      refine q_if_eq (tgt := 1227) (pc2 := 1221) C dL_rigs_1218 (by decide) rfl (fun h9 => absurd h9 (by decide)) (fun _ => ?_)
      refine q_iload (pc2 := 1223) C 0 dL_rigs_1221 rfl rfl ?_
      refine q_iconst (v := nI 3) (pc2 := 1224) C dL_rigs_1223 (by decide) rfl ?_
      refine q_icmp_le (tgt := 1232) (pc2 := 1227) C dL_rigs_1224 (by decide) rfl (fun c1224 => ?_) (fun c1224 => ?_)
      · skip
        have hci2 : ci = -1 ∨ ∃ m, m < 4 ∧ ci = nI m := by
          rcases hci with w | ⟨m, hm, w⟩
          · exact Or.inl w
          · rw [w] at c1224; have h9 := (nI_leI (b := 3) (by omega) (by omega)).mp c1224; exact Or.inr ⟨m, by omega, w⟩
        have hc4x : ci = -1 ∨ (0 ≤ ci ∧ ci < 4) := hci2.elim Or.inl (fun ⟨m, hm, w⟩ => Or.inr (by rw [w]; exact ⟨nI_pos' (by omega), nI_lt (b := 4) (by omega) (by omega)⟩))
        have hp9 : ¬ fp (25 + i) ≤ -2 := by
          rcases (rr.1 i hi).2.2 with w | ⟨m, hm, w⟩
          · rw [w]; decide
          · rw [w]; exact fun z => nI_pos (by omega) (Int32.lt_of_le_of_lt z (by decide))
        refine q_aload (pc2 := 1234) C 8 dL_rigs_1232 rfl rfl ?_
        refine q_bipush (v := nI 25) (pc2 := 1236) C dL_rigs_1234 (by decide) rfl ?_
        refine q_iload (pc2 := 1238) C 2 dL_rigs_1236 rfl rfl ?_
        refine q_iadd (v := nI (25 + i)) (pc2 := 1239) C dL_rigs_1238 (nI_add 25 i) rfl ?_
        refine q_iald (q0 := 28) (f := fp) (pc2 := 1240) C (25 + i) (wT_g2 ct a x fc fb fp fq fn fl) rfl (rfl) (by omega) (by decide) dL_rigs_1239 rfl ?_
        refine q_istore (lv' := [(9, .int (fp (25 + i))), (8, .int ci), (7, .int (nI 1)), (6, .int (nI i)), (0, .ref (a 30)), (1, .int (nI 6)), (2, .int y), (3, .ref (a 40)), (4, .ref (a 41)), (5, .ref (a 42))]) (pc2 := 1242) C dL_rigs_1240 (by decide) rfl rfl ?_
        refine q_iload (pc2 := 1244) C 0 dL_rigs_1242 rfl rfl ?_
        refine q_bipush (v := (-2)) (pc2 := 1246) C dL_rigs_1244 (by decide) rfl ?_
        refine q_icmp_le (tgt := 1259) (pc2 := 1249) C dL_rigs_1246 (by decide) rfl (fun h9 => absurd h9 (hp9)) (fun _ => ?_)
        refine q_aload (pc2 := 1251) C 9 dL_rigs_1249 rfl rfl ?_
        refine q_bipush (v := nI 25) (pc2 := 1253) C dL_rigs_1251 (by decide) rfl ?_
        refine q_iload (pc2 := 1255) C 3 dL_rigs_1253 rfl rfl ?_
        refine q_iadd (v := nI (25 + i)) (pc2 := 1256) C dL_rigs_1255 (nI_add 25 i) rfl ?_
        refine q_iload (pc2 := 1258) C 1 dL_rigs_1256 rfl rfl ?_
        refine q_iast (q0 := 28) (f := fp) (ws' := (wT ct a x fc fb (upd fp (25 + i) ci) fq fn fl)) (pc2 := 1259) C (25 + i) (wT_g2 ct a x fc fb fp fq fn fl) rfl (rfl) (by omega) (by decide) (wT_a2 ct a x fc fb fp fq fn fl (upd fp (25 + i) ci)) dL_rigs_1258 rfl ?_
        refine q_aload_n (pc2 := 1260) C 4 dL_rigs_1259 rfl rfl rfl ?_
        refine q_iconst (v := nI 3) (pc2 := 1261) C dL_rigs_1260 (by decide) rfl ?_
        refine q_iload (pc2 := 1263) C 3 dL_rigs_1261 rfl rfl ?_
        refine q_iload (pc2 := 1265) C 1 dL_rigs_1263 rfl rfl ?_
        have hM := c_X3_plug l hl D ct a x n hx0 (by omega) (nI i) ci
        rw [hx0] at hM
        rw [nI_clamp (show i < 2 ^ 31 by omega)] at hM
        refine q_Hok_wT (pc2 := 1268) (As := [.ref (a 30), .int (nI 3), .int (nI i), .int ci]) (st := []) (st2 := [.int (x 14 i)]) (x' := (set2 x 14 (upd (x 14) i ci))) C (c_L_of3 l D ct a x _ (nI i) ci _ _ hM) (by rw [if_pos (show 0 ≤ nI i ∧ nI i < nI n from ⟨nI_pos' (by omega), nI_lt hi (by omega)⟩), if_pos hc4x]) (vx_cwSW 4 C.w gL_rigs_L_of rfl rfl rfl (by decide +kernel) ⟨Nat.le_of_ble_eq_true rfl, Nat.le_of_ble_eq_true rfl⟩) dL_rigs_1265 rfl rfl (Nat.le_of_ble_eq_true rfl) ⟨Nat.zero_le _, Nat.zero_le _⟩ rfl rfl ?_
        refine q_iload (pc2 := 1270) C 0 dL_rigs_1268 rfl rfl ?_
        refine q_icmp_ne (tgt := 1277) (pc2 := 1273) C dL_rigs_1270 (by decide) rfl (fun h9 => absurd ((hlow i hi).2.2.2.2.2.2.2.2) h9) (fun _ => ?_)
        refine q_iconst (v := nI 1) (pc2 := 1274) C dL_rigs_1273 (by decide) rfl ?_
        refine q_goto (pc2 := 1278) C dL_rigs_1274 (by decide) ?_
        exact q_zret C hQ rfl (rfl) (Nat.zero_le _) (Nat.zero_le _) dL_rigs_1278 ⟨rfl, _, _, _, _, _, _, _, rfl, ⟨n, h, q, b, t, kb, K, S, F, V, Nat.le_trans ht (Nat.le_add_right M 50), st_plug r hi hci2⟩⟩
      · skip
        refine q_bipush (v := (-101)) (pc2 := 1229) C dL_rigs_1227 (by decide) rfl ?_
        refine q_goto (pc2 := 1240) C dL_rigs_1229 (by decide) ?_
        refine q_istore (lv' := [(9, .int (-101)), (8, .int ci), (7, .int (nI 1)), (6, .int (nI i)), (0, .ref (a 30)), (1, .int (nI 6)), (2, .int y), (3, .ref (a 40)), (4, .ref (a 41)), (5, .ref (a 42))]) (pc2 := 1242) C dL_rigs_1240 (by decide) rfl rfl ?_
        refine q_iload (pc2 := 1244) C 0 dL_rigs_1242 rfl rfl ?_
        refine q_bipush (v := (-2)) (pc2 := 1246) C dL_rigs_1244 (by decide) rfl ?_
        refine q_icmp_le (tgt := 1259) (pc2 := 1249) C dL_rigs_1246 (by decide) rfl (fun _ => ?_) (fun h9 => absurd (by decide) h9)
        refine q_aload_n (pc2 := 1260) C 4 dL_rigs_1259 rfl rfl rfl ?_
        refine q_iconst (v := nI 3) (pc2 := 1261) C dL_rigs_1260 (by decide) rfl ?_
        refine q_iload (pc2 := 1263) C 3 dL_rigs_1261 rfl rfl ?_
        refine q_iload (pc2 := 1265) C 1 dL_rigs_1263 rfl rfl ?_
        have hM := c_X3_plug l hl D ct a x n hx0 (by omega) (nI i) ci
        rw [hx0] at hM
        rw [nI_clamp (show i < 2 ^ 31 by omega)] at hM
        refine q_Hno_wT (pc2 := 1268) (As := [.ref (a 30), .int (nI 3), .int (nI i), .int ci]) (st := []) (st2 := [.int (-101)]) (c2 := 1) (s2 := 6) C (c_L_of3 l D ct a x _ (nI i) ci _ _ hM) (by rw [if_pos (show 0 ≤ nI i ∧ nI i < nI n from ⟨nI_pos' (by omega), nI_lt hi (by omega)⟩), if_neg (fun z : ci = -1 ∨ (0 ≤ ci ∧ ci < 4) => z.elim (fun w => c1224 (by rw [w]; decide)) (fun w => by rcases hci with w2 | ⟨m, hm, w2⟩; exact c1224 (by rw [w2]; decide); rw [w2] at w c1224; have h8 := (nI_ltI (b := 4) (by omega) (by omega)).mp w.2; exact c1224 (nI_le (b := 3) (by omega) (by omega))))]) (by decide +kernel) (vx_cwSW 4 C.w gL_rigs_L_of rfl rfl rfl (by decide +kernel) ⟨Nat.le_of_ble_eq_true rfl, Nat.le_of_ble_eq_true rfl⟩) dL_rigs_1265 rfl rfl (Nat.le_of_ble_eq_true rfl) ⟨Nat.le_of_ble_eq_true rfl, Nat.le_of_ble_eq_true rfl⟩ rfl rfl (by decide) rfl rfl ?_
        refine q_iload (pc2 := 1270) C 0 dL_rigs_1268 rfl rfl ?_
        refine q_icmp_ne (tgt := 1277) (pc2 := 1273) C dL_rigs_1270 (by decide) rfl (fun h9 => absurd (by decide) h9) (fun _ => ?_)
        refine q_iconst (v := nI 1) (pc2 := 1274) C dL_rigs_1273 (by decide) rfl ?_
        refine q_goto (pc2 := 1278) C dL_rigs_1274 (by decide) ?_
        exact q_zret C hQ rfl (rfl) (by omega) (by omega) dL_rigs_1278 ⟨rfl, _, _, _, _, _, _, _, rfl, (RE.mono (Nat.le_add_right M 50) ⟨n, h, q, b, t, kb, K, S, F, V, ht, r⟩)⟩
    refine q_iload_n (pc2 := 1191) C 4 dL_rigs_1190 rfl rfl rfl ?_
    refine q_iconst (v := nI 3) (pc2 := 1192) C dL_rigs_1191 (by decide) rfl ?_
    refine q_ishr (v := (y >>> (nI 3 &&& 31))) (pc2 := 1193) C dL_rigs_1192 (rfl) rfl ?_
    refine q_bipush (v := nI 20) (pc2 := 1195) C dL_rigs_1193 (by decide) rfl ?_
    refine q_some (pc2 := 1198) C (v := (y >>> (nI 3 &&& 31))) 20 (by omega) (by omega) (va_cwS 2 C.w gL_rigs_L_some rfl rfl rfl (by decide +kernel) ⟨Nat.le_of_ble_eq_true rfl, Nat.le_of_ble_eq_true rfl⟩) dL_rigs_1195 rfl ⟨Nat.le_of_ble_eq_true rfl, Nat.le_of_ble_eq_true rfl⟩ (Nat.le_of_ble_eq_true rfl) (fun m1195 hm1195 => ?_)
    refine q_if_ne (tgt := 1205) (pc2 := 1201) C dL_rigs_1198 (by decide) rfl (fun c1198 => ?_) (fun c1198 => ?_)
    · skip
      have k1198 : m1195 ≠ 0 := fun z => c1198 ((nI_eq (a := m1195) (b := 0) (by omega) (by omega)).mpr z)
      refine q_iload_n (pc2 := 1206) C 4 dL_rigs_1205 rfl rfl rfl ?_
      refine q_iconst (v := nI 3) (pc2 := 1207) C dL_rigs_1206 (by decide) rfl ?_
      refine q_ishr (v := (y >>> (nI 3 &&& 31))) (pc2 := 1208) C dL_rigs_1207 (rfl) rfl ?_
      refine q_iconst (v := nI 5) (pc2 := 1209) C dL_rigs_1208 (by decide) rfl ?_
      refine q_some (pc2 := 1212) C (v := (y >>> (nI 3 &&& 31))) 5 (by omega) (by omega) (va_cwS 2 C.w gL_rigs_L_some rfl rfl rfl (by decide +kernel) ⟨Nat.le_of_ble_eq_true rfl, Nat.le_of_ble_eq_true rfl⟩) dL_rigs_1209 rfl ⟨Nat.le_of_ble_eq_true rfl, Nat.le_of_ble_eq_true rfl⟩ (Nat.le_of_ble_eq_true rfl) (fun m1209 hm1209 => ?_)
      refine q_iconst (v := nI 1) (pc2 := 1213) C dL_rigs_1212 (by decide) rfl ?_
      refine q_isub (v := (nI m1209 - nI 1)) (pc2 := 1214) C dL_rigs_1213 (rfl) rfl ?_
      exact hj1214 (nI m1209 - nI 1) (by rcases Nat.eq_zero_or_pos m1209 with w | w; subst w; exact Or.inl (by decide); exact Or.inr ⟨m1209 - 1, by omega, pk_sub w⟩)
    · skip
      have k1198 : m1195 = 0 := (nI_eq (a := m1195) (b := 0) (by omega) (by omega)).mp (c1198)
      refine q_iconst (v := nI 4) (pc2 := 1202) C dL_rigs_1201 (by decide) rfl ?_
      refine q_goto (pc2 := 1214) C dL_rigs_1202 (by decide) ?_
      exact hj1214 (nI 4) (Or.inr ⟨4, by omega, rfl⟩)
  have hB : ∀ v : Int32, ¬ (0 ≤ v ∧ v < nI n) → Cf p l e ({ frames := 9, cells := 2, slots := 12, locals := 158 }) s m args below meth c D A 14 0 0 Q 49 [(7, .int (nI 0)), (6, .int v), (0, .ref (a 30)), (1, .int (nI 6)), (2, .int y), (3, .ref (a 40)), (4, .ref (a 41)), (5, .ref (a 42))] [] (wT ct a x fc fb fp fq fn fl) := by
    intro v hv
    refine q_iload_n (pc2 := 50) C 3 dL_rigs_49 rfl rfl rfl ?_
    refine q_if_ne (tgt := 267) (pc2 := 53) C dL_rigs_50 (by decide) rfl (fun _ => ?_) (fun h9 => absurd h9 (by decide))
    refine q_iload_n (pc2 := 268) C 3 dL_rigs_267 rfl rfl rfl ?_
    refine q_iconst (v := nI 1) (pc2 := 269) C dL_rigs_268 (by decide) rfl ?_
    refine q_icmp_ne (tgt := 448) (pc2 := 272) C dL_rigs_269 (by decide) rfl (fun _ => ?_) (fun h9 => absurd h9 (by decide))
    refine q_iload_n (pc2 := 449) C 3 dL_rigs_448 rfl rfl rfl ?_
    refine q_iconst (v := nI 2) (pc2 := 450) C dL_rigs_449 (by decide) rfl ?_
    refine q_icmp_ne (tgt := 628) (pc2 := 453) C dL_rigs_450 (by decide) rfl (fun _ => ?_) (fun h9 => absurd h9 (by decide))
    refine q_iload_n (pc2 := 629) C 3 dL_rigs_628 rfl rfl rfl ?_
    refine q_iconst (v := nI 3) (pc2 := 630) C dL_rigs_629 (by decide) rfl ?_
    refine q_icmp_ne (tgt := 694) (pc2 := 633) C dL_rigs_630 (by decide) rfl (fun _ => ?_) (fun h9 => absurd h9 (by decide))
    refine q_iload_n (pc2 := 695) C 3 dL_rigs_694 rfl rfl rfl ?_
    refine q_iconst (v := nI 4) (pc2 := 696) C dL_rigs_695 (by decide) rfl ?_
    refine q_icmp_ne (tgt := 967) (pc2 := 699) C dL_rigs_696 (by decide) rfl (fun _ => ?_) (fun h9 => absurd h9 (by decide))
    refine q_iload_n (pc2 := 968) C 3 dL_rigs_967 rfl rfl rfl ?_
    refine q_iconst (v := nI 5) (pc2 := 969) C dL_rigs_968 (by decide) rfl ?_
    refine q_icmp_ne (tgt := 1190) (pc2 := 972) C dL_rigs_969 (by decide) rfl (fun _ => ?_) (fun h9 => absurd h9 (by decide))
    have hj1214 : ∀ ci : Int32, (ci = -1 ∨ ∃ m, m ≤ 4 ∧ ci = nI m) → Cf p l e ({ frames := 9, cells := 2, slots := 12, locals := 158 }) s m args below meth c D A 14 0 0 Q 1214 [(7, .int (nI 0)), (6, .int v), (0, .ref (a 30)), (1, .int (nI 6)), (2, .int y), (3, .ref (a 40)), (4, .ref (a 41)), (5, .ref (a 42))] [.int ci] (wT ct a x fc fb fp fq fn fl) := by
      intro ci hci
      refine q_istore (lv' := [(8, .int ci), (7, .int (nI 0)), (6, .int v), (0, .ref (a 30)), (1, .int (nI 6)), (2, .int y), (3, .ref (a 40)), (4, .ref (a 41)), (5, .ref (a 42))]) (pc2 := 1216) C dL_rigs_1214 (by decide) rfl rfl ?_
      refine q_iload (pc2 := 1218) C 1 dL_rigs_1216 rfl rfl ?_
      refine q_if_eq (tgt := 1227) (pc2 := 1221) C dL_rigs_1218 (by decide) rfl (fun _ => ?_) (fun h9 => absurd (by decide) h9)
      refine q_bipush (v := (-101)) (pc2 := 1229) C dL_rigs_1227 (by decide) rfl ?_
      refine q_goto (pc2 := 1240) C dL_rigs_1229 (by decide) ?_
      refine q_istore (lv' := [(9, .int (-101)), (8, .int ci), (7, .int (nI 0)), (6, .int v), (0, .ref (a 30)), (1, .int (nI 6)), (2, .int y), (3, .ref (a 40)), (4, .ref (a 41)), (5, .ref (a 42))]) (pc2 := 1242) C dL_rigs_1240 (by decide) rfl rfl ?_
      refine q_iload (pc2 := 1244) C 0 dL_rigs_1242 rfl rfl ?_
      refine q_bipush (v := (-2)) (pc2 := 1246) C dL_rigs_1244 (by decide) rfl ?_
      refine q_icmp_le (tgt := 1259) (pc2 := 1249) C dL_rigs_1246 (by decide) rfl (fun _ => ?_) (fun h9 => absurd (by decide) h9)
      refine q_aload_n (pc2 := 1260) C 4 dL_rigs_1259 rfl rfl rfl ?_
      refine q_iconst (v := nI 3) (pc2 := 1261) C dL_rigs_1260 (by decide) rfl ?_
      refine q_iload (pc2 := 1263) C 3 dL_rigs_1261 rfl rfl ?_
      refine q_iload (pc2 := 1265) C 1 dL_rigs_1263 rfl rfl ?_
      have hM := c_X3_plug l hl D ct a x n hx0 (by omega) (v) ci
      rw [hx0] at hM
      refine q_Hno_wT (pc2 := 1268) (As := [.ref (a 30), .int (nI 3), .int v, .int ci]) (st := []) (st2 := [.int (-101)]) (c2 := 1) (s2 := 6) C (c_L_of3 l D ct a x _ (v) ci _ _ hM) (if_neg hv) (by decide +kernel) (vx_cwSW 4 C.w gL_rigs_L_of rfl rfl rfl (by decide +kernel) ⟨Nat.le_of_ble_eq_true rfl, Nat.le_of_ble_eq_true rfl⟩) dL_rigs_1265 rfl rfl (Nat.le_of_ble_eq_true rfl) ⟨Nat.le_of_ble_eq_true rfl, Nat.le_of_ble_eq_true rfl⟩ rfl rfl (by decide) rfl rfl ?_
      refine q_iload (pc2 := 1270) C 0 dL_rigs_1268 rfl rfl ?_
      refine q_icmp_ne (tgt := 1277) (pc2 := 1273) C dL_rigs_1270 (by decide) rfl (fun h9 => absurd (by decide) h9) (fun _ => ?_)
      refine q_iconst (v := nI 1) (pc2 := 1274) C dL_rigs_1273 (by decide) rfl ?_
      refine q_goto (pc2 := 1278) C dL_rigs_1274 (by decide) ?_
      exact q_zret C hQ rfl (rfl) (by omega) (by omega) dL_rigs_1278 ⟨rfl, _, _, _, _, _, _, _, rfl, (RE.mono (Nat.le_add_right M 50) ⟨n, h, q, b, t, kb, K, S, F, V, ht, r⟩)⟩
    refine q_iload_n (pc2 := 1191) C 4 dL_rigs_1190 rfl rfl rfl ?_
    refine q_iconst (v := nI 3) (pc2 := 1192) C dL_rigs_1191 (by decide) rfl ?_
    refine q_ishr (v := (y >>> (nI 3 &&& 31))) (pc2 := 1193) C dL_rigs_1192 (rfl) rfl ?_
    refine q_bipush (v := nI 20) (pc2 := 1195) C dL_rigs_1193 (by decide) rfl ?_
    refine q_some (pc2 := 1198) C (v := (y >>> (nI 3 &&& 31))) 20 (by omega) (by omega) (va_cwS 2 C.w gL_rigs_L_some rfl rfl rfl (by decide +kernel) ⟨Nat.le_of_ble_eq_true rfl, Nat.le_of_ble_eq_true rfl⟩) dL_rigs_1195 rfl ⟨Nat.le_of_ble_eq_true rfl, Nat.le_of_ble_eq_true rfl⟩ (Nat.le_of_ble_eq_true rfl) (fun m1195 hm1195 => ?_)
    refine q_if_ne (tgt := 1205) (pc2 := 1201) C dL_rigs_1198 (by decide) rfl (fun c1198 => ?_) (fun c1198 => ?_)
    · skip
      have k1198 : m1195 ≠ 0 := fun z => c1198 ((nI_eq (a := m1195) (b := 0) (by omega) (by omega)).mpr z)
      refine q_iload_n (pc2 := 1206) C 4 dL_rigs_1205 rfl rfl rfl ?_
      refine q_iconst (v := nI 3) (pc2 := 1207) C dL_rigs_1206 (by decide) rfl ?_
      refine q_ishr (v := (y >>> (nI 3 &&& 31))) (pc2 := 1208) C dL_rigs_1207 (rfl) rfl ?_
      refine q_iconst (v := nI 5) (pc2 := 1209) C dL_rigs_1208 (by decide) rfl ?_
      refine q_some (pc2 := 1212) C (v := (y >>> (nI 3 &&& 31))) 5 (by omega) (by omega) (va_cwS 2 C.w gL_rigs_L_some rfl rfl rfl (by decide +kernel) ⟨Nat.le_of_ble_eq_true rfl, Nat.le_of_ble_eq_true rfl⟩) dL_rigs_1209 rfl ⟨Nat.le_of_ble_eq_true rfl, Nat.le_of_ble_eq_true rfl⟩ (Nat.le_of_ble_eq_true rfl) (fun m1209 hm1209 => ?_)
      refine q_iconst (v := nI 1) (pc2 := 1213) C dL_rigs_1212 (by decide) rfl ?_
      refine q_isub (v := (nI m1209 - nI 1)) (pc2 := 1214) C dL_rigs_1213 (rfl) rfl ?_
      exact hj1214 (nI m1209 - nI 1) (by rcases Nat.eq_zero_or_pos m1209 with w | w; subst w; exact Or.inl (by decide); exact Or.inr ⟨m1209 - 1, by omega, pk_sub w⟩)
    · skip
      have k1198 : m1195 = 0 := (nI_eq (a := m1195) (b := 0) (by omega) (by omega)).mp (c1198)
      refine q_iconst (v := nI 4) (pc2 := 1202) C dL_rigs_1201 (by decide) rfl ?_
      refine q_goto (pc2 := 1214) C dL_rigs_1202 (by decide) ?_
      exact hj1214 (nI 4) (Or.inr ⟨4, by omega, rfl⟩)
  refine q_iload_n (pc2 := 1) C 2 dL_rigs_0 rfl rfl rfl ?_
  refine q_aload_n (pc2 := 2) C 3 dL_rigs_1 rfl rfl rfl ?_
  refine q_iconst (v := nI 3) (pc2 := 3) C dL_rigs_2 (by decide) rfl ?_
  refine q_iald (q0 := 26) (f := fc) (pc2 := 4) C 3 (wT_g0 ct a x fc fb fp fq fn fl) rfl (rfl) (by decide) (by decide) dL_rigs_3 rfl ?_
  refine q_eqi (y := nI n) (hc3) ?_
  refine q_iconst (v := nI 1) (pc2 := 5) C dL_rigs_4 (by decide) rfl ?_
  refine q_iadd (v := nI (n + 1)) (pc2 := 6) C dL_rigs_5 (nI_add n 1) rfl ?_
  refine q_some (pc2 := 9) C (v := y) (n + 1) (by omega) (by omega) (va_cwS 2 C.w gL_rigs_L_some rfl rfl rfl (by decide +kernel) ⟨Nat.le_of_ble_eq_true rfl, Nat.le_of_ble_eq_true rfl⟩) dL_rigs_6 rfl ⟨Nat.le_of_ble_eq_true rfl, Nat.le_of_ble_eq_true rfl⟩ (Nat.le_of_ble_eq_true rfl) (fun m6 hm6 => ?_)
  have hj26 : ∀ e1 : Nat, (e1 ≤ 1) → Cf p l e ({ frames := 9, cells := 2, slots := 12, locals := 158 }) s m args below meth c D A 14 0 0 Q 26 [(0, .ref (a 30)), (1, .int (nI 6)), (2, .int y), (3, .ref (a 40)), (4, .ref (a 41)), (5, .ref (a 42))] [.int (nI e1), .int (nI m6)] (wT ct a x fc fb fp fq fn fl) := by
    intro e1 he1
    rcases pick_lamp hn5 hm6 he1 with ⟨i, hi, ei⟩ | hv
    · skip
      refine q_isub (v := nI i) (pc2 := 27) C dL_rigs_26 (ei) rfl ?_
      refine q_istore (lv' := [(6, .int (nI i)), (0, .ref (a 30)), (1, .int (nI 6)), (2, .int y), (3, .ref (a 40)), (4, .ref (a 41)), (5, .ref (a 42))]) (pc2 := 29) C dL_rigs_27 (by decide) rfl rfl ?_
      refine q_iload (pc2 := 31) C 0 dL_rigs_29 rfl rfl ?_
      refine q_if_lt (tgt := 46) (pc2 := 34) C dL_rigs_31 (by decide) rfl (fun h9 => absurd h9 (nI_nlt (a := i) (b := 0) (by omega) (by omega))) (fun _ => ?_)
      refine q_iload (pc2 := 36) C 0 dL_rigs_34 rfl rfl ?_
      refine q_aload_n (pc2 := 37) C 4 dL_rigs_36 rfl rfl rfl ?_
      refine q_iconst (v := nI 3) (pc2 := 38) C dL_rigs_37 (by decide) rfl ?_
      refine q_iald (q0 := 26) (f := fc) (pc2 := 39) C 3 (wT_g0 ct a x fc fb fp fq fn fl) rfl (rfl) (by decide) (by decide) dL_rigs_38 rfl ?_
      refine q_eqi (y := nI n) (hc3) ?_
      refine q_icmp_ge (tgt := 46) (pc2 := 42) C dL_rigs_39 (by decide) rfl (fun h9 => absurd h9 (nI_ge (a := i) (b := n) (by omega) (by omega))) (fun _ => ?_)
      refine q_iconst (v := nI 1) (pc2 := 43) C dL_rigs_42 (by decide) rfl ?_
      refine q_goto (pc2 := 47) C dL_rigs_43 (by decide) ?_
      refine q_istore (lv' := [(7, .int (nI 1)), (6, .int (nI i)), (0, .ref (a 30)), (1, .int (nI 6)), (2, .int y), (3, .ref (a 40)), (4, .ref (a 41)), (5, .ref (a 42))]) (pc2 := 49) C dL_rigs_47 (by decide) rfl rfl ?_
      exact hA i hi
    · skip
      refine q_isub (v := (nI m6 - nI e1)) (pc2 := 27) C dL_rigs_26 (rfl) rfl ?_
      refine q_istore (lv' := [(6, .int (nI m6 - nI e1)), (0, .ref (a 30)), (1, .int (nI 6)), (2, .int y), (3, .ref (a 40)), (4, .ref (a 41)), (5, .ref (a 42))]) (pc2 := 29) C dL_rigs_27 (by decide) rfl rfl ?_
      refine q_iload (pc2 := 31) C 0 dL_rigs_29 rfl rfl ?_
      refine q_if_lt (tgt := 46) (pc2 := 34) C dL_rigs_31 (by decide) rfl (fun c31 => ?_) (fun c31 => ?_)
      · skip
        refine q_iconst (v := nI 0) (pc2 := 47) C dL_rigs_46 (by decide) rfl ?_
        refine q_istore (lv' := [(7, .int (nI 0)), (6, .int (nI m6 - nI e1)), (0, .ref (a 30)), (1, .int (nI 6)), (2, .int y), (3, .ref (a 40)), (4, .ref (a 41)), (5, .ref (a 42))]) (pc2 := 49) C dL_rigs_47 (by decide) rfl rfl ?_
        exact hB _ hv
      · skip
        refine q_iload (pc2 := 36) C 0 dL_rigs_34 rfl rfl ?_
        refine q_aload_n (pc2 := 37) C 4 dL_rigs_36 rfl rfl rfl ?_
        refine q_iconst (v := nI 3) (pc2 := 38) C dL_rigs_37 (by decide) rfl ?_
        refine q_iald (q0 := 26) (f := fc) (pc2 := 39) C 3 (wT_g0 ct a x fc fb fp fq fn fl) rfl (rfl) (by decide) (by decide) dL_rigs_38 rfl ?_
        refine q_eqi (y := nI n) (hc3) ?_
        refine q_icmp_ge (tgt := 46) (pc2 := 42) C dL_rigs_39 (by decide) rfl (fun _ => ?_) (fun h9 => absurd (Int32.not_lt.mp (fun z9 => hv ⟨Int32.not_lt.mp c31, z9⟩)) h9)
        refine q_iconst (v := nI 0) (pc2 := 47) C dL_rigs_46 (by decide) rfl ?_
        refine q_istore (lv' := [(7, .int (nI 0)), (6, .int (nI m6 - nI e1)), (0, .ref (a 30)), (1, .int (nI 6)), (2, .int y), (3, .ref (a 40)), (4, .ref (a 41)), (5, .ref (a 42))]) (pc2 := 49) C dL_rigs_47 (by decide) rfl rfl ?_
        exact hB _ hv
  refine q_iload_n (pc2 := 10) C 2 dL_rigs_9 rfl rfl rfl ?_
  refine q_bipush (v := nI 11) (pc2 := 12) C dL_rigs_10 (by decide) rfl ?_
  refine q_ishr (v := (y >>> (nI 11 &&& 31))) (pc2 := 13) C dL_rigs_12 (rfl) rfl ?_
  refine q_bipush (v := nI 19) (pc2 := 15) C dL_rigs_13 (by decide) rfl ?_
  refine q_some (pc2 := 18) C (v := (y >>> (nI 11 &&& 31))) 19 (by omega) (by omega) (va_cwS 2 C.w gL_rigs_L_some rfl rfl rfl (by decide +kernel) ⟨Nat.le_of_ble_eq_true rfl, Nat.le_of_ble_eq_true rfl⟩) dL_rigs_15 rfl ⟨Nat.le_of_ble_eq_true rfl, Nat.le_of_ble_eq_true rfl⟩ (Nat.le_of_ble_eq_true rfl) (fun m15 hm15 => ?_)
  refine q_if_ne (tgt := 25) (pc2 := 21) C dL_rigs_18 (by decide) rfl (fun c18 => ?_) (fun c18 => ?_)
  · skip
    have k18 : m15 ≠ 0 := fun z => c18 ((nI_eq (a := m15) (b := 0) (by omega) (by omega)).mpr z)
    refine q_iconst (v := nI 0) (pc2 := 26) C dL_rigs_25 (by decide) rfl ?_
    exact hj26 0 (by omega)
  · skip
    have k18 : m15 = 0 := (nI_eq (a := m15) (b := 0) (by omega) (by omega)).mp (c18)
    refine q_iconst (v := nI 1) (pc2 := 22) C dL_rigs_21 (by decide) rfl ?_
    refine q_goto (pc2 := 26) C dL_rigs_22 (by decide) ?_
    exact hj26 1 (by omega)

