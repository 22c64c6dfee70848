/-! the law's cases -/
set_option maxHeartbeats 4000000 in
set_option maxRecDepth 100000 in
theorem lc_wanted (l : Launch) (hl : l.stackTraces = false) {p : Program} {e : Env} {s : State} {m : MethodId} {args : Array Value} {below : List Frame} {meth : Method} {c : Code} {D : va_G} {ct : Nat → ClassId} {A : Nat → Prop} {Q : State → Prop} (C : Cx p s m args c meth cL_law 7 (some .boolean) wsL_law RL D ct A) {sb L : Nat} {xs : Nat → Int32} (hX : va_X sb L xs s s.heap) (hbl : sb < s.heap.size) (hbA : ¬ A sb) (hL : L ≤ 2048) {a b : Nat → Nat} {o : Nat} {g : Nat → Int64} {x y : Nat → Nat → Int32} {N : Nat} (hN : N + 50 < 2 ^ 29) (hR : RE N x y) {i : Nat} (hi : 4 * i + 4 ≤ L) {cells slots : Nat} (hc : cells + 1 ≤ 1088) (hs : slots + 6 ≤ 8873)
    (kk : ∀ (g' : Nat → Int64) (x' y' : Nat → Nat → Int32), RE (N + 50) x' y' → Cf p l e room_1 s m args below meth c D A 7 (cells + 1) (slots + 6) Q 1473 [(4, .int (nI (4 * i))), (3, .ref o), (2, .ref (b 30)), (1, .ref (a 30)), (0, .ref sb)] [] (wL ct a b o g' x' y')) : Cf p l e room_1 s m args below meth c D A 7 cells slots Q 1149 [(4, .int (nI (4 * i))), (3, .ref o), (2, .ref (b 30)), (1, .ref (a 30)), (0, .ref sb)] [] (wL ct a b o g x y) := by
  obtain ⟨n, h, q, bb, t, ht, r⟩ := hR
  have S := st_wanted hN r ht (xs (4 * i + 1))
  obtain ⟨hn10, hlt, hq8, hbq, hn, hnM, hh, hhM, hq, hqM, hb, hbM, hti, hTM, e1, e2, e3, e5, e6, e7, e11, e17, e18, e19, e20, hbars, hlen, hkind, hlow, hhigh, hfst, hplc, hnam, hcur, hrul, hbeg⟩ := id r
  have hc0 : cells ≤ 1088 := Nat.le_trans (Nat.le_succ cells) hc
  have hs0 : slots ≤ 8873 := Nat.le_trans (Nat.le_add_right slots 6) hs
  have hfd := fdk r
  have hok : ∀ k, k < 10 → wOk y k := fun k hk => TM_ok hTM (by omega) k hk
  have hBM : ∀ s, s < 2 → 0 ≤ y 1 s := fun s hs => by obtain ⟨k, hk, e⟩ := hbars s hs; rw [e]; exact nI_pos' (by omega)
  have hB : ∀ s, s < 2 → 0 ≤ x 5 s := fun s hs => by rw [e5]; exact hBM s hs
  obtain ⟨kb, hkb4, hkb⟩ := hbars h hlt
  have hkbX : x 5 h = nI kb := by rw [e5]; exact hkb
  have M := c_L_wanted l D ct a o g x (x) (xs (4 * i + 1)) (if (0 ≤ (xs (4 * i + 1)) ∧ (xs (4 * i + 1)) < x 0 0) then none else some eI) (StOk.mem S) (wlX x (xs (4 * i + 1)).toNatClampNeg) (c_X3_wanted l hl D ct a x n hn hn10 q hq hq8 hfd (xs (4 * i + 1)))
  have MM := c_X4_wanted l D ct b y n hnM hn10 hok (xs (4 * i + 1))
  rcases S with ⟨hoc, hT, hr, hA, hRE⟩ | ⟨E, hE, hoc, hT, h0, hB9, hRE⟩
  · skip
    rw [hoc] at M
    rw [if_pos hT, if_pos hT] at MM
    refine q_aload_n (pc2 := 1150) C 3 dL_law_1149 rfl rfl rfl ?_
    refine q_aload_n (pc2 := 1151) C 4 dL_law_1150 rfl rfl rfl ?_
    refine q_iload (pc2 := 1153) C 0 dL_law_1151 rfl rfl ?_
    refine q_iconst (v := 1) (pc2 := 1154) C dL_law_1153 (by decide) rfl ?_
    refine q_iadd (v := nI (4 * i + 1)) (pc2 := 1155) C dL_law_1154 (nI_add (4 * i) 1) rfl ?_
    refine q_sld (pc2 := 1156) C hX hbl hbA (4 * i + 1) rfl (by omega) (by omega) dL_law_1155 rfl ?_
    refine q_aload_n (pc2 := 1157) C 1 dL_law_1156 rfl rfl rfl ?_
    refine q_LH (pc2 := 1160) (As := [.ref (a 30), .int (xs (4 * i + 1)), .ref o]) (st := []) (st2 := [.int 0]) (g' := vp_updL g 0 ((wlX x (xs (4 * i + 1)).toNatClampNeg).toInt64)) (x' := x) (c2 := cells) (s2 := slots) C M (vx_cwSW 3 C.w gL_law_L_wanted rfl rfl rfl (by decide +kernel) ⟨Nat.le_of_ble_eq_true rfl, Nat.le_of_ble_eq_true rfl⟩) dL_law_1157 rfl rfl (Nat.le_of_ble_eq_true rfl) ⟨hc0, hs0⟩ rfl rfl rfl rfl ?_
    refine q_istore (lv' := [(5, .int 0), (4, .int (nI (4 * i))), (3, .ref o), (2, .ref (b 30)), (1, .ref (a 30)), (0, .ref sb)]) (pc2 := 1162) C dL_law_1160 (by decide) rfl rfl ?_
    refine q_aload_n (pc2 := 1163) C 3 dL_law_1162 rfl rfl rfl ?_
    refine q_aload_n (pc2 := 1164) C 5 dL_law_1163 rfl rfl rfl ?_
    refine q_iload (pc2 := 1166) C 1 dL_law_1164 rfl rfl ?_
    refine q_iconst (v := 1) (pc2 := 1167) C dL_law_1166 (by decide) rfl ?_
    refine q_iadd (v := nI (4 * i + 1)) (pc2 := 1168) C dL_law_1167 (nI_add (4 * i) 1) rfl ?_
    refine q_sld (pc2 := 1169) C hX hbl hbA (4 * i + 1) rfl (by omega) (by omega) dL_law_1168 rfl ?_
    refine q_LM (pc2 := 1172) (As := [.int (xs (4 * i + 1))]) (st := []) (st2 := [.int (wlM y (xs (4 * i + 1)).toNatClampNeg)]) (y' := set2 y 27 (fun _ => T1 (inR (xs (4 * i + 1)) 0 (y 4 0 - 1)))) C MM (cwV 1 C.w gL_law_X4_wanted rfl rfl rfl (by decide +kernel) ⟨Nat.le_of_ble_eq_true rfl, Nat.le_of_ble_eq_true rfl⟩) dL_law_1169 rfl rfl (Nat.le_of_ble_eq_true rfl) ⟨hc0, hs0⟩ rfl rfl ?_
    refine q_istore (lv' := [(6, .int (wlM y (xs (4 * i + 1)).toNatClampNeg)), (5, .int 0), (4, .int (nI (4 * i))), (3, .ref o), (2, .ref (b 30)), (1, .ref (a 30)), (0, .ref sb)]) (pc2 := 1174) C dL_law_1172 (by decide) rfl rfl ?_
    refine q_aload_n (pc2 := 1175) C 4 dL_law_1174 rfl rfl rfl ?_
    refine q_LM (pc2 := 1178) (As := []) (st := []) (st2 := [.int ((set2 y 27 (fun _ => T1 (inR (xs (4 * i + 1)) 0 (y 4 0 - 1)))) 27 0)]) (y' := set2 y 27 (fun _ => T1 (inR (xs (4 * i + 1)) 0 (y 4 0 - 1)))) C (c_X4_thrown l D ct b (set2 y 27 (fun _ => T1 (inR (xs (4 * i + 1)) 0 (y 4 0 - 1))))) (cwV 0 C.w gL_law_X4_thrown rfl rfl rfl (by decide +kernel) ⟨Nat.le_of_ble_eq_true rfl, Nat.le_of_ble_eq_true rfl⟩) dL_law_1175 rfl rfl (Nat.le_of_ble_eq_true rfl) ⟨hc0, hs0⟩ rfl rfl ?_
    refine q_iload (pc2 := 1180) C 1 dL_law_1178 rfl rfl ?_
    refine q_icmp_eq (tgt := 1185) (pc2 := 1183) C dL_law_1180 (by decide) rfl (fun _ => ?_) (fun h9 => absurd (hA.trans hT) h9)
    refine q_iload (pc2 := 1187) C 1 dL_law_1185 rfl rfl ?_
    refine q_if_ne (tgt := 1202) (pc2 := 1190) C dL_law_1187 (by decide) rfl (fun h9 => absurd rfl h9) (fun _ => ?_)
    refine q_aload_n (pc2 := 1191) C 3 dL_law_1190 rfl rfl rfl ?_
    refine q_iconst (v := 0) (pc2 := 1192) C dL_law_1191 (by decide) rfl ?_
    refine q_lald (pc2 := 1193) C 0 (wL_g48 ct a b o (vp_updL g 0 ((wlX x (xs (4 * i + 1)).toNatClampNeg).toInt64)) (x) (set2 y 27 (fun _ => T1 (inR (xs (4 * i + 1)) 0 (y 4 0 - 1))))) rfl rfl (by decide) (by decide) dL_law_1192 rfl ?_
    refine q_iload (pc2 := 1195) C 0 dL_law_1193 rfl rfl ?_
    refine q_i2l (pc2 := 1196) C dL_law_1195 rfl rfl ?_
    refine q_lcmp_eq (pc2 := 1197) C ((if_pos rfl).trans (congrArg Int32.toInt64 hr)) dL_law_1196 rfl ?_
    refine q_if_eq (tgt := 1202) (pc2 := 1200) C dL_law_1197 (by decide) rfl (fun _ => ?_) (fun h9 => absurd rfl h9)
    refine q_goto (pc2 := 1473) C dL_law_1202 (by decide) ?_
    refine q_widen (Nat.le_add_right cells 1) (Nat.le_add_right slots 6) ?_
    refine q_lv (lv' := [(4, .int (nI (4 * i))), (3, .ref o), (2, .ref (b 30)), (1, .ref (a 30)), (0, .ref sb)]) [2, 3, 4, 5, 6] rfl ?_
    exact kk _ _ _ (RE.mono (by omega) hRE)
  · skip
    rw [hoc] at M
    rw [if_neg h0, if_neg h0] at MM
    refine q_aload_n (pc2 := 1150) C 3 dL_law_1149 rfl rfl rfl ?_
    refine q_aload_n (pc2 := 1151) C 4 dL_law_1150 rfl rfl rfl ?_
    refine q_iload (pc2 := 1153) C 0 dL_law_1151 rfl rfl ?_
    refine q_iconst (v := 1) (pc2 := 1154) C dL_law_1153 (by decide) rfl ?_
    refine q_iadd (v := nI (4 * i + 1)) (pc2 := 1155) C dL_law_1154 (nI_add (4 * i) 1) rfl ?_
    refine q_sld (pc2 := 1156) C hX hbl hbA (4 * i + 1) rfl (by omega) (by omega) dL_law_1155 rfl ?_
    refine q_aload_n (pc2 := 1157) C 1 dL_law_1156 rfl rfl rfl ?_
    refine q_LH (pc2 := 1160) (As := [.ref (a 30), .int (xs (4 * i + 1)), .ref o]) (st := []) (st2 := [.int (hcod [eI] (some E))]) (g' := g) (x' := x) (c2 := (cells + 1)) (s2 := (slots + 6)) C M (vx_cwSW 3 C.w gL_law_L_wanted rfl rfl rfl (by decide +kernel) ⟨Nat.le_of_ble_eq_true rfl, Nat.le_of_ble_eq_true rfl⟩) dL_law_1157 rfl rfl (Nat.le_of_ble_eq_true rfl) ⟨hc, hs⟩ rfl rfl rfl rfl ?_
    refine q_istore (lv' := [(5, .int (hcod [eI] (some E))), (4, .int (nI (4 * i))), (3, .ref o), (2, .ref (b 30)), (1, .ref (a 30)), (0, .ref sb)]) (pc2 := 1162) C dL_law_1160 (by decide) rfl rfl ?_
    refine q_aload_n (pc2 := 1163) C 3 dL_law_1162 rfl rfl rfl ?_
    refine q_aload_n (pc2 := 1164) C 5 dL_law_1163 rfl rfl rfl ?_
    refine q_iload (pc2 := 1166) C 1 dL_law_1164 rfl rfl ?_
    refine q_iconst (v := 1) (pc2 := 1167) C dL_law_1166 (by decide) rfl ?_
    refine q_iadd (v := nI (4 * i + 1)) (pc2 := 1168) C dL_law_1167 (nI_add (4 * i) 1) rfl ?_
    refine q_sld (pc2 := 1169) C hX hbl hbA (4 * i + 1) rfl (by omega) (by omega) dL_law_1168 rfl ?_
    refine q_LM (pc2 := 1172) (As := [.int (xs (4 * i + 1))]) (st := []) (st2 := [.int 0]) (y' := set2 y 27 (fun _ => T1 (inR (xs (4 * i + 1)) 0 (y 4 0 - 1)))) C MM (cwV 1 C.w gL_law_X4_wanted rfl rfl rfl (by decide +kernel) ⟨Nat.le_of_ble_eq_true rfl, Nat.le_of_ble_eq_true rfl⟩) dL_law_1169 rfl rfl (Nat.le_of_ble_eq_true rfl) ⟨hc, hs⟩ rfl rfl ?_
    refine q_istore (lv' := [(6, .int 0), (5, .int (hcod [eI] (some E))), (4, .int (nI (4 * i))), (3, .ref o), (2, .ref (b 30)), (1, .ref (a 30)), (0, .ref sb)]) (pc2 := 1174) C dL_law_1172 (by decide) rfl rfl ?_
    refine q_aload_n (pc2 := 1175) C 4 dL_law_1174 rfl rfl rfl ?_
    refine q_LM (pc2 := 1178) (As := []) (st := []) (st2 := [.int ((set2 y 27 (fun _ => T1 (inR (xs (4 * i + 1)) 0 (y 4 0 - 1)))) 27 0)]) (y' := set2 y 27 (fun _ => T1 (inR (xs (4 * i + 1)) 0 (y 4 0 - 1)))) C (c_X4_thrown l D ct b (set2 y 27 (fun _ => T1 (inR (xs (4 * i + 1)) 0 (y 4 0 - 1))))) (cwV 0 C.w gL_law_X4_thrown rfl rfl rfl (by decide +kernel) ⟨Nat.le_of_ble_eq_true rfl, Nat.le_of_ble_eq_true rfl⟩) dL_law_1175 rfl rfl (Nat.le_of_ble_eq_true rfl) ⟨hc, hs⟩ rfl rfl ?_
    refine q_iload (pc2 := 1180) C 1 dL_law_1178 rfl rfl ?_
    refine q_icmp_eq (tgt := 1185) (pc2 := 1183) C dL_law_1180 (by decide) rfl (fun _ => ?_) (fun h9 => absurd (hB9.trans hT) h9)
    refine q_iload (pc2 := 1187) C 1 dL_law_1185 rfl rfl ?_
    refine q_if_ne (tgt := 1202) (pc2 := 1190) C dL_law_1187 (by decide) rfl (fun _ => ?_) (fun h9 => absurd (hT.trans h9) h0)
    refine q_goto (pc2 := 1473) C dL_law_1202 (by decide) ?_
    refine q_lv (lv' := [(4, .int (nI (4 * i))), (3, .ref o), (2, .ref (b 30)), (1, .ref (a 30)), (0, .ref sb)]) [2, 3, 4, 5, 6] rfl ?_
    exact kk g x _ (RE.mono (by omega) hRE)

set_option maxHeartbeats 4000000 in
set_option maxRecDepth 100000 in
theorem lc_wantedByCues (l : Launch) (hl : l.stackTraces = false) {p : Program} {e : Env} {s : State} {m : MethodId} {args : Array Value} {below : List Frame} {meth : Method} {c : Code} {D : va_G} {ct : Nat → ClassId} {A : Nat → Prop} {Q : State → Prop} (C : Cx p s m args c meth cL_law 7 (some .boolean) wsL_law RL D ct A) {sb L : Nat} {xs : Nat → Int32} (hX : va_X sb L xs s s.heap) (hbl : sb < s.heap.size) (hbA : ¬ A sb) (hL : L ≤ 2048) {a b : Nat → Nat} {o : Nat} {g : Nat → Int64} {x y : Nat → Nat → Int32} {N : Nat} (hN : N + 50 < 2 ^ 29) (hR : RE N x y) {i : Nat} (hi : 4 * i + 4 ≤ L) {cells slots : Nat} (hc : cells + 1 ≤ 1088) (hs : slots + 6 ≤ 8873)
    (kk : ∀ (g' : Nat → Int64) (x' y' : Nat → Nat → Int32), RE (N + 50) x' y' → Cf p l e room_1 s m args below meth c D A 7 (cells + 1) (slots + 6) Q 1473 [(4, .int (nI (4 * i))), (3, .ref o), (2, .ref (b 30)), (1, .ref (a 30)), (0, .ref sb)] [] (wL ct a b o g' x' y')) : Cf p l e room_1 s m args below meth c D A 7 cells slots Q 1205 [(4, .int (nI (4 * i))), (3, .ref o), (2, .ref (b 30)), (1, .ref (a 30)), (0, .ref sb)] [] (wL ct a b o g x y) := by
  obtain ⟨n, h, q, bb, t, ht, r⟩ := hR
  have S := st_wantedByCues hN r ht (xs (4 * i + 1))
  obtain ⟨hn10, hlt, hq8, hbq, hn, hnM, hh, hhM, hq, hqM, hb, hbM, hti, hTM, e1, e2, e3, e5, e6, e7, e11, e17, e18, e19, e20, hbars, hlen, hkind, hlow, hhigh, hfst, hplc, hnam, hcur, hrul, hbeg⟩ := id r
  have hc0 : cells ≤ 1088 := Nat.le_trans (Nat.le_succ cells) hc
  have hs0 : slots ≤ 8873 := Nat.le_trans (Nat.le_add_right slots 6) hs
  have hfd := fdk r
  have hok : ∀ k, k < 10 → wOk y k := fun k hk => TM_ok hTM (by omega) k hk
  have hBM : ∀ s, s < 2 → 0 ≤ y 1 s := fun s hs => by obtain ⟨k, hk, e⟩ := hbars s hs; rw [e]; exact nI_pos' (by omega)
  have hB : ∀ s, s < 2 → 0 ≤ x 5 s := fun s hs => by rw [e5]; exact hBM s hs
  obtain ⟨kb, hkb4, hkb⟩ := hbars h hlt
  have hkbX : x 5 h = nI kb := by rw [e5]; exact hkb
  have M := c_L_wantedByCues l D ct a o g x (x) (xs (4 * i + 1)) (if (0 ≤ (xs (4 * i + 1)) ∧ (xs (4 * i + 1)) < x 0 0) then none else some eI) (StOk.mem S) (wlX x (xs (4 * i + 1)).toNatClampNeg) (c_X3_wantedByCues l hl D ct a x n hn hn10 q hq hq8 hfd (xs (4 * i + 1)))
  have MM := c_X4_wantedByCues l D ct b y n hnM hn10 hok (xs (4 * i + 1))
  rcases S with ⟨hoc, hT, hr, hA, hRE⟩ | ⟨E, hE, hoc, hT, h0, hB9, hRE⟩
  · skip
    rw [hoc] at M
    rw [if_pos hT, if_pos hT] at MM
    refine q_aload_n (pc2 := 1206) C 3 dL_law_1205 rfl rfl rfl ?_
    refine q_aload_n (pc2 := 1207) C 4 dL_law_1206 rfl rfl rfl ?_
    refine q_iload (pc2 := 1209) C 0 dL_law_1207 rfl rfl ?_
    refine q_iconst (v := 1) (pc2 := 1210) C dL_law_1209 (by decide) rfl ?_
    refine q_iadd (v := nI (4 * i + 1)) (pc2 := 1211) C dL_law_1210 (nI_add (4 * i) 1) rfl ?_
    refine q_sld (pc2 := 1212) C hX hbl hbA (4 * i + 1) rfl (by omega) (by omega) dL_law_1211 rfl ?_
    refine q_aload_n (pc2 := 1213) C 1 dL_law_1212 rfl rfl rfl ?_
    refine q_LH (pc2 := 1216) (As := [.ref (a 30), .int (xs (4 * i + 1)), .ref o]) (st := []) (st2 := [.int 0]) (g' := vp_updL g 0 ((wlX x (xs (4 * i + 1)).toNatClampNeg).toInt64)) (x' := x) (c2 := cells) (s2 := slots) C M (vx_cwSW 3 C.w gL_law_L_wantedByCues rfl rfl rfl (by decide +kernel) ⟨Nat.le_of_ble_eq_true rfl, Nat.le_of_ble_eq_true rfl⟩) dL_law_1213 rfl rfl (Nat.le_of_ble_eq_true rfl) ⟨hc0, hs0⟩ rfl rfl rfl rfl ?_
    refine q_istore (lv' := [(5, .int 0), (4, .int (nI (4 * i))), (3, .ref o), (2, .ref (b 30)), (1, .ref (a 30)), (0, .ref sb)]) (pc2 := 1218) C dL_law_1216 (by decide) rfl rfl ?_
    refine q_aload_n (pc2 := 1219) C 3 dL_law_1218 rfl rfl rfl ?_
    refine q_aload_n (pc2 := 1220) C 5 dL_law_1219 rfl rfl rfl ?_
    refine q_iload (pc2 := 1222) C 1 dL_law_1220 rfl rfl ?_
    refine q_iconst (v := 1) (pc2 := 1223) C dL_law_1222 (by decide) rfl ?_
    refine q_iadd (v := nI (4 * i + 1)) (pc2 := 1224) C dL_law_1223 (nI_add (4 * i) 1) rfl ?_
    refine q_sld (pc2 := 1225) C hX hbl hbA (4 * i + 1) rfl (by omega) (by omega) dL_law_1224 rfl ?_
    refine q_LM (pc2 := 1228) (As := [.int (xs (4 * i + 1))]) (st := []) (st2 := [.int (wlM y (xs (4 * i + 1)).toNatClampNeg)]) (y' := set2 y 27 (fun _ => T1 (inR (xs (4 * i + 1)) 0 (y 4 0 - 1)))) C MM (cwV 1 C.w gL_law_X4_wantedByCues rfl rfl rfl (by decide +kernel) ⟨Nat.le_of_ble_eq_true rfl, Nat.le_of_ble_eq_true rfl⟩) dL_law_1225 rfl rfl (Nat.le_of_ble_eq_true rfl) ⟨hc0, hs0⟩ rfl rfl ?_
    refine q_istore (lv' := [(6, .int (wlM y (xs (4 * i + 1)).toNatClampNeg)), (5, .int 0), (4, .int (nI (4 * i))), (3, .ref o), (2, .ref (b 30)), (1, .ref (a 30)), (0, .ref sb)]) (pc2 := 1230) C dL_law_1228 (by decide) rfl rfl ?_
    refine q_aload_n (pc2 := 1231) C 4 dL_law_1230 rfl rfl rfl ?_
    refine q_LM (pc2 := 1234) (As := []) (st := []) (st2 := [.int ((set2 y 27 (fun _ => T1 (inR (xs (4 * i + 1)) 0 (y 4 0 - 1)))) 27 0)]) (y' := set2 y 27 (fun _ => T1 (inR (xs (4 * i + 1)) 0 (y 4 0 - 1)))) C (c_X4_thrown l D ct b (set2 y 27 (fun _ => T1 (inR (xs (4 * i + 1)) 0 (y 4 0 - 1))))) (cwV 0 C.w gL_law_X4_thrown rfl rfl rfl (by decide +kernel) ⟨Nat.le_of_ble_eq_true rfl, Nat.le_of_ble_eq_true rfl⟩) dL_law_1231 rfl rfl (Nat.le_of_ble_eq_true rfl) ⟨hc0, hs0⟩ rfl rfl ?_
    refine q_iload (pc2 := 1236) C 1 dL_law_1234 rfl rfl ?_
    refine q_icmp_eq (tgt := 1241) (pc2 := 1239) C dL_law_1236 (by decide) rfl (fun _ => ?_) (fun h9 => absurd (hA.trans hT) h9)
    refine q_iload (pc2 := 1243) C 1 dL_law_1241 rfl rfl ?_
    refine q_if_ne (tgt := 1258) (pc2 := 1246) C dL_law_1243 (by decide) rfl (fun h9 => absurd rfl h9) (fun _ => ?_)
    refine q_aload_n (pc2 := 1247) C 3 dL_law_1246 rfl rfl rfl ?_
    refine q_iconst (v := 0) (pc2 := 1248) C dL_law_1247 (by decide) rfl ?_
    refine q_lald (pc2 := 1249) C 0 (wL_g48 ct a b o (vp_updL g 0 ((wlX x (xs (4 * i + 1)).toNatClampNeg).toInt64)) (x) (set2 y 27 (fun _ => T1 (inR (xs (4 * i + 1)) 0 (y 4 0 - 1))))) rfl rfl (by decide) (by decide) dL_law_1248 rfl ?_
    refine q_iload (pc2 := 1251) C 0 dL_law_1249 rfl rfl ?_
    refine q_i2l (pc2 := 1252) C dL_law_1251 rfl rfl ?_
    refine q_lcmp_eq (pc2 := 1253) C ((if_pos rfl).trans (congrArg Int32.toInt64 hr)) dL_law_1252 rfl ?_
    refine q_if_eq (tgt := 1258) (pc2 := 1256) C dL_law_1253 (by decide) rfl (fun _ => ?_) (fun h9 => absurd rfl h9)
    refine q_goto (pc2 := 1473) C dL_law_1258 (by decide) ?_
    refine q_widen (Nat.le_add_right cells 1) (Nat.le_add_right slots 6) ?_
    refine q_lv (lv' := [(4, .int (nI (4 * i))), (3, .ref o), (2, .ref (b 30)), (1, .ref (a 30)), (0, .ref sb)]) [2, 3, 4, 5, 6] rfl ?_
    exact kk _ _ _ (RE.mono (by omega) hRE)
  · skip
    rw [hoc] at M
    rw [if_neg h0, if_neg h0] at MM
    refine q_aload_n (pc2 := 1206) C 3 dL_law_1205 rfl rfl rfl ?_
    refine q_aload_n (pc2 := 1207) C 4 dL_law_1206 rfl rfl rfl ?_
    refine q_iload (pc2 := 1209) C 0 dL_law_1207 rfl rfl ?_
    refine q_iconst (v := 1) (pc2 := 1210) C dL_law_1209 (by decide) rfl ?_
    refine q_iadd (v := nI (4 * i + 1)) (pc2 := 1211) C dL_law_1210 (nI_add (4 * i) 1) rfl ?_
    refine q_sld (pc2 := 1212) C hX hbl hbA (4 * i + 1) rfl (by omega) (by omega) dL_law_1211 rfl ?_
    refine q_aload_n (pc2 := 1213) C 1 dL_law_1212 rfl rfl rfl ?_
    refine q_LH (pc2 := 1216) (As := [.ref (a 30), .int (xs (4 * i + 1)), .ref o]) (st := []) (st2 := [.int (hcod [eI] (some E))]) (g' := g) (x' := x) (c2 := (cells + 1)) (s2 := (slots + 6)) C M (vx_cwSW 3 C.w gL_law_L_wantedByCues rfl rfl rfl (by decide +kernel) ⟨Nat.le_of_ble_eq_true rfl, Nat.le_of_ble_eq_true rfl⟩) dL_law_1213 rfl rfl (Nat.le_of_ble_eq_true rfl) ⟨hc, hs⟩ rfl rfl rfl rfl ?_
    refine q_istore (lv' := [(5, .int (hcod [eI] (some E))), (4, .int (nI (4 * i))), (3, .ref o), (2, .ref (b 30)), (1, .ref (a 30)), (0, .ref sb)]) (pc2 := 1218) C dL_law_1216 (by decide) rfl rfl ?_
    refine q_aload_n (pc2 := 1219) C 3 dL_law_1218 rfl rfl rfl ?_
    refine q_aload_n (pc2 := 1220) C 5 dL_law_1219 rfl rfl rfl ?_
    refine q_iload (pc2 := 1222) C 1 dL_law_1220 rfl rfl ?_
    refine q_iconst (v := 1) (pc2 := 1223) C dL_law_1222 (by decide) rfl ?_
    refine q_iadd (v := nI (4 * i + 1)) (pc2 := 1224) C dL_law_1223 (nI_add (4 * i) 1) rfl ?_
    refine q_sld (pc2 := 1225) C hX hbl hbA (4 * i + 1) rfl (by omega) (by omega) dL_law_1224 rfl ?_
    refine q_LM (pc2 := 1228) (As := [.int (xs (4 * i + 1))]) (st := []) (st2 := [.int 0]) (y' := set2 y 27 (fun _ => T1 (inR (xs (4 * i + 1)) 0 (y 4 0 - 1)))) C MM (cwV 1 C.w gL_law_X4_wantedByCues rfl rfl rfl (by decide +kernel) ⟨Nat.le_of_ble_eq_true rfl, Nat.le_of_ble_eq_true rfl⟩) dL_law_1225 rfl rfl (Nat.le_of_ble_eq_true rfl) ⟨hc, hs⟩ rfl rfl ?_
    refine q_istore (lv' := [(6, .int 0), (5, .int (hcod [eI] (some E))), (4, .int (nI (4 * i))), (3, .ref o), (2, .ref (b 30)), (1, .ref (a 30)), (0, .ref sb)]) (pc2 := 1230) C dL_law_1228 (by decide) rfl rfl ?_
    refine q_aload_n (pc2 := 1231) C 4 dL_law_1230 rfl rfl rfl ?_
    refine q_LM (pc2 := 1234) (As := []) (st := []) (st2 := [.int ((set2 y 27 (fun _ => T1 (inR (xs (4 * i + 1)) 0 (y 4 0 - 1)))) 27 0)]) (y' := set2 y 27 (fun _ => T1 (inR (xs (4 * i + 1)) 0 (y 4 0 - 1)))) C (c_X4_thrown l D ct b (set2 y 27 (fun _ => T1 (inR (xs (4 * i + 1)) 0 (y 4 0 - 1))))) (cwV 0 C.w gL_law_X4_thrown rfl rfl rfl (by decide +kernel) ⟨Nat.le_of_ble_eq_true rfl, Nat.le_of_ble_eq_true rfl⟩) dL_law_1231 rfl rfl (Nat.le_of_ble_eq_true rfl) ⟨hc, hs⟩ rfl rfl ?_
    refine q_iload (pc2 := 1236) C 1 dL_law_1234 rfl rfl ?_
    refine q_icmp_eq (tgt := 1241) (pc2 := 1239) C dL_law_1236 (by decide) rfl (fun _ => ?_) (fun h9 => absurd (hB9.trans hT) h9)
    refine q_iload (pc2 := 1243) C 1 dL_law_1241 rfl rfl ?_
    refine q_if_ne (tgt := 1258) (pc2 := 1246) C dL_law_1243 (by decide) rfl (fun _ => ?_) (fun h9 => absurd (hT.trans h9) h0)
    refine q_goto (pc2 := 1473) C dL_law_1258 (by decide) ?_
    refine q_lv (lv' := [(4, .int (nI (4 * i))), (3, .ref o), (2, .ref (b 30)), (1, .ref (a 30)), (0, .ref sb)]) [2, 3, 4, 5, 6] rfl ?_
    exact kk g x _ (RE.mono (by omega) hRE)

set_option maxHeartbeats 4000000 in
set_option maxRecDepth 100000 in
theorem lc_bulb (l : Launch) (hl : l.stackTraces = false) {p : Program} {e : Env} {s : State} {m : MethodId} {args : Array Value} {below : List Frame} {meth : Method} {c : Code} {D : va_G} {ct : Nat → ClassId} {A : Nat → Prop} {Q : State → Prop} (C : Cx p s m args c meth cL_law 7 (some .boolean) wsL_law RL D ct A) {sb L : Nat} {xs : Nat → Int32} (hX : va_X sb L xs s s.heap) (hbl : sb < s.heap.size) (hbA : ¬ A sb) (hL : L ≤ 2048) {a b : Nat → Nat} {o : Nat} {g : Nat → Int64} {x y : Nat → Nat → Int32} {N : Nat} (hN : N + 50 < 2 ^ 29) (hR : RE N x y) {i : Nat} (hi : 4 * i + 4 ≤ L) {cells slots : Nat} (hc : cells + 1 ≤ 1088) (hs : slots + 6 ≤ 8873)
    (kk : ∀ (g' : Nat → Int64) (x' y' : Nat → Nat → Int32), RE (N + 50) x' y' → Cf p l e room_1 s m args below meth c D A 7 (cells + 1) (slots + 6) Q 1473 [(4, .int (nI (4 * i))), (3, .ref o), (2, .ref (b 30)), (1, .ref (a 30)), (0, .ref sb)] [] (wL ct a b o g' x' y')) : Cf p l e room_1 s m args below meth c D A 7 cells slots Q 1261 [(4, .int (nI (4 * i))), (3, .ref o), (2, .ref (b 30)), (1, .ref (a 30)), (0, .ref sb)] [] (wL ct a b o g x y) := by
  obtain ⟨n, h, q, bb, t, ht, r⟩ := hR
  have S := st_bulb hN r ht (xs (4 * i + 1))
  obtain ⟨hn10, hlt, hq8, hbq, hn, hnM, hh, hhM, hq, hqM, hb, hbM, hti, hTM, e1, e2, e3, e5, e6, e7, e11, e17, e18, e19, e20, hbars, hlen, hkind, hlow, hhigh, hfst, hplc, hnam, hcur, hrul, hbeg⟩ := id r
  have hc0 : cells ≤ 1088 := Nat.le_trans (Nat.le_succ cells) hc
  have hs0 : slots ≤ 8873 := Nat.le_trans (Nat.le_add_right slots 6) hs
  have hfd := fdk r
  have hok : ∀ k, k < 10 → wOk y k := fun k hk => TM_ok hTM (by omega) k hk
  have hBM : ∀ s, s < 2 → 0 ≤ y 1 s := fun s hs => by obtain ⟨k, hk, e⟩ := hbars s hs; rw [e]; exact nI_pos' (by omega)
  have hB : ∀ s, s < 2 → 0 ≤ x 5 s := fun s hs => by rw [e5]; exact hBM s hs
  obtain ⟨kb, hkb4, hkb⟩ := hbars h hlt
  have hkbX : x 5 h = nI kb := by rw [e5]; exact hkb
  have M := c_L_bulb l D ct a o g x (set2 x 3 (upd (x 3) (xs (4 * i + 1)).toNatClampNeg (b2 (x 3 (xs (4 * i + 1)).toNatClampNeg = 0)))) (xs (4 * i + 1)) (if (0 ≤ (xs (4 * i + 1)) ∧ (xs (4 * i + 1)) < x 0 0) then none else some eI) (StOk.mem S) (b2 ((b2 (x 3 (xs (4 * i + 1)).toNatClampNeg = 0)) = 0)) (c_X3_bulb l hl D ct a x n hn hn10 (xs (4 * i + 1)))
  have MM := c_X4_bulb l D ct b y n hnM hn10 (xs (4 * i + 1))
  rcases S with ⟨hoc, hT, hr, hA, hRE⟩ | ⟨E, hE, hoc, hT, h0, hB9, hRE⟩
  · skip
    rw [hoc] at M
    rw [if_pos hT, if_pos hT] at MM
    refine q_aload_n (pc2 := 1262) C 3 dL_law_1261 rfl rfl rfl ?_
    refine q_aload_n (pc2 := 1263) C 4 dL_law_1262 rfl rfl rfl ?_
    refine q_iload (pc2 := 1265) C 0 dL_law_1263 rfl rfl ?_
    refine q_iconst (v := 1) (pc2 := 1266) C dL_law_1265 (by decide) rfl ?_
    refine q_iadd (v := nI (4 * i + 1)) (pc2 := 1267) C dL_law_1266 (nI_add (4 * i) 1) rfl ?_
    refine q_sld (pc2 := 1268) C hX hbl hbA (4 * i + 1) rfl (by omega) (by omega) dL_law_1267 rfl ?_
    refine q_aload_n (pc2 := 1269) C 1 dL_law_1268 rfl rfl rfl ?_
    refine q_LH (pc2 := 1272) (As := [.ref (a 30), .int (xs (4 * i + 1)), .ref o]) (st := []) (st2 := [.int 0]) (g' := vp_updL g 0 ((if (b2 ((b2 (x 3 (xs (4 * i + 1)).toNatClampNeg = 0)) = 0)) = 0 then (0 : Int64) else 1))) (x' := set2 x 3 (upd (x 3) (xs (4 * i + 1)).toNatClampNeg (b2 (x 3 (xs (4 * i + 1)).toNatClampNeg = 0)))) (c2 := cells) (s2 := slots) C M (vx_cwSW 3 C.w gL_law_L_bulb rfl rfl rfl (by decide +kernel) ⟨Nat.le_of_ble_eq_true rfl, Nat.le_of_ble_eq_true rfl⟩) dL_law_1269 rfl rfl (Nat.le_of_ble_eq_true rfl) ⟨hc0, hs0⟩ rfl rfl rfl rfl ?_
    refine q_istore (lv' := [(5, .int 0), (4, .int (nI (4 * i))), (3, .ref o), (2, .ref (b 30)), (1, .ref (a 30)), (0, .ref sb)]) (pc2 := 1274) C dL_law_1272 (by decide) rfl rfl ?_
    refine q_aload_n (pc2 := 1275) C 3 dL_law_1274 rfl rfl rfl ?_
    refine q_aload_n (pc2 := 1276) C 5 dL_law_1275 rfl rfl rfl ?_
    refine q_iload (pc2 := 1278) C 1 dL_law_1276 rfl rfl ?_
    refine q_iconst (v := 1) (pc2 := 1279) C dL_law_1278 (by decide) rfl ?_
    refine q_iadd (v := nI (4 * i + 1)) (pc2 := 1280) C dL_law_1279 (nI_add (4 * i) 1) rfl ?_
    refine q_sld (pc2 := 1281) C hX hbl hbA (4 * i + 1) rfl (by omega) (by omega) dL_law_1280 rfl ?_
    refine q_LM (pc2 := 1284) (As := [.int (xs (4 * i + 1))]) (st := []) (st2 := [.int (b2 ((b2 (y 11 (xs (4 * i + 1)).toNatClampNeg = 0)) = 0))]) (y' := set2 (set2 y 27 (fun _ => T1 (inR (xs (4 * i + 1)) 0 (y 4 0 - 1)))) 11 (upd (y 11) (xs (4 * i + 1)).toNatClampNeg (b2 (y 11 (xs (4 * i + 1)).toNatClampNeg = 0)))) C MM (cwV 1 C.w gL_law_X4_bulb rfl rfl rfl (by decide +kernel) ⟨Nat.le_of_ble_eq_true rfl, Nat.le_of_ble_eq_true rfl⟩) dL_law_1281 rfl rfl (Nat.le_of_ble_eq_true rfl) ⟨hc0, hs0⟩ rfl rfl ?_
    refine q_istore (lv' := [(6, .int (b2 ((b2 (y 11 (xs (4 * i + 1)).toNatClampNeg = 0)) = 0))), (5, .int 0), (4, .int (nI (4 * i))), (3, .ref o), (2, .ref (b 30)), (1, .ref (a 30)), (0, .ref sb)]) (pc2 := 1286) C dL_law_1284 (by decide) rfl rfl ?_
    refine q_aload_n (pc2 := 1287) C 4 dL_law_1286 rfl rfl rfl ?_
    refine q_LM (pc2 := 1290) (As := []) (st := []) (st2 := [.int ((set2 (set2 y 27 (fun _ => T1 (inR (xs (4 * i + 1)) 0 (y 4 0 - 1)))) 11 (upd (y 11) (xs (4 * i + 1)).toNatClampNeg (b2 (y 11 (xs (4 * i + 1)).toNatClampNeg = 0)))) 27 0)]) (y' := set2 (set2 y 27 (fun _ => T1 (inR (xs (4 * i + 1)) 0 (y 4 0 - 1)))) 11 (upd (y 11) (xs (4 * i + 1)).toNatClampNeg (b2 (y 11 (xs (4 * i + 1)).toNatClampNeg = 0)))) C (c_X4_thrown l D ct b (set2 (set2 y 27 (fun _ => T1 (inR (xs (4 * i + 1)) 0 (y 4 0 - 1)))) 11 (upd (y 11) (xs (4 * i + 1)).toNatClampNeg (b2 (y 11 (xs (4 * i + 1)).toNatClampNeg = 0))))) (cwV 0 C.w gL_law_X4_thrown rfl rfl rfl (by decide +kernel) ⟨Nat.le_of_ble_eq_true rfl, Nat.le_of_ble_eq_true rfl⟩) dL_law_1287 rfl rfl (Nat.le_of_ble_eq_true rfl) ⟨hc0, hs0⟩ rfl rfl ?_
    refine q_iload (pc2 := 1292) C 1 dL_law_1290 rfl rfl ?_
    refine q_icmp_eq (tgt := 1297) (pc2 := 1295) C dL_law_1292 (by decide) rfl (fun _ => ?_) (fun h9 => absurd (hA.trans hT) h9)
    refine q_iload (pc2 := 1299) C 1 dL_law_1297 rfl rfl ?_
    refine q_if_ne (tgt := 1321) (pc2 := 1302) C dL_law_1299 (by decide) rfl (fun h9 => absurd rfl h9) (fun _ => ?_)
    refine q_aload_n (pc2 := 1303) C 3 dL_law_1302 rfl rfl rfl ?_
    refine q_iconst (v := 0) (pc2 := 1304) C dL_law_1303 (by decide) rfl ?_
    refine q_lald (pc2 := 1305) C 0 (wL_g48 ct a b o (vp_updL g 0 ((if (b2 ((b2 (x 3 (xs (4 * i + 1)).toNatClampNeg = 0)) = 0)) = 0 then (0 : Int64) else 1))) (set2 x 3 (upd (x 3) (xs (4 * i + 1)).toNatClampNeg (b2 (x 3 (xs (4 * i + 1)).toNatClampNeg = 0)))) (set2 (set2 y 27 (fun _ => T1 (inR (xs (4 * i + 1)) 0 (y 4 0 - 1)))) 11 (upd (y 11) (xs (4 * i + 1)).toNatClampNeg (b2 (y 11 (xs (4 * i + 1)).toNatClampNeg = 0))))) rfl rfl (by decide) (by decide) dL_law_1304 rfl ?_
    refine q_iload (pc2 := 1307) C 0 dL_law_1305 rfl rfl ?_
    refine q_if_eq (tgt := 1314) (pc2 := 1310) C dL_law_1307 (by decide) rfl (fun hz => ?_) (fun hz => ?_)
    · skip
      refine q_lconst (v := 0) (pc2 := 1315) C dL_law_1314 (by decide) rfl ?_
      refine q_lcmp_eq (pc2 := 1316) C ((if_pos rfl).trans (if_pos (hr.trans hz))) dL_law_1315 rfl ?_
      refine q_if_eq (tgt := 1321) (pc2 := 1319) C dL_law_1316 (by decide) rfl (fun _ => ?_) (fun h9 => absurd rfl h9)
      refine q_goto (pc2 := 1473) C dL_law_1321 (by decide) ?_
      refine q_widen (Nat.le_add_right cells 1) (Nat.le_add_right slots 6) ?_
      refine q_lv (lv' := [(4, .int (nI (4 * i))), (3, .ref o), (2, .ref (b 30)), (1, .ref (a 30)), (0, .ref sb)]) [2, 3, 4, 5, 6] rfl ?_
      exact kk _ _ _ (RE.mono (by omega) hRE)
    · skip
      refine q_lconst (v := 1) (pc2 := 1311) C dL_law_1310 (by decide) rfl ?_
      refine q_goto (pc2 := 1315) C dL_law_1311 (by decide) ?_
      refine q_lcmp_eq (pc2 := 1316) C ((if_pos rfl).trans (if_neg (fun z => hz (hr.symm.trans z)))) dL_law_1315 rfl ?_
      refine q_if_eq (tgt := 1321) (pc2 := 1319) C dL_law_1316 (by decide) rfl (fun _ => ?_) (fun h9 => absurd rfl h9)
      refine q_goto (pc2 := 1473) C dL_law_1321 (by decide) ?_
      refine q_widen (Nat.le_add_right cells 1) (Nat.le_add_right slots 6) ?_
      refine q_lv (lv' := [(4, .int (nI (4 * i))), (3, .ref o), (2, .ref (b 30)), (1, .ref (a 30)), (0, .ref sb)]) [2, 3, 4, 5, 6] rfl ?_
      exact kk _ _ _ (RE.mono (by omega) hRE)
  · skip
    rw [hoc] at M
    rw [if_neg h0, if_neg h0] at MM
    refine q_aload_n (pc2 := 1262) C 3 dL_law_1261 rfl rfl rfl ?_
    refine q_aload_n (pc2 := 1263) C 4 dL_law_1262 rfl rfl rfl ?_
    refine q_iload (pc2 := 1265) C 0 dL_law_1263 rfl rfl ?_
    refine q_iconst (v := 1) (pc2 := 1266) C dL_law_1265 (by decide) rfl ?_
    refine q_iadd (v := nI (4 * i + 1)) (pc2 := 1267) C dL_law_1266 (nI_add (4 * i) 1) rfl ?_
    refine q_sld (pc2 := 1268) C hX hbl hbA (4 * i + 1) rfl (by omega) (by omega) dL_law_1267 rfl ?_
    refine q_aload_n (pc2 := 1269) C 1 dL_law_1268 rfl rfl rfl ?_
    refine q_LH (pc2 := 1272) (As := [.ref (a 30), .int (xs (4 * i + 1)), .ref o]) (st := []) (st2 := [.int (hcod [eI] (some E))]) (g' := g) (x' := x) (c2 := (cells + 1)) (s2 := (slots + 6)) C M (vx_cwSW 3 C.w gL_law_L_bulb rfl rfl rfl (by decide +kernel) ⟨Nat.le_of_ble_eq_true rfl, Nat.le_of_ble_eq_true rfl⟩) dL_law_1269 rfl rfl (Nat.le_of_ble_eq_true rfl) ⟨hc, hs⟩ rfl rfl rfl rfl ?_
    refine q_istore (lv' := [(5, .int (hcod [eI] (some E))), (4, .int (nI (4 * i))), (3, .ref o), (2, .ref (b 30)), (1, .ref (a 30)), (0, .ref sb)]) (pc2 := 1274) C dL_law_1272 (by decide) rfl rfl ?_
    refine q_aload_n (pc2 := 1275) C 3 dL_law_1274 rfl rfl rfl ?_
    refine q_aload_n (pc2 := 1276) C 5 dL_law_1275 rfl rfl rfl ?_
    refine q_iload (pc2 := 1278) C 1 dL_law_1276 rfl rfl ?_
    refine q_iconst (v := 1) (pc2 := 1279) C dL_law_1278 (by decide) rfl ?_
    refine q_iadd (v := nI (4 * i + 1)) (pc2 := 1280) C dL_law_1279 (nI_add (4 * i) 1) rfl ?_
    refine q_sld (pc2 := 1281) C hX hbl hbA (4 * i + 1) rfl (by omega) (by omega) dL_law_1280 rfl ?_
    refine q_LM (pc2 := 1284) (As := [.int (xs (4 * i + 1))]) (st := []) (st2 := [.int 0]) (y' := set2 y 27 (fun _ => T1 (inR (xs (4 * i + 1)) 0 (y 4 0 - 1)))) C MM (cwV 1 C.w gL_law_X4_bulb rfl rfl rfl (by decide +kernel) ⟨Nat.le_of_ble_eq_true rfl, Nat.le_of_ble_eq_true rfl⟩) dL_law_1281 rfl rfl (Nat.le_of_ble_eq_true rfl) ⟨hc, hs⟩ rfl rfl ?_
    refine q_istore (lv' := [(6, .int 0), (5, .int (hcod [eI] (some E))), (4, .int (nI (4 * i))), (3, .ref o), (2, .ref (b 30)), (1, .ref (a 30)), (0, .ref sb)]) (pc2 := 1286) C dL_law_1284 (by decide) rfl rfl ?_
    refine q_aload_n (pc2 := 1287) C 4 dL_law_1286 rfl rfl rfl ?_
    refine q_LM (pc2 := 1290) (As := []) (st := []) (st2 := [.int ((set2 y 27 (fun _ => T1 (inR (xs (4 * i + 1)) 0 (y 4 0 - 1)))) 27 0)]) (y' := set2 y 27 (fun _ => T1 (inR (xs (4 * i + 1)) 0 (y 4 0 - 1)))) C (c_X4_thrown l D ct b (set2 y 27 (fun _ => T1 (inR (xs (4 * i + 1)) 0 (y 4 0 - 1))))) (cwV 0 C.w gL_law_X4_thrown rfl rfl rfl (by decide +kernel) ⟨Nat.le_of_ble_eq_true rfl, Nat.le_of_ble_eq_true rfl⟩) dL_law_1287 rfl rfl (Nat.le_of_ble_eq_true rfl) ⟨hc, hs⟩ rfl rfl ?_
    refine q_iload (pc2 := 1292) C 1 dL_law_1290 rfl rfl ?_
    refine q_icmp_eq (tgt := 1297) (pc2 := 1295) C dL_law_1292 (by decide) rfl (fun _ => ?_) (fun h9 => absurd (hB9.trans hT) h9)
    refine q_iload (pc2 := 1299) C 1 dL_law_1297 rfl rfl ?_
    refine q_if_ne (tgt := 1321) (pc2 := 1302) C dL_law_1299 (by decide) rfl (fun _ => ?_) (fun h9 => absurd (hT.trans h9) h0)
    refine q_goto (pc2 := 1473) C dL_law_1321 (by decide) ?_
    refine q_lv (lv' := [(4, .int (nI (4 * i))), (3, .ref o), (2, .ref (b 30)), (1, .ref (a 30)), (0, .ref sb)]) [2, 3, 4, 5, 6] rfl ?_
    exact kk g x _ (RE.mono (by omega) hRE)

set_option maxHeartbeats 4000000 in
set_option maxRecDepth 100000 in
theorem lc_load (l : Launch) (hl : l.stackTraces = false) {p : Program} {e : Env} {s : State} {m : MethodId} {args : Array Value} {below : List Frame} {meth : Method} {c : Code} {D : va_G} {ct : Nat → ClassId} {A : Nat → Prop} {Q : State → Prop} (C : Cx p s m args c meth cL_law 7 (some .boolean) wsL_law RL D ct A) {sb L : Nat} {xs : Nat → Int32} (hX : va_X sb L xs s s.heap) (hbl : sb < s.heap.size) (hbA : ¬ A sb) (hL : L ≤ 2048) {a b : Nat → Nat} {o : Nat} {g : Nat → Int64} {x y : Nat → Nat → Int32} {N : Nat} (hN : N + 50 < 2 ^ 29) (hR : RE N x y) {i : Nat} (hi : 4 * i + 4 ≤ L) {cells slots : Nat} (hc : cells + 1 ≤ 1088) (hs : slots + 6 ≤ 8873)
    (kk : ∀ (g' : Nat → Int64) (x' y' : Nat → Nat → Int32), RE (N + 50) x' y' → Cf p l e room_1 s m args below meth c D A 7 (cells + 1) (slots + 6) Q 1473 [(4, .int (nI (4 * i))), (3, .ref o), (2, .ref (b 30)), (1, .ref (a 30)), (0, .ref sb)] [] (wL ct a b o g' x' y')) : Cf p l e room_1 s m args below meth c D A 7 cells slots Q 764 [(4, .int (nI (4 * i))), (3, .ref o), (2, .ref (b 30)), (1, .ref (a 30)), (0, .ref sb)] [] (wL ct a b o g x y) := by
  obtain ⟨n, h, q, bb, t, ht, r⟩ := hR
  have S := st_load hN r ht (xs (4 * i + 1))
  obtain ⟨hn10, hlt, hq8, hbq, hn, hnM, hh, hhM, hq, hqM, hb, hbM, hti, hTM, e1, e2, e3, e5, e6, e7, e11, e17, e18, e19, e20, hbars, hlen, hkind, hlow, hhigh, hfst, hplc, hnam, hcur, hrul, hbeg⟩ := id r
  have hc0 : cells ≤ 1088 := Nat.le_trans (Nat.le_succ cells) hc
  have hs0 : slots ≤ 8873 := Nat.le_trans (Nat.le_add_right slots 6) hs
  have hfd := fdk r
  have hok : ∀ k, k < 10 → wOk y k := fun k hk => TM_ok hTM (by omega) k hk
  have hBM : ∀ s, s < 2 → 0 ≤ y 1 s := fun s hs => by obtain ⟨k, hk, e⟩ := hbars s hs; rw [e]; exact nI_pos' (by omega)
  have hB : ∀ s, s < 2 → 0 ≤ x 5 s := fun s hs => by rw [e5]; exact hBM s hs
  obtain ⟨kb, hkb4, hkb⟩ := hbars h hlt
  have hkbX : x 5 h = nI kb := by rw [e5]; exact hkb
  have M := c_L_load l D ct a o g x (x) (xs (4 * i + 1)) (if (0 ≤ (xs (4 * i + 1)) ∧ (xs (4 * i + 1)) < 4) then none else some eI) (StOk.mem S) (sumf (fun k => if x 14 k = (xs (4 * i + 1)) then x 15 k * shX x k / 100 else 0) n) (c_X3_load l hl D ct a x n hn hn10 q hq hq8 hfd (xs (4 * i + 1)))
  have MM := c_X4_load l D ct b y n hnM hn10 hok (xs (4 * i + 1))
  rcases S with ⟨hoc, hT, hr, hA, hRE⟩ | ⟨E, hE, hoc, hT, h0, hB9, hRE⟩
  · skip
    rw [hoc] at M
    rw [if_pos hT, if_pos hT] at MM
    refine q_aload_n (pc2 := 765) C 3 dL_law_764 rfl rfl rfl ?_
    refine q_aload_n (pc2 := 766) C 4 dL_law_765 rfl rfl rfl ?_
    refine q_iload (pc2 := 768) C 0 dL_law_766 rfl rfl ?_
    refine q_iconst (v := 1) (pc2 := 769) C dL_law_768 (by decide) rfl ?_
    refine q_iadd (v := nI (4 * i + 1)) (pc2 := 770) C dL_law_769 (nI_add (4 * i) 1) rfl ?_
    refine q_sld (pc2 := 771) C hX hbl hbA (4 * i + 1) rfl (by omega) (by omega) dL_law_770 rfl ?_
    refine q_aload_n (pc2 := 772) C 1 dL_law_771 rfl rfl rfl ?_
    refine q_LH (pc2 := 775) (As := [.ref (a 30), .int (xs (4 * i + 1)), .ref o]) (st := []) (st2 := [.int 0]) (g' := vp_updL g 0 ((sumf (fun k => if x 14 k = (xs (4 * i + 1)) then x 15 k * shX x k / 100 else 0) n).toInt64)) (x' := x) (c2 := cells) (s2 := slots) C M (vx_cwSW 3 C.w gL_law_L_load rfl rfl rfl (by decide +kernel) ⟨Nat.le_of_ble_eq_true rfl, Nat.le_of_ble_eq_true rfl⟩) dL_law_772 rfl rfl (Nat.le_of_ble_eq_true rfl) ⟨hc0, hs0⟩ rfl rfl rfl rfl ?_
    refine q_istore (lv' := [(5, .int 0), (4, .int (nI (4 * i))), (3, .ref o), (2, .ref (b 30)), (1, .ref (a 30)), (0, .ref sb)]) (pc2 := 777) C dL_law_775 (by decide) rfl rfl ?_
    refine q_aload_n (pc2 := 778) C 3 dL_law_777 rfl rfl rfl ?_
    refine q_aload_n (pc2 := 779) C 5 dL_law_778 rfl rfl rfl ?_
    refine q_iload (pc2 := 781) C 1 dL_law_779 rfl rfl ?_
    refine q_iconst (v := 1) (pc2 := 782) C dL_law_781 (by decide) rfl ?_
    refine q_iadd (v := nI (4 * i + 1)) (pc2 := 783) C dL_law_782 (nI_add (4 * i) 1) rfl ?_
    refine q_sld (pc2 := 784) C hX hbl hbA (4 * i + 1) rfl (by omega) (by omega) dL_law_783 rfl ?_
    refine q_LM (pc2 := 787) (As := [.int (xs (4 * i + 1))]) (st := []) (st2 := [.int (sumf (fun k => if y 10 k = (xs (4 * i + 1)) then drw (y 5 k) * lvM y k / 100 else 0) n)]) (y' := set2 y 27 (fun _ => T1 (inR (xs (4 * i + 1)) 0 3))) C MM (cwV 1 C.w gL_law_X4_load rfl rfl rfl (by decide +kernel) ⟨Nat.le_of_ble_eq_true rfl, Nat.le_of_ble_eq_true rfl⟩) dL_law_784 rfl rfl (Nat.le_of_ble_eq_true rfl) ⟨hc0, hs0⟩ rfl rfl ?_
    refine q_istore (lv' := [(6, .int (sumf (fun k => if y 10 k = (xs (4 * i + 1)) then drw (y 5 k) * lvM y k / 100 else 0) n)), (5, .int 0), (4, .int (nI (4 * i))), (3, .ref o), (2, .ref (b 30)), (1, .ref (a 30)), (0, .ref sb)]) (pc2 := 789) C dL_law_787 (by decide) rfl rfl ?_
    refine q_aload_n (pc2 := 790) C 4 dL_law_789 rfl rfl rfl ?_
    refine q_LM (pc2 := 793) (As := []) (st := []) (st2 := [.int ((set2 y 27 (fun _ => T1 (inR (xs (4 * i + 1)) 0 3))) 27 0)]) (y' := set2 y 27 (fun _ => T1 (inR (xs (4 * i + 1)) 0 3))) C (c_X4_thrown l D ct b (set2 y 27 (fun _ => T1 (inR (xs (4 * i + 1)) 0 3)))) (cwV 0 C.w gL_law_X4_thrown rfl rfl rfl (by decide +kernel) ⟨Nat.le_of_ble_eq_true rfl, Nat.le_of_ble_eq_true rfl⟩) dL_law_790 rfl rfl (Nat.le_of_ble_eq_true rfl) ⟨hc0, hs0⟩ rfl rfl ?_
    refine q_iload (pc2 := 795) C 1 dL_law_793 rfl rfl ?_
    refine q_icmp_eq (tgt := 800) (pc2 := 798) C dL_law_795 (by decide) rfl (fun _ => ?_) (fun h9 => absurd (hA.trans hT) h9)
    refine q_iload (pc2 := 802) C 1 dL_law_800 rfl rfl ?_
    refine q_if_ne (tgt := 817) (pc2 := 805) C dL_law_802 (by decide) rfl (fun h9 => absurd rfl h9) (fun _ => ?_)
    refine q_aload_n (pc2 := 806) C 3 dL_law_805 rfl rfl rfl ?_
    refine q_iconst (v := 0) (pc2 := 807) C dL_law_806 (by decide) rfl ?_
    refine q_lald (pc2 := 808) C 0 (wL_g48 ct a b o (vp_updL g 0 ((sumf (fun k => if x 14 k = (xs (4 * i + 1)) then x 15 k * shX x k / 100 else 0) n).toInt64)) (x) (set2 y 27 (fun _ => T1 (inR (xs (4 * i + 1)) 0 3)))) rfl rfl (by decide) (by decide) dL_law_807 rfl ?_
    refine q_iload (pc2 := 810) C 0 dL_law_808 rfl rfl ?_
    refine q_i2l (pc2 := 811) C dL_law_810 rfl rfl ?_
    refine q_lcmp_eq (pc2 := 812) C ((if_pos rfl).trans (congrArg Int32.toInt64 hr)) dL_law_811 rfl ?_
    refine q_if_eq (tgt := 817) (pc2 := 815) C dL_law_812 (by decide) rfl (fun _ => ?_) (fun h9 => absurd rfl h9)
    refine q_goto (pc2 := 1473) C dL_law_817 (by decide) ?_
    refine q_widen (Nat.le_add_right cells 1) (Nat.le_add_right slots 6) ?_
    refine q_lv (lv' := [(4, .int (nI (4 * i))), (3, .ref o), (2, .ref (b 30)), (1, .ref (a 30)), (0, .ref sb)]) [2, 3, 4, 5, 6] rfl ?_
    exact kk _ _ _ (RE.mono (by omega) hRE)
  · skip
    rw [hoc] at M
    rw [if_neg h0, if_neg h0] at MM
    refine q_aload_n (pc2 := 765) C 3 dL_law_764 rfl rfl rfl ?_
    refine q_aload_n (pc2 := 766) C 4 dL_law_765 rfl rfl rfl ?_
    refine q_iload (pc2 := 768) C 0 dL_law_766 rfl rfl ?_
    refine q_iconst (v := 1) (pc2 := 769) C dL_law_768 (by decide) rfl ?_
    refine q_iadd (v := nI (4 * i + 1)) (pc2 := 770) C dL_law_769 (nI_add (4 * i) 1) rfl ?_
    refine q_sld (pc2 := 771) C hX hbl hbA (4 * i + 1) rfl (by omega) (by omega) dL_law_770 rfl ?_
    refine q_aload_n (pc2 := 772) C 1 dL_law_771 rfl rfl rfl ?_
    refine q_LH (pc2 := 775) (As := [.ref (a 30), .int (xs (4 * i + 1)), .ref o]) (st := []) (st2 := [.int (hcod [eI] (some E))]) (g' := g) (x' := x) (c2 := (cells + 1)) (s2 := (slots + 6)) C M (vx_cwSW 3 C.w gL_law_L_load rfl rfl rfl (by decide +kernel) ⟨Nat.le_of_ble_eq_true rfl, Nat.le_of_ble_eq_true rfl⟩) dL_law_772 rfl rfl (Nat.le_of_ble_eq_true rfl) ⟨hc, hs⟩ rfl rfl rfl rfl ?_
    refine q_istore (lv' := [(5, .int (hcod [eI] (some E))), (4, .int (nI (4 * i))), (3, .ref o), (2, .ref (b 30)), (1, .ref (a 30)), (0, .ref sb)]) (pc2 := 777) C dL_law_775 (by decide) rfl rfl ?_
    refine q_aload_n (pc2 := 778) C 3 dL_law_777 rfl rfl rfl ?_
    refine q_aload_n (pc2 := 779) C 5 dL_law_778 rfl rfl rfl ?_
    refine q_iload (pc2 := 781) C 1 dL_law_779 rfl rfl ?_
    refine q_iconst (v := 1) (pc2 := 782) C dL_law_781 (by decide) rfl ?_
    refine q_iadd (v := nI (4 * i + 1)) (pc2 := 783) C dL_law_782 (nI_add (4 * i) 1) rfl ?_
    refine q_sld (pc2 := 784) C hX hbl hbA (4 * i + 1) rfl (by omega) (by omega) dL_law_783 rfl ?_
    refine q_LM (pc2 := 787) (As := [.int (xs (4 * i + 1))]) (st := []) (st2 := [.int 0]) (y' := set2 y 27 (fun _ => T1 (inR (xs (4 * i + 1)) 0 3))) C MM (cwV 1 C.w gL_law_X4_load rfl rfl rfl (by decide +kernel) ⟨Nat.le_of_ble_eq_true rfl, Nat.le_of_ble_eq_true rfl⟩) dL_law_784 rfl rfl (Nat.le_of_ble_eq_true rfl) ⟨hc, hs⟩ rfl rfl ?_
    refine q_istore (lv' := [(6, .int 0), (5, .int (hcod [eI] (some E))), (4, .int (nI (4 * i))), (3, .ref o), (2, .ref (b 30)), (1, .ref (a 30)), (0, .ref sb)]) (pc2 := 789) C dL_law_787 (by decide) rfl rfl ?_
    refine q_aload_n (pc2 := 790) C 4 dL_law_789 rfl rfl rfl ?_
    refine q_LM (pc2 := 793) (As := []) (st := []) (st2 := [.int ((set2 y 27 (fun _ => T1 (inR (xs (4 * i + 1)) 0 3))) 27 0)]) (y' := set2 y 27 (fun _ => T1 (inR (xs (4 * i + 1)) 0 3))) C (c_X4_thrown l D ct b (set2 y 27 (fun _ => T1 (inR (xs (4 * i + 1)) 0 3)))) (cwV 0 C.w gL_law_X4_thrown rfl rfl rfl (by decide +kernel) ⟨Nat.le_of_ble_eq_true rfl, Nat.le_of_ble_eq_true rfl⟩) dL_law_790 rfl rfl (Nat.le_of_ble_eq_true rfl) ⟨hc, hs⟩ rfl rfl ?_
    refine q_iload (pc2 := 795) C 1 dL_law_793 rfl rfl ?_
    refine q_icmp_eq (tgt := 800) (pc2 := 798) C dL_law_795 (by decide) rfl (fun _ => ?_) (fun h9 => absurd (hB9.trans hT) h9)
    refine q_iload (pc2 := 802) C 1 dL_law_800 rfl rfl ?_
    refine q_if_ne (tgt := 817) (pc2 := 805) C dL_law_802 (by decide) rfl (fun _ => ?_) (fun h9 => absurd (hT.trans h9) h0)
    refine q_goto (pc2 := 1473) C dL_law_817 (by decide) ?_
    refine q_lv (lv' := [(4, .int (nI (4 * i))), (3, .ref o), (2, .ref (b 30)), (1, .ref (a 30)), (0, .ref sb)]) [2, 3, 4, 5, 6] rfl ?_
    exact kk g x _ (RE.mono (by omega) hRE)

set_option maxHeartbeats 4000000 in
set_option maxRecDepth 100000 in
theorem lc_onBar (l : Launch) (hl : l.stackTraces = false) {p : Program} {e : Env} {s : State} {m : MethodId} {args : Array Value} {below : List Frame} {meth : Method} {c : Code} {D : va_G} {ct : Nat → ClassId} {A : Nat → Prop} {Q : State → Prop} (C : Cx p s m args c meth cL_law 7 (some .boolean) wsL_law RL D ct A) {sb L : Nat} {xs : Nat → Int32} (hX : va_X sb L xs s s.heap) (hbl : sb < s.heap.size) (hbA : ¬ A sb) (hL : L ≤ 2048) {a b : Nat → Nat} {o : Nat} {g : Nat → Int64} {x y : Nat → Nat → Int32} {N : Nat} (hN : N + 50 < 2 ^ 29) (hR : RE N x y) {i : Nat} (hi : 4 * i + 4 ≤ L) {cells slots : Nat} (hc : cells + 1 ≤ 1088) (hs : slots + 6 ≤ 8873)
    (kk : ∀ (g' : Nat → Int64) (x' y' : Nat → Nat → Int32), RE (N + 50) x' y' → Cf p l e room_1 s m args below meth c D A 7 (cells + 1) (slots + 6) Q 1473 [(4, .int (nI (4 * i))), (3, .ref o), (2, .ref (b 30)), (1, .ref (a 30)), (0, .ref sb)] [] (wL ct a b o g' x' y')) : Cf p l e room_1 s m args below meth c D A 7 cells slots Q 435 [(4, .int (nI (4 * i))), (3, .ref o), (2, .ref (b 30)), (1, .ref (a 30)), (0, .ref sb)] [] (wL ct a b o g x y) := by
  obtain ⟨n, h, q, bb, t, ht, r⟩ := hR
  have S := st_onBar hN r ht (xs (4 * i + 1)) (xs (4 * i + 2))
  obtain ⟨hn10, hlt, hq8, hbq, hn, hnM, hh, hhM, hq, hqM, hb, hbM, hti, hTM, e1, e2, e3, e5, e6, e7, e11, e17, e18, e19, e20, hbars, hlen, hkind, hlow, hhigh, hfst, hplc, hnam, hcur, hrul, hbeg⟩ := id r
  have hc0 : cells ≤ 1088 := Nat.le_trans (Nat.le_succ cells) hc
  have hs0 : slots ≤ 8873 := Nat.le_trans (Nat.le_add_right slots 6) hs
  have hfd := fdk r
  have hok : ∀ k, k < 10 → wOk y k := fun k hk => TM_ok hTM (by omega) k hk
  have hBM : ∀ s, s < 2 → 0 ≤ y 1 s := fun s hs => by obtain ⟨k, hk, e⟩ := hbars s hs; rw [e]; exact nI_pos' (by omega)
  have hB : ∀ s, s < 2 → 0 ≤ x 5 s := fun s hs => by rw [e5]; exact hBM s hs
  obtain ⟨kb, hkb4, hkb⟩ := hbars h hlt
  have hkbX : x 5 h = nI kb := by rw [e5]; exact hkb
  have M := c_L_onBar l D ct a o g x (x) (xs (4 * i + 1)) (xs (4 * i + 2)) (if (0 ≤ (xs (4 * i + 1)) ∧ (xs (4 * i + 1)) < x 5 h) then (if ((rnkX x (xs (4 * i + 1)) (xs (4 * i + 2))) ≠ -1) then none else some eI) else some eI) (StOk.mem S) (rnkX x (xs (4 * i + 1)) (xs (4 * i + 2))) (c_X3_onBar l hl D ct a x h hh hlt kb hkbX hkb4 (xs (4 * i + 1)) (xs (4 * i + 2)))
  have MM := c_X4_onBar l D ct b y n hnM hn10 h hhM hlt kb hkb hkb4 (xs (4 * i + 1)) (xs (4 * i + 2))
  rcases S with ⟨hoc, hT, hr, hA, hRE⟩ | ⟨E, hE, hoc, hT, h0, hB9, hRE⟩
  · skip
    rw [hoc] at M
    rw [if_pos hT, if_pos hT] at MM
    refine q_aload_n (pc2 := 436) C 3 dL_law_435 rfl rfl rfl ?_
    refine q_aload_n (pc2 := 437) C 4 dL_law_436 rfl rfl rfl ?_
    refine q_iload (pc2 := 439) C 0 dL_law_437 rfl rfl ?_
    refine q_iconst (v := 1) (pc2 := 440) C dL_law_439 (by decide) rfl ?_
    refine q_iadd (v := nI (4 * i + 1)) (pc2 := 441) C dL_law_440 (nI_add (4 * i) 1) rfl ?_
    refine q_sld (pc2 := 442) C hX hbl hbA (4 * i + 1) rfl (by omega) (by omega) dL_law_441 rfl ?_
    refine q_aload_n (pc2 := 443) C 4 dL_law_442 rfl rfl rfl ?_
    refine q_iload (pc2 := 445) C 0 dL_law_443 rfl rfl ?_
    refine q_iconst (v := 2) (pc2 := 446) C dL_law_445 (by decide) rfl ?_
    refine q_iadd (v := nI (4 * i + 2)) (pc2 := 447) C dL_law_446 (nI_add (4 * i) 2) rfl ?_
    refine q_sld (pc2 := 448) C hX hbl hbA (4 * i + 2) rfl (by omega) (by omega) dL_law_447 rfl ?_
    refine q_aload_n (pc2 := 449) C 1 dL_law_448 rfl rfl rfl ?_
    refine q_LH (pc2 := 452) (As := [.ref (a 30), .int (xs (4 * i + 1)), .int (xs (4 * i + 2)), .ref o]) (st := []) (st2 := [.int 0]) (g' := vp_updL g 0 ((rnkX x (xs (4 * i + 1)) (xs (4 * i + 2))).toInt64)) (x' := x) (c2 := cells) (s2 := slots) C M (vx_cwSW 4 C.w gL_law_L_onBar rfl rfl rfl (by decide +kernel) ⟨Nat.le_of_ble_eq_true rfl, Nat.le_of_ble_eq_true rfl⟩) dL_law_449 rfl rfl (Nat.le_of_ble_eq_true rfl) ⟨hc0, hs0⟩ rfl rfl rfl rfl ?_
    refine q_istore (lv' := [(5, .int 0), (4, .int (nI (4 * i))), (3, .ref o), (2, .ref (b 30)), (1, .ref (a 30)), (0, .ref sb)]) (pc2 := 454) C dL_law_452 (by decide) rfl rfl ?_
    refine q_aload_n (pc2 := 455) C 3 dL_law_454 rfl rfl rfl ?_
    refine q_aload_n (pc2 := 456) C 5 dL_law_455 rfl rfl rfl ?_
    refine q_iload (pc2 := 458) C 1 dL_law_456 rfl rfl ?_
    refine q_iconst (v := 1) (pc2 := 459) C dL_law_458 (by decide) rfl ?_
    refine q_iadd (v := nI (4 * i + 1)) (pc2 := 460) C dL_law_459 (nI_add (4 * i) 1) rfl ?_
    refine q_sld (pc2 := 461) C hX hbl hbA (4 * i + 1) rfl (by omega) (by omega) dL_law_460 rfl ?_
    refine q_aload_n (pc2 := 462) C 5 dL_law_461 rfl rfl rfl ?_
    refine q_iload (pc2 := 464) C 1 dL_law_462 rfl rfl ?_
    refine q_iconst (v := 2) (pc2 := 465) C dL_law_464 (by decide) rfl ?_
    refine q_iadd (v := nI (4 * i + 2)) (pc2 := 466) C dL_law_465 (nI_add (4 * i) 2) rfl ?_
    refine q_sld (pc2 := 467) C hX hbl hbA (4 * i + 2) rfl (by omega) (by omega) dL_law_466 rfl ?_
    refine q_LM (pc2 := 470) (As := [.int (xs (4 * i + 1)), .int (xs (4 * i + 2))]) (st := []) (st2 := [.int (if (inR (xs (4 * i + 1)) 0 (y 1 h - 1) ∧ inR (xs (4 * i + 2)) 0 9) then rnkM y n (xs (4 * i + 1)) (xs (4 * i + 2)) else -1)]) (y' := set2 y 27 (fun _ => T1 ((if (inR (xs (4 * i + 1)) 0 (y 1 h - 1) ∧ inR (xs (4 * i + 2)) 0 9) then rnkM y n (xs (4 * i + 1)) (xs (4 * i + 2)) else -1) ≠ -1))) C MM (cwV 2 C.w gL_law_X4_onBar rfl rfl rfl (by decide +kernel) ⟨Nat.le_of_ble_eq_true rfl, Nat.le_of_ble_eq_true rfl⟩) dL_law_467 rfl rfl (Nat.le_of_ble_eq_true rfl) ⟨hc0, hs0⟩ rfl rfl ?_
    refine q_istore (lv' := [(6, .int (if (inR (xs (4 * i + 1)) 0 (y 1 h - 1) ∧ inR (xs (4 * i + 2)) 0 9) then rnkM y n (xs (4 * i + 1)) (xs (4 * i + 2)) else -1)), (5, .int 0), (4, .int (nI (4 * i))), (3, .ref o), (2, .ref (b 30)), (1, .ref (a 30)), (0, .ref sb)]) (pc2 := 472) C dL_law_470 (by decide) rfl rfl ?_
    refine q_aload_n (pc2 := 473) C 4 dL_law_472 rfl rfl rfl ?_
    refine q_LM (pc2 := 476) (As := []) (st := []) (st2 := [.int ((set2 y 27 (fun _ => T1 ((if (inR (xs (4 * i + 1)) 0 (y 1 h - 1) ∧ inR (xs (4 * i + 2)) 0 9) then rnkM y n (xs (4 * i + 1)) (xs (4 * i + 2)) else -1) ≠ -1))) 27 0)]) (y' := set2 y 27 (fun _ => T1 ((if (inR (xs (4 * i + 1)) 0 (y 1 h - 1) ∧ inR (xs (4 * i + 2)) 0 9) then rnkM y n (xs (4 * i + 1)) (xs (4 * i + 2)) else -1) ≠ -1))) C (c_X4_thrown l D ct b (set2 y 27 (fun _ => T1 ((if (inR (xs (4 * i + 1)) 0 (y 1 h - 1) ∧ inR (xs (4 * i + 2)) 0 9) then rnkM y n (xs (4 * i + 1)) (xs (4 * i + 2)) else -1) ≠ -1)))) (cwV 0 C.w gL_law_X4_thrown rfl rfl rfl (by decide +kernel) ⟨Nat.le_of_ble_eq_true rfl, Nat.le_of_ble_eq_true rfl⟩) dL_law_473 rfl rfl (Nat.le_of_ble_eq_true rfl) ⟨hc0, hs0⟩ rfl rfl ?_
    refine q_iload (pc2 := 478) C 1 dL_law_476 rfl rfl ?_
    refine q_icmp_eq (tgt := 483) (pc2 := 481) C dL_law_478 (by decide) rfl (fun _ => ?_) (fun h9 => absurd (hA.trans hT) h9)
    refine q_iload (pc2 := 485) C 1 dL_law_483 rfl rfl ?_
    refine q_if_ne (tgt := 500) (pc2 := 488) C dL_law_485 (by decide) rfl (fun h9 => absurd rfl h9) (fun _ => ?_)
    refine q_aload_n (pc2 := 489) C 3 dL_law_488 rfl rfl rfl ?_
    refine q_iconst (v := 0) (pc2 := 490) C dL_law_489 (by decide) rfl ?_
    refine q_lald (pc2 := 491) C 0 (wL_g48 ct a b o (vp_updL g 0 ((rnkX x (xs (4 * i + 1)) (xs (4 * i + 2))).toInt64)) (x) (set2 y 27 (fun _ => T1 ((if (inR (xs (4 * i + 1)) 0 (y 1 h - 1) ∧ inR (xs (4 * i + 2)) 0 9) then rnkM y n (xs (4 * i + 1)) (xs (4 * i + 2)) else -1) ≠ -1)))) rfl rfl (by decide) (by decide) dL_law_490 rfl ?_
    refine q_iload (pc2 := 493) C 0 dL_law_491 rfl rfl ?_
    refine q_i2l (pc2 := 494) C dL_law_493 rfl rfl ?_
    refine q_lcmp_eq (pc2 := 495) C ((if_pos rfl).trans (congrArg Int32.toInt64 hr)) dL_law_494 rfl ?_
    refine q_if_eq (tgt := 500) (pc2 := 498) C dL_law_495 (by decide) rfl (fun _ => ?_) (fun h9 => absurd rfl h9)
    refine q_goto (pc2 := 1473) C dL_law_500 (by decide) ?_
    refine q_widen (Nat.le_add_right cells 1) (Nat.le_add_right slots 6) ?_
    refine q_lv (lv' := [(4, .int (nI (4 * i))), (3, .ref o), (2, .ref (b 30)), (1, .ref (a 30)), (0, .ref sb)]) [2, 3, 4, 5, 6] rfl ?_
    exact kk _ _ _ (RE.mono (by omega) hRE)
  · skip
    rw [hoc] at M
    rw [if_neg h0, if_neg h0] at MM
    refine q_aload_n (pc2 := 436) C 3 dL_law_435 rfl rfl rfl ?_
    refine q_aload_n (pc2 := 437) C 4 dL_law_436 rfl rfl rfl ?_
    refine q_iload (pc2 := 439) C 0 dL_law_437 rfl rfl ?_
    refine q_iconst (v := 1) (pc2 := 440) C dL_law_439 (by decide) rfl ?_
    refine q_iadd (v := nI (4 * i + 1)) (pc2 := 441) C dL_law_440 (nI_add (4 * i) 1) rfl ?_
    refine q_sld (pc2 := 442) C hX hbl hbA (4 * i + 1) rfl (by omega) (by omega) dL_law_441 rfl ?_
    refine q_aload_n (pc2 := 443) C 4 dL_law_442 rfl rfl rfl ?_
    refine q_iload (pc2 := 445) C 0 dL_law_443 rfl rfl ?_
    refine q_iconst (v := 2) (pc2 := 446) C dL_law_445 (by decide) rfl ?_
    refine q_iadd (v := nI (4 * i + 2)) (pc2 := 447) C dL_law_446 (nI_add (4 * i) 2) rfl ?_
    refine q_sld (pc2 := 448) C hX hbl hbA (4 * i + 2) rfl (by omega) (by omega) dL_law_447 rfl ?_
    refine q_aload_n (pc2 := 449) C 1 dL_law_448 rfl rfl rfl ?_
    refine q_LH (pc2 := 452) (As := [.ref (a 30), .int (xs (4 * i + 1)), .int (xs (4 * i + 2)), .ref o]) (st := []) (st2 := [.int (hcod [eI] (some E))]) (g' := g) (x' := x) (c2 := (cells + 1)) (s2 := (slots + 6)) C M (vx_cwSW 4 C.w gL_law_L_onBar rfl rfl rfl (by decide +kernel) ⟨Nat.le_of_ble_eq_true rfl, Nat.le_of_ble_eq_true rfl⟩) dL_law_449 rfl rfl (Nat.le_of_ble_eq_true rfl) ⟨hc, hs⟩ rfl rfl rfl rfl ?_
    refine q_istore (lv' := [(5, .int (hcod [eI] (some E))), (4, .int (nI (4 * i))), (3, .ref o), (2, .ref (b 30)), (1, .ref (a 30)), (0, .ref sb)]) (pc2 := 454) C dL_law_452 (by decide) rfl rfl ?_
    refine q_aload_n (pc2 := 455) C 3 dL_law_454 rfl rfl rfl ?_
    refine q_aload_n (pc2 := 456) C 5 dL_law_455 rfl rfl rfl ?_
    refine q_iload (pc2 := 458) C 1 dL_law_456 rfl rfl ?_
    refine q_iconst (v := 1) (pc2 := 459) C dL_law_458 (by decide) rfl ?_
    refine q_iadd (v := nI (4 * i + 1)) (pc2 := 460) C dL_law_459 (nI_add (4 * i) 1) rfl ?_
    refine q_sld (pc2 := 461) C hX hbl hbA (4 * i + 1) rfl (by omega) (by omega) dL_law_460 rfl ?_
    refine q_aload_n (pc2 := 462) C 5 dL_law_461 rfl rfl rfl ?_
    refine q_iload (pc2 := 464) C 1 dL_law_462 rfl rfl ?_
    refine q_iconst (v := 2) (pc2 := 465) C dL_law_464 (by decide) rfl ?_
    refine q_iadd (v := nI (4 * i + 2)) (pc2 := 466) C dL_law_465 (nI_add (4 * i) 2) rfl ?_
    refine q_sld (pc2 := 467) C hX hbl hbA (4 * i + 2) rfl (by omega) (by omega) dL_law_466 rfl ?_
    refine q_LM (pc2 := 470) (As := [.int (xs (4 * i + 1)), .int (xs (4 * i + 2))]) (st := []) (st2 := [.int 0]) (y' := set2 y 27 (fun _ => T1 ((if (inR (xs (4 * i + 1)) 0 (y 1 h - 1) ∧ inR (xs (4 * i + 2)) 0 9) then rnkM y n (xs (4 * i + 1)) (xs (4 * i + 2)) else -1) ≠ -1))) C MM (cwV 2 C.w gL_law_X4_onBar rfl rfl rfl (by decide +kernel) ⟨Nat.le_of_ble_eq_true rfl, Nat.le_of_ble_eq_true rfl⟩) dL_law_467 rfl rfl (Nat.le_of_ble_eq_true rfl) ⟨hc, hs⟩ rfl rfl ?_
    refine q_istore (lv' := [(6, .int 0), (5, .int (hcod [eI] (some E))), (4, .int (nI (4 * i))), (3, .ref o), (2, .ref (b 30)), (1, .ref (a 30)), (0, .ref sb)]) (pc2 := 472) C dL_law_470 (by decide) rfl rfl ?_
    refine q_aload_n (pc2 := 473) C 4 dL_law_472 rfl rfl rfl ?_
    refine q_LM (pc2 := 476) (As := []) (st := []) (st2 := [.int ((set2 y 27 (fun _ => T1 ((if (inR (xs (4 * i + 1)) 0 (y 1 h - 1) ∧ inR (xs (4 * i + 2)) 0 9) then rnkM y n (xs (4 * i + 1)) (xs (4 * i + 2)) else -1) ≠ -1))) 27 0)]) (y' := set2 y 27 (fun _ => T1 ((if (inR (xs (4 * i + 1)) 0 (y 1 h - 1) ∧ inR (xs (4 * i + 2)) 0 9) then rnkM y n (xs (4 * i + 1)) (xs (4 * i + 2)) else -1) ≠ -1))) C (c_X4_thrown l D ct b (set2 y 27 (fun _ => T1 ((if (inR (xs (4 * i + 1)) 0 (y 1 h - 1) ∧ inR (xs (4 * i + 2)) 0 9) then rnkM y n (xs (4 * i + 1)) (xs (4 * i + 2)) else -1) ≠ -1)))) (cwV 0 C.w gL_law_X4_thrown rfl rfl rfl (by decide +kernel) ⟨Nat.le_of_ble_eq_true rfl, Nat.le_of_ble_eq_true rfl⟩) dL_law_473 rfl rfl (Nat.le_of_ble_eq_true rfl) ⟨hc, hs⟩ rfl rfl ?_
    refine q_iload (pc2 := 478) C 1 dL_law_476 rfl rfl ?_
    refine q_icmp_eq (tgt := 483) (pc2 := 481) C dL_law_478 (by decide) rfl (fun _ => ?_) (fun h9 => absurd (hB9.trans hT) h9)
    refine q_iload (pc2 := 485) C 1 dL_law_483 rfl rfl ?_
    refine q_if_ne (tgt := 500) (pc2 := 488) C dL_law_485 (by decide) rfl (fun _ => ?_) (fun h9 => absurd (hT.trans h9) h0)
    refine q_goto (pc2 := 1473) C dL_law_500 (by decide) ?_
    refine q_lv (lv' := [(4, .int (nI (4 * i))), (3, .ref o), (2, .ref (b 30)), (1, .ref (a 30)), (0, .ref sb)]) [2, 3, 4, 5, 6] rfl ?_
    exact kk g x _ (RE.mono (by omega) hRE)
