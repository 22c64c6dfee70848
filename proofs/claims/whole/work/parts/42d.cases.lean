/-! the law's cases -/
set_option maxHeartbeats 4000000 in
set_option maxRecDepth 100000 in
theorem lc_bar (l : Launch) (hl : l.stackTraces = false) {p : Program} {e : Env} {s : State} {m : MethodId} {args : Array Value} {below : List Frame} {meth : Method} {c : Code} {D : va_G} {ct : Nat → ClassId} {A : Nat → Prop} {Q : State → Prop} (C : Cx p s m args c meth cL_law 7 (some .boolean) wsL_law RL D ct A) {sb L : Nat} {xs : Nat → Int32} (hX : va_X sb L xs s s.heap) (hbl : sb < s.heap.size) (hbA : ¬ A sb) (hL : L ≤ 2048) {a b : Nat → Nat} {o : Nat} {g : Nat → Int64} {x y : Nat → Nat → Int32} {N : Nat} (hN : N + 50 < 2 ^ 29) (hR : RE N x y) {i : Nat} (hi : 4 * i + 4 ≤ L) {cells slots : Nat} (hc : cells + 1 ≤ 1088) (hs : slots + 6 ≤ 8873)
    (kk : ∀ (g' : Nat → Int64) (x' y' : Nat → Nat → Int32), RE (N + 50) x' y' → Cf p l e room_1 s m args below meth c D A 7 (cells + 1) (slots + 6) Q 1473 [(4, .int (nI (4 * i))), (3, .ref o), (2, .ref (b 30)), (1, .ref (a 30)), (0, .ref sb)] [] (wL ct a b o g' x' y')) : Cf p l e room_1 s m args below meth c D A 7 cells slots Q 144 [(4, .int (nI (4 * i))), (3, .ref o), (2, .ref (b 30)), (1, .ref (a 30)), (0, .ref sb)] [] (wL ct a b o g x y) := by
  obtain ⟨n, h, q, bb, t, ht, r⟩ := hR
  have S := st_bar hN r ht (xs (4 * i + 1)) (xs (4 * i + 2)) (xs (4 * i + 3))
  obtain ⟨hn10, hlt, hq8, hbq, hn, hnM, hh, hhM, hq, hqM, hb, hbM, hti, hTM, e1, e2, e3, e5, e6, e7, e11, e17, e18, e19, e20, hbars, hlen, hkind, hlow, hhigh, hfst, hplc, hnam, hcur, hrul, hbeg⟩ := id r
  have hc0 : cells ≤ 1088 := Nat.le_trans (Nat.le_succ cells) hc
  have hs0 : slots ≤ 8873 := Nat.le_trans (Nat.le_add_right slots 6) hs
  have hfd := fdk r
  have hok : ∀ k, k < 10 → wOk y k := fun k hk => TM_ok hTM (by omega) k hk
  have hBM : ∀ s, s < 2 → 0 ≤ y 1 s := fun s hs => by obtain ⟨k, hk, e⟩ := hbars s hs; rw [e]; exact nI_pos' (by omega)
  have hB : ∀ s, s < 2 → 0 ≤ x 5 s := fun s hs => by rw [e5]; exact hBM s hs
  obtain ⟨kb, hkb4, hkb⟩ := hbars h hlt
  have hkbX : x 5 h = nI kb := by rw [e5]; exact hkb
  have M := c_L_bar l D ct a o g x (set2 (set2 (set2 x 5 (upd (x 5) (xs (4 * i + 1)).toNatClampNeg (x 5 (xs (4 * i + 1)).toNatClampNeg + 1))) 6 (upd (x 6) (4 * (xs (4 * i + 1)).toNatClampNeg + (x 5 (xs (4 * i + 1)).toNatClampNeg).toNatClampNeg) (xs (4 * i + 2)))) 7 (upd (x 7) (4 * (xs (4 * i + 1)).toNatClampNeg + (x 5 (xs (4 * i + 1)).toNatClampNeg).toNatClampNeg) (xs (4 * i + 3)))) (xs (4 * i + 1)) (xs (4 * i + 2)) (xs (4 * i + 3)) (if (0 ≤ (xs (4 * i + 1)) ∧ (xs (4 * i + 1)) < 2) then (if (0 ≤ (xs (4 * i + 2)) ∧ (xs (4 * i + 2)) ≤ 100) then (if (1 ≤ (xs (4 * i + 3)) ∧ (xs (4 * i + 3)) ≤ 500) then (if (x 5 (xs (4 * i + 1)).toNatClampNeg < 4) then none else some eS) else some eA) else some eA) else some eI) (StOk.mem S) (nI (x 5 (xs (4 * i + 1)).toNatClampNeg).toNatClampNeg) (c_X3_bar l hl D ct a x hB (xs (4 * i + 1)) (xs (4 * i + 2)) (xs (4 * i + 3)))
  have MM := c_X4_bar l D ct b y hBM (xs (4 * i + 1)) (xs (4 * i + 2)) (xs (4 * i + 3))
  rcases S with ⟨hoc, hT, hr, hA, hRE⟩ | ⟨E, hE, hoc, hT, h0, hB9, hRE⟩
  · skip
    rw [hoc] at M
    rw [if_pos hT, if_pos hT] at MM
    refine q_aload_n (pc2 := 145) C 3 dL_law_144 rfl rfl rfl ?_
    refine q_aload_n (pc2 := 146) C 4 dL_law_145 rfl rfl rfl ?_
    refine q_iload (pc2 := 148) C 0 dL_law_146 rfl rfl ?_
    refine q_iconst (v := 1) (pc2 := 149) C dL_law_148 (by decide) rfl ?_
    refine q_iadd (v := nI (4 * i + 1)) (pc2 := 150) C dL_law_149 (nI_add (4 * i) 1) rfl ?_
    refine q_sld (pc2 := 151) C hX hbl hbA (4 * i + 1) rfl (by omega) (by omega) dL_law_150 rfl ?_
    refine q_aload_n (pc2 := 152) C 4 dL_law_151 rfl rfl rfl ?_
    refine q_iload (pc2 := 154) C 0 dL_law_152 rfl rfl ?_
    refine q_iconst (v := 2) (pc2 := 155) C dL_law_154 (by decide) rfl ?_
    refine q_iadd (v := nI (4 * i + 2)) (pc2 := 156) C dL_law_155 (nI_add (4 * i) 2) rfl ?_
    refine q_sld (pc2 := 157) C hX hbl hbA (4 * i + 2) rfl (by omega) (by omega) dL_law_156 rfl ?_
    refine q_aload_n (pc2 := 158) C 4 dL_law_157 rfl rfl rfl ?_
    refine q_iload (pc2 := 160) C 0 dL_law_158 rfl rfl ?_
    refine q_iconst (v := 3) (pc2 := 161) C dL_law_160 (by decide) rfl ?_
    refine q_iadd (v := nI (4 * i + 3)) (pc2 := 162) C dL_law_161 (nI_add (4 * i) 3) rfl ?_
    refine q_sld (pc2 := 163) C hX hbl hbA (4 * i + 3) rfl (by omega) (by omega) dL_law_162 rfl ?_
    refine q_aload_n (pc2 := 164) C 1 dL_law_163 rfl rfl rfl ?_
    refine q_LH (pc2 := 167) (As := [.ref (a 30), .int (xs (4 * i + 1)), .int (xs (4 * i + 2)), .int (xs (4 * i + 3)), .ref o]) (st := []) (st2 := [.int 0]) (g' := vp_updL g 0 ((nI (x 5 (xs (4 * i + 1)).toNatClampNeg).toNatClampNeg).toInt64)) (x' := set2 (set2 (set2 x 5 (upd (x 5) (xs (4 * i + 1)).toNatClampNeg (x 5 (xs (4 * i + 1)).toNatClampNeg + 1))) 6 (upd (x 6) (4 * (xs (4 * i + 1)).toNatClampNeg + (x 5 (xs (4 * i + 1)).toNatClampNeg).toNatClampNeg) (xs (4 * i + 2)))) 7 (upd (x 7) (4 * (xs (4 * i + 1)).toNatClampNeg + (x 5 (xs (4 * i + 1)).toNatClampNeg).toNatClampNeg) (xs (4 * i + 3)))) (c2 := cells) (s2 := slots) C M (vx_cwSW 5 C.w gL_law_L_bar rfl rfl rfl (by decide +kernel) ⟨Nat.le_of_ble_eq_true rfl, Nat.le_of_ble_eq_true rfl⟩) dL_law_164 rfl rfl (Nat.le_of_ble_eq_true rfl) ⟨hc0, hs0⟩ rfl rfl rfl rfl ?_
    refine q_istore (lv' := [(5, .int 0), (4, .int (nI (4 * i))), (3, .ref o), (2, .ref (b 30)), (1, .ref (a 30)), (0, .ref sb)]) (pc2 := 169) C dL_law_167 (by decide) rfl rfl ?_
    refine q_aload_n (pc2 := 170) C 3 dL_law_169 rfl rfl rfl ?_
    refine q_aload_n (pc2 := 171) C 5 dL_law_170 rfl rfl rfl ?_
    refine q_iload (pc2 := 173) C 1 dL_law_171 rfl rfl ?_
    refine q_iconst (v := 1) (pc2 := 174) C dL_law_173 (by decide) rfl ?_
    refine q_iadd (v := nI (4 * i + 1)) (pc2 := 175) C dL_law_174 (nI_add (4 * i) 1) rfl ?_
    refine q_sld (pc2 := 176) C hX hbl hbA (4 * i + 1) rfl (by omega) (by omega) dL_law_175 rfl ?_
    refine q_aload_n (pc2 := 177) C 5 dL_law_176 rfl rfl rfl ?_
    refine q_iload (pc2 := 179) C 1 dL_law_177 rfl rfl ?_
    refine q_iconst (v := 2) (pc2 := 180) C dL_law_179 (by decide) rfl ?_
    refine q_iadd (v := nI (4 * i + 2)) (pc2 := 181) C dL_law_180 (nI_add (4 * i) 2) rfl ?_
    refine q_sld (pc2 := 182) C hX hbl hbA (4 * i + 2) rfl (by omega) (by omega) dL_law_181 rfl ?_
    refine q_aload_n (pc2 := 183) C 5 dL_law_182 rfl rfl rfl ?_
    refine q_iload (pc2 := 185) C 1 dL_law_183 rfl rfl ?_
    refine q_iconst (v := 3) (pc2 := 186) C dL_law_185 (by decide) rfl ?_
    refine q_iadd (v := nI (4 * i + 3)) (pc2 := 187) C dL_law_186 (nI_add (4 * i) 3) rfl ?_
    refine q_sld (pc2 := 188) C hX hbl hbA (4 * i + 3) rfl (by omega) (by omega) dL_law_187 rfl ?_
    refine q_LM (pc2 := 191) (As := [.int (xs (4 * i + 1)), .int (xs (4 * i + 2)), .int (xs (4 * i + 3))]) (st := []) (st2 := [.int (y 1 (xs (4 * i + 1)).toNatClampNeg + 1 - 1)]) (y' := set2 (set2 (set2 (set2 y 27 (fun _ => T3 (inR (xs (4 * i + 1)) 0 1) (inR (xs (4 * i + 2)) 0 100 ∧ inR (xs (4 * i + 3)) 1 500) (inR (xs (4 * i + 1)) 0 1 ∧ y 1 (xs (4 * i + 1)).toNatClampNeg < 4))) 2 (upd (y 2) (4 * (xs (4 * i + 1)).toNatClampNeg + (y 1 (xs (4 * i + 1)).toNatClampNeg).toNatClampNeg) (xs (4 * i + 2)))) 3 (upd (y 3) (4 * (xs (4 * i + 1)).toNatClampNeg + (y 1 (xs (4 * i + 1)).toNatClampNeg).toNatClampNeg) (xs (4 * i + 3)))) 1 (upd (y 1) (xs (4 * i + 1)).toNatClampNeg (y 1 (xs (4 * i + 1)).toNatClampNeg + 1))) C MM (cwV 3 C.w gL_law_X4_bar rfl rfl rfl (by decide +kernel) ⟨Nat.le_of_ble_eq_true rfl, Nat.le_of_ble_eq_true rfl⟩) dL_law_188 rfl rfl (Nat.le_of_ble_eq_true rfl) ⟨hc0, hs0⟩ rfl rfl ?_
    refine q_istore (lv' := [(6, .int (y 1 (xs (4 * i + 1)).toNatClampNeg + 1 - 1)), (5, .int 0), (4, .int (nI (4 * i))), (3, .ref o), (2, .ref (b 30)), (1, .ref (a 30)), (0, .ref sb)]) (pc2 := 193) C dL_law_191 (by decide) rfl rfl ?_
    refine q_aload_n (pc2 := 194) C 4 dL_law_193 rfl rfl rfl ?_
    refine q_LM (pc2 := 197) (As := []) (st := []) (st2 := [.int ((set2 (set2 (set2 (set2 y 27 (fun _ => T3 (inR (xs (4 * i + 1)) 0 1) (inR (xs (4 * i + 2)) 0 100 ∧ inR (xs (4 * i + 3)) 1 500) (inR (xs (4 * i + 1)) 0 1 ∧ y 1 (xs (4 * i + 1)).toNatClampNeg < 4))) 2 (upd (y 2) (4 * (xs (4 * i + 1)).toNatClampNeg + (y 1 (xs (4 * i + 1)).toNatClampNeg).toNatClampNeg) (xs (4 * i + 2)))) 3 (upd (y 3) (4 * (xs (4 * i + 1)).toNatClampNeg + (y 1 (xs (4 * i + 1)).toNatClampNeg).toNatClampNeg) (xs (4 * i + 3)))) 1 (upd (y 1) (xs (4 * i + 1)).toNatClampNeg (y 1 (xs (4 * i + 1)).toNatClampNeg + 1))) 27 0)]) (y' := set2 (set2 (set2 (set2 y 27 (fun _ => T3 (inR (xs (4 * i + 1)) 0 1) (inR (xs (4 * i + 2)) 0 100 ∧ inR (xs (4 * i + 3)) 1 500) (inR (xs (4 * i + 1)) 0 1 ∧ y 1 (xs (4 * i + 1)).toNatClampNeg < 4))) 2 (upd (y 2) (4 * (xs (4 * i + 1)).toNatClampNeg + (y 1 (xs (4 * i + 1)).toNatClampNeg).toNatClampNeg) (xs (4 * i + 2)))) 3 (upd (y 3) (4 * (xs (4 * i + 1)).toNatClampNeg + (y 1 (xs (4 * i + 1)).toNatClampNeg).toNatClampNeg) (xs (4 * i + 3)))) 1 (upd (y 1) (xs (4 * i + 1)).toNatClampNeg (y 1 (xs (4 * i + 1)).toNatClampNeg + 1))) C (c_X4_thrown l D ct b (set2 (set2 (set2 (set2 y 27 (fun _ => T3 (inR (xs (4 * i + 1)) 0 1) (inR (xs (4 * i + 2)) 0 100 ∧ inR (xs (4 * i + 3)) 1 500) (inR (xs (4 * i + 1)) 0 1 ∧ y 1 (xs (4 * i + 1)).toNatClampNeg < 4))) 2 (upd (y 2) (4 * (xs (4 * i + 1)).toNatClampNeg + (y 1 (xs (4 * i + 1)).toNatClampNeg).toNatClampNeg) (xs (4 * i + 2)))) 3 (upd (y 3) (4 * (xs (4 * i + 1)).toNatClampNeg + (y 1 (xs (4 * i + 1)).toNatClampNeg).toNatClampNeg) (xs (4 * i + 3)))) 1 (upd (y 1) (xs (4 * i + 1)).toNatClampNeg (y 1 (xs (4 * i + 1)).toNatClampNeg + 1)))) (cwV 0 C.w gL_law_X4_thrown rfl rfl rfl (by decide +kernel) ⟨Nat.le_of_ble_eq_true rfl, Nat.le_of_ble_eq_true rfl⟩) dL_law_194 rfl rfl (Nat.le_of_ble_eq_true rfl) ⟨hc0, hs0⟩ rfl rfl ?_
    refine q_iload (pc2 := 199) C 1 dL_law_197 rfl rfl ?_
    refine q_icmp_eq (tgt := 204) (pc2 := 202) C dL_law_199 (by decide) rfl (fun _ => ?_) (fun h9 => absurd (hA.trans hT) h9)
    refine q_iload (pc2 := 206) C 1 dL_law_204 rfl rfl ?_
    refine q_if_ne (tgt := 221) (pc2 := 209) C dL_law_206 (by decide) rfl (fun h9 => absurd rfl h9) (fun _ => ?_)
    refine q_aload_n (pc2 := 210) C 3 dL_law_209 rfl rfl rfl ?_
    refine q_iconst (v := 0) (pc2 := 211) C dL_law_210 (by decide) rfl ?_
    refine q_lald (pc2 := 212) C 0 (wL_g48 ct a b o (vp_updL g 0 ((nI (x 5 (xs (4 * i + 1)).toNatClampNeg).toNatClampNeg).toInt64)) (set2 (set2 (set2 x 5 (upd (x 5) (xs (4 * i + 1)).toNatClampNeg (x 5 (xs (4 * i + 1)).toNatClampNeg + 1))) 6 (upd (x 6) (4 * (xs (4 * i + 1)).toNatClampNeg + (x 5 (xs (4 * i + 1)).toNatClampNeg).toNatClampNeg) (xs (4 * i + 2)))) 7 (upd (x 7) (4 * (xs (4 * i + 1)).toNatClampNeg + (x 5 (xs (4 * i + 1)).toNatClampNeg).toNatClampNeg) (xs (4 * i + 3)))) (set2 (set2 (set2 (set2 y 27 (fun _ => T3 (inR (xs (4 * i + 1)) 0 1) (inR (xs (4 * i + 2)) 0 100 ∧ inR (xs (4 * i + 3)) 1 500) (inR (xs (4 * i + 1)) 0 1 ∧ y 1 (xs (4 * i + 1)).toNatClampNeg < 4))) 2 (upd (y 2) (4 * (xs (4 * i + 1)).toNatClampNeg + (y 1 (xs (4 * i + 1)).toNatClampNeg).toNatClampNeg) (xs (4 * i + 2)))) 3 (upd (y 3) (4 * (xs (4 * i + 1)).toNatClampNeg + (y 1 (xs (4 * i + 1)).toNatClampNeg).toNatClampNeg) (xs (4 * i + 3)))) 1 (upd (y 1) (xs (4 * i + 1)).toNatClampNeg (y 1 (xs (4 * i + 1)).toNatClampNeg + 1)))) rfl rfl (by decide) (by decide) dL_law_211 rfl ?_
    refine q_iload (pc2 := 214) C 0 dL_law_212 rfl rfl ?_
    refine q_i2l (pc2 := 215) C dL_law_214 rfl rfl ?_
    refine q_lcmp_eq (pc2 := 216) C ((if_pos rfl).trans (congrArg Int32.toInt64 hr)) dL_law_215 rfl ?_
    refine q_if_eq (tgt := 221) (pc2 := 219) C dL_law_216 (by decide) rfl (fun _ => ?_) (fun h9 => absurd rfl h9)
    refine q_goto (pc2 := 1473) C dL_law_221 (by decide) ?_
    refine q_widen (Nat.le_add_right cells 1) (Nat.le_add_right slots 6) ?_
    refine q_lv (lv' := [(4, .int (nI (4 * i))), (3, .ref o), (2, .ref (b 30)), (1, .ref (a 30)), (0, .ref sb)]) [2, 3, 4, 5, 6] rfl ?_
    exact kk _ _ _ (RE.mono (by omega) hRE)
  · skip
    rw [hoc] at M
    rw [if_neg h0, if_neg h0] at MM
    refine q_aload_n (pc2 := 145) C 3 dL_law_144 rfl rfl rfl ?_
    refine q_aload_n (pc2 := 146) C 4 dL_law_145 rfl rfl rfl ?_
    refine q_iload (pc2 := 148) C 0 dL_law_146 rfl rfl ?_
    refine q_iconst (v := 1) (pc2 := 149) C dL_law_148 (by decide) rfl ?_
    refine q_iadd (v := nI (4 * i + 1)) (pc2 := 150) C dL_law_149 (nI_add (4 * i) 1) rfl ?_
    refine q_sld (pc2 := 151) C hX hbl hbA (4 * i + 1) rfl (by omega) (by omega) dL_law_150 rfl ?_
    refine q_aload_n (pc2 := 152) C 4 dL_law_151 rfl rfl rfl ?_
    refine q_iload (pc2 := 154) C 0 dL_law_152 rfl rfl ?_
    refine q_iconst (v := 2) (pc2 := 155) C dL_law_154 (by decide) rfl ?_
    refine q_iadd (v := nI (4 * i + 2)) (pc2 := 156) C dL_law_155 (nI_add (4 * i) 2) rfl ?_
    refine q_sld (pc2 := 157) C hX hbl hbA (4 * i + 2) rfl (by omega) (by omega) dL_law_156 rfl ?_
    refine q_aload_n (pc2 := 158) C 4 dL_law_157 rfl rfl rfl ?_
    refine q_iload (pc2 := 160) C 0 dL_law_158 rfl rfl ?_
    refine q_iconst (v := 3) (pc2 := 161) C dL_law_160 (by decide) rfl ?_
    refine q_iadd (v := nI (4 * i + 3)) (pc2 := 162) C dL_law_161 (nI_add (4 * i) 3) rfl ?_
    refine q_sld (pc2 := 163) C hX hbl hbA (4 * i + 3) rfl (by omega) (by omega) dL_law_162 rfl ?_
    refine q_aload_n (pc2 := 164) C 1 dL_law_163 rfl rfl rfl ?_
    refine q_LH (pc2 := 167) (As := [.ref (a 30), .int (xs (4 * i + 1)), .int (xs (4 * i + 2)), .int (xs (4 * i + 3)), .ref o]) (st := []) (st2 := [.int (hcod [eI, eA, eS] (some E))]) (g' := g) (x' := x) (c2 := (cells + 1)) (s2 := (slots + 6)) C M (vx_cwSW 5 C.w gL_law_L_bar rfl rfl rfl (by decide +kernel) ⟨Nat.le_of_ble_eq_true rfl, Nat.le_of_ble_eq_true rfl⟩) dL_law_164 rfl rfl (Nat.le_of_ble_eq_true rfl) ⟨hc, hs⟩ rfl rfl rfl rfl ?_
    refine q_istore (lv' := [(5, .int (hcod [eI, eA, eS] (some E))), (4, .int (nI (4 * i))), (3, .ref o), (2, .ref (b 30)), (1, .ref (a 30)), (0, .ref sb)]) (pc2 := 169) C dL_law_167 (by decide) rfl rfl ?_
    refine q_aload_n (pc2 := 170) C 3 dL_law_169 rfl rfl rfl ?_
    refine q_aload_n (pc2 := 171) C 5 dL_law_170 rfl rfl rfl ?_
    refine q_iload (pc2 := 173) C 1 dL_law_171 rfl rfl ?_
    refine q_iconst (v := 1) (pc2 := 174) C dL_law_173 (by decide) rfl ?_
    refine q_iadd (v := nI (4 * i + 1)) (pc2 := 175) C dL_law_174 (nI_add (4 * i) 1) rfl ?_
    refine q_sld (pc2 := 176) C hX hbl hbA (4 * i + 1) rfl (by omega) (by omega) dL_law_175 rfl ?_
    refine q_aload_n (pc2 := 177) C 5 dL_law_176 rfl rfl rfl ?_
    refine q_iload (pc2 := 179) C 1 dL_law_177 rfl rfl ?_
    refine q_iconst (v := 2) (pc2 := 180) C dL_law_179 (by decide) rfl ?_
    refine q_iadd (v := nI (4 * i + 2)) (pc2 := 181) C dL_law_180 (nI_add (4 * i) 2) rfl ?_
    refine q_sld (pc2 := 182) C hX hbl hbA (4 * i + 2) rfl (by omega) (by omega) dL_law_181 rfl ?_
    refine q_aload_n (pc2 := 183) C 5 dL_law_182 rfl rfl rfl ?_
    refine q_iload (pc2 := 185) C 1 dL_law_183 rfl rfl ?_
    refine q_iconst (v := 3) (pc2 := 186) C dL_law_185 (by decide) rfl ?_
    refine q_iadd (v := nI (4 * i + 3)) (pc2 := 187) C dL_law_186 (nI_add (4 * i) 3) rfl ?_
    refine q_sld (pc2 := 188) C hX hbl hbA (4 * i + 3) rfl (by omega) (by omega) dL_law_187 rfl ?_
    refine q_LM (pc2 := 191) (As := [.int (xs (4 * i + 1)), .int (xs (4 * i + 2)), .int (xs (4 * i + 3))]) (st := []) (st2 := [.int 0]) (y' := set2 y 27 (fun _ => T3 (inR (xs (4 * i + 1)) 0 1) (inR (xs (4 * i + 2)) 0 100 ∧ inR (xs (4 * i + 3)) 1 500) (inR (xs (4 * i + 1)) 0 1 ∧ y 1 (xs (4 * i + 1)).toNatClampNeg < 4))) C MM (cwV 3 C.w gL_law_X4_bar rfl rfl rfl (by decide +kernel) ⟨Nat.le_of_ble_eq_true rfl, Nat.le_of_ble_eq_true rfl⟩) dL_law_188 rfl rfl (Nat.le_of_ble_eq_true rfl) ⟨hc, hs⟩ rfl rfl ?_
    refine q_istore (lv' := [(6, .int 0), (5, .int (hcod [eI, eA, eS] (some E))), (4, .int (nI (4 * i))), (3, .ref o), (2, .ref (b 30)), (1, .ref (a 30)), (0, .ref sb)]) (pc2 := 193) C dL_law_191 (by decide) rfl rfl ?_
    refine q_aload_n (pc2 := 194) C 4 dL_law_193 rfl rfl rfl ?_
    refine q_LM (pc2 := 197) (As := []) (st := []) (st2 := [.int ((set2 y 27 (fun _ => T3 (inR (xs (4 * i + 1)) 0 1) (inR (xs (4 * i + 2)) 0 100 ∧ inR (xs (4 * i + 3)) 1 500) (inR (xs (4 * i + 1)) 0 1 ∧ y 1 (xs (4 * i + 1)).toNatClampNeg < 4))) 27 0)]) (y' := set2 y 27 (fun _ => T3 (inR (xs (4 * i + 1)) 0 1) (inR (xs (4 * i + 2)) 0 100 ∧ inR (xs (4 * i + 3)) 1 500) (inR (xs (4 * i + 1)) 0 1 ∧ y 1 (xs (4 * i + 1)).toNatClampNeg < 4))) C (c_X4_thrown l D ct b (set2 y 27 (fun _ => T3 (inR (xs (4 * i + 1)) 0 1) (inR (xs (4 * i + 2)) 0 100 ∧ inR (xs (4 * i + 3)) 1 500) (inR (xs (4 * i + 1)) 0 1 ∧ y 1 (xs (4 * i + 1)).toNatClampNeg < 4)))) (cwV 0 C.w gL_law_X4_thrown rfl rfl rfl (by decide +kernel) ⟨Nat.le_of_ble_eq_true rfl, Nat.le_of_ble_eq_true rfl⟩) dL_law_194 rfl rfl (Nat.le_of_ble_eq_true rfl) ⟨hc, hs⟩ rfl rfl ?_
    refine q_iload (pc2 := 199) C 1 dL_law_197 rfl rfl ?_
    refine q_icmp_eq (tgt := 204) (pc2 := 202) C dL_law_199 (by decide) rfl (fun _ => ?_) (fun h9 => absurd (hB9.trans hT) h9)
    refine q_iload (pc2 := 206) C 1 dL_law_204 rfl rfl ?_
    refine q_if_ne (tgt := 221) (pc2 := 209) C dL_law_206 (by decide) rfl (fun _ => ?_) (fun h9 => absurd (hT.trans h9) h0)
    refine q_goto (pc2 := 1473) C dL_law_221 (by decide) ?_
    refine q_lv (lv' := [(4, .int (nI (4 * i))), (3, .ref o), (2, .ref (b 30)), (1, .ref (a 30)), (0, .ref sb)]) [2, 3, 4, 5, 6] rfl ?_
    exact kk g x _ (RE.mono (by omega) hRE)

set_option maxHeartbeats 4000000 in
set_option maxRecDepth 100000 in
theorem lc_hang (l : Launch) (hl : l.stackTraces = false) {p : Program} {e : Env} {s : State} {m : MethodId} {args : Array Value} {below : List Frame} {meth : Method} {c : Code} {D : va_G} {ct : Nat → ClassId} {A : Nat → Prop} {Q : State → Prop} (C : Cx p s m args c meth cL_law 7 (some .boolean) wsL_law RL D ct A) {sb L : Nat} {xs : Nat → Int32} (hX : va_X sb L xs s s.heap) (hbl : sb < s.heap.size) (hbA : ¬ A sb) (hL : L ≤ 2048) {a b : Nat → Nat} {o : Nat} {g : Nat → Int64} {x y : Nat → Nat → Int32} {N : Nat} (hN : N + 50 < 2 ^ 29) (hR : RE N x y) {i : Nat} (hi : 4 * i + 4 ≤ L) {cells slots : Nat} (hc : cells + 1 ≤ 1088) (hs : slots + 6 ≤ 8873)
    (kk : ∀ (g' : Nat → Int64) (x' y' : Nat → Nat → Int32), RE (N + 50) x' y' → Cf p l e room_1 s m args below meth c D A 7 (cells + 1) (slots + 6) Q 1473 [(4, .int (nI (4 * i))), (3, .ref o), (2, .ref (b 30)), (1, .ref (a 30)), (0, .ref sb)] [] (wL ct a b o g' x' y')) : Cf p l e room_1 s m args below meth c D A 7 cells slots Q 292 [(4, .int (nI (4 * i))), (3, .ref o), (2, .ref (b 30)), (1, .ref (a 30)), (0, .ref sb)] [] (wL ct a b o g x y) := by
  obtain ⟨n, h, q, bb, t, ht, r⟩ := hR
  have S := st_hang hN r ht (xs (4 * i + 1)) (xs (4 * i + 2)) (xs (4 * i + 3))
  obtain ⟨hn10, hlt, hq8, hbq, hn, hnM, hh, hhM, hq, hqM, hb, hbM, hti, hTM, e1, e2, e3, e5, e6, e7, e11, e17, e18, e19, e20, hbars, hlen, hkind, hlow, hhigh, hfst, hplc, hnam, hcur, hrul, hbeg⟩ := id r
  have hc0 : cells ≤ 1088 := Nat.le_trans (Nat.le_succ cells) hc
  have hs0 : slots ≤ 8873 := Nat.le_trans (Nat.le_add_right slots 6) hs
  have hfd := fdk r
  have hok : ∀ k, k < 10 → wOk y k := fun k hk => TM_ok hTM (by omega) k hk
  have hBM : ∀ s, s < 2 → 0 ≤ y 1 s := fun s hs => by obtain ⟨k, hk, e⟩ := hbars s hs; rw [e]; exact nI_pos' (by omega)
  have hB : ∀ s, s < 2 → 0 ≤ x 5 s := fun s hs => by rw [e5]; exact hBM s hs
  obtain ⟨kb, hkb4, hkb⟩ := hbars h hlt
  have hkbX : x 5 h = nI kb := by rw [e5]; exact hkb
  have M := c_L_hang l D ct a o g x (set2 (set2 x 9 (upd (x 9) (xs (4 * i + 1)).toNatClampNeg (xs (4 * i + 2)))) 11 (upd (x 11) (xs (4 * i + 1)).toNatClampNeg (xs (4 * i + 3)))) (xs (4 * i + 1)) (xs (4 * i + 2)) (xs (4 * i + 3)) (if (0 ≤ (xs (4 * i + 1)) ∧ (xs (4 * i + 1)) < x 0 0) then (if (0 ≤ (xs (4 * i + 2)) ∧ (xs (4 * i + 2)) < x 5 h) then (if (plcX x h (xs (4 * i + 2)).toNatClampNeg (xs (4 * i + 3))) then (if (bearX x h (xs (4 * i + 1)).toNatClampNeg (xs (4 * i + 2)).toNatClampNeg ∧ clrX x (xs (4 * i + 1)) (xs (4 * i + 2)) (xs (4 * i + 3))) then none else some eS) else some eI) else some eI) else some eI) (StOk.mem S) (wOnX (set2 (set2 x 9 (upd (x 9) (xs (4 * i + 1)).toNatClampNeg (xs (4 * i + 2)))) 11 (upd (x 11) (xs (4 * i + 1)).toNatClampNeg (xs (4 * i + 3)))) (xs (4 * i + 2))) (c_X3_hang l hl D ct a x n hn hn10 h hh hlt kb hkbX hkb4 (xs (4 * i + 1)) (xs (4 * i + 2)) (xs (4 * i + 3)))
  have MM := c_X4_hang l D ct b y n hnM hn10 h hhM hlt kb hkb hkb4 (xs (4 * i + 1)) (xs (4 * i + 2)) (xs (4 * i + 3))
  rcases S with ⟨hoc, hT, hr, hA, hRE⟩ | ⟨E, hE, hoc, hT, h0, hB9, hRE⟩
  · skip
    rw [hoc] at M
    rw [if_pos hT, if_pos hT] at MM
    refine q_aload_n (pc2 := 293) C 3 dL_law_292 rfl rfl rfl ?_
    refine q_aload_n (pc2 := 294) C 4 dL_law_293 rfl rfl rfl ?_
    refine q_iload (pc2 := 296) C 0 dL_law_294 rfl rfl ?_
    refine q_iconst (v := 1) (pc2 := 297) C dL_law_296 (by decide) rfl ?_
    refine q_iadd (v := nI (4 * i + 1)) (pc2 := 298) C dL_law_297 (nI_add (4 * i) 1) rfl ?_
    refine q_sld (pc2 := 299) C hX hbl hbA (4 * i + 1) rfl (by omega) (by omega) dL_law_298 rfl ?_
    refine q_aload_n (pc2 := 300) C 4 dL_law_299 rfl rfl rfl ?_
    refine q_iload (pc2 := 302) C 0 dL_law_300 rfl rfl ?_
    refine q_iconst (v := 2) (pc2 := 303) C dL_law_302 (by decide) rfl ?_
    refine q_iadd (v := nI (4 * i + 2)) (pc2 := 304) C dL_law_303 (nI_add (4 * i) 2) rfl ?_
    refine q_sld (pc2 := 305) C hX hbl hbA (4 * i + 2) rfl (by omega) (by omega) dL_law_304 rfl ?_
    refine q_aload_n (pc2 := 306) C 4 dL_law_305 rfl rfl rfl ?_
    refine q_iload (pc2 := 308) C 0 dL_law_306 rfl rfl ?_
    refine q_iconst (v := 3) (pc2 := 309) C dL_law_308 (by decide) rfl ?_
    refine q_iadd (v := nI (4 * i + 3)) (pc2 := 310) C dL_law_309 (nI_add (4 * i) 3) rfl ?_
    refine q_sld (pc2 := 311) C hX hbl hbA (4 * i + 3) rfl (by omega) (by omega) dL_law_310 rfl ?_
    refine q_aload_n (pc2 := 312) C 1 dL_law_311 rfl rfl rfl ?_
    refine q_LH (pc2 := 315) (As := [.ref (a 30), .int (xs (4 * i + 1)), .int (xs (4 * i + 2)), .int (xs (4 * i + 3)), .ref o]) (st := []) (st2 := [.int 0]) (g' := vp_updL g 0 ((wOnX (set2 (set2 x 9 (upd (x 9) (xs (4 * i + 1)).toNatClampNeg (xs (4 * i + 2)))) 11 (upd (x 11) (xs (4 * i + 1)).toNatClampNeg (xs (4 * i + 3)))) (xs (4 * i + 2))).toInt64)) (x' := set2 (set2 x 9 (upd (x 9) (xs (4 * i + 1)).toNatClampNeg (xs (4 * i + 2)))) 11 (upd (x 11) (xs (4 * i + 1)).toNatClampNeg (xs (4 * i + 3)))) (c2 := cells) (s2 := slots) C M (vx_cwSW 5 C.w gL_law_L_hang rfl rfl rfl (by decide +kernel) ⟨Nat.le_of_ble_eq_true rfl, Nat.le_of_ble_eq_true rfl⟩) dL_law_312 rfl rfl (Nat.le_of_ble_eq_true rfl) ⟨hc0, hs0⟩ rfl rfl rfl rfl ?_
    refine q_istore (lv' := [(5, .int 0), (4, .int (nI (4 * i))), (3, .ref o), (2, .ref (b 30)), (1, .ref (a 30)), (0, .ref sb)]) (pc2 := 317) C dL_law_315 (by decide) rfl rfl ?_
    refine q_aload_n (pc2 := 318) C 3 dL_law_317 rfl rfl rfl ?_
    refine q_aload_n (pc2 := 319) C 5 dL_law_318 rfl rfl rfl ?_
    refine q_iload (pc2 := 321) C 1 dL_law_319 rfl rfl ?_
    refine q_iconst (v := 1) (pc2 := 322) C dL_law_321 (by decide) rfl ?_
    refine q_iadd (v := nI (4 * i + 1)) (pc2 := 323) C dL_law_322 (nI_add (4 * i) 1) rfl ?_
    refine q_sld (pc2 := 324) C hX hbl hbA (4 * i + 1) rfl (by omega) (by omega) dL_law_323 rfl ?_
    refine q_aload_n (pc2 := 325) C 5 dL_law_324 rfl rfl rfl ?_
    refine q_iload (pc2 := 327) C 1 dL_law_325 rfl rfl ?_
    refine q_iconst (v := 2) (pc2 := 328) C dL_law_327 (by decide) rfl ?_
    refine q_iadd (v := nI (4 * i + 2)) (pc2 := 329) C dL_law_328 (nI_add (4 * i) 2) rfl ?_
    refine q_sld (pc2 := 330) C hX hbl hbA (4 * i + 2) rfl (by omega) (by omega) dL_law_329 rfl ?_
    refine q_aload_n (pc2 := 331) C 5 dL_law_330 rfl rfl rfl ?_
    refine q_iload (pc2 := 333) C 1 dL_law_331 rfl rfl ?_
    refine q_iconst (v := 3) (pc2 := 334) C dL_law_333 (by decide) rfl ?_
    refine q_iadd (v := nI (4 * i + 3)) (pc2 := 335) C dL_law_334 (nI_add (4 * i) 3) rfl ?_
    refine q_sld (pc2 := 336) C hX hbl hbA (4 * i + 3) rfl (by omega) (by omega) dL_law_335 rfl ?_
    refine q_LM (pc2 := 339) (As := [.int (xs (4 * i + 1)), .int (xs (4 * i + 2)), .int (xs (4 * i + 3))]) (st := []) (st2 := [.int (wOnM (set2 (set2 (set2 y 27 (fun _ => T2 (inR (xs (4 * i + 1)) 0 (y 4 0 - 1) ∧ inR (xs (4 * i + 2)) 0 (y 1 h - 1) ∧ inR (xs (4 * i + 3)) 0 (y 2 (4 * h + (xs (4 * i + 2)).toNatClampNeg))) ((inR (xs (4 * i + 1)) 0 (y 4 0 - 1) ∧ inR (xs (4 * i + 2)) 0 (y 1 h - 1) ∧ inR (xs (4 * i + 3)) 0 (y 2 (4 * h + (xs (4 * i + 2)).toNatClampNeg))) ∧ canM y n h (xs (4 * i + 1)) (xs (4 * i + 2)) (xs (4 * i + 3))))) 7 (upd (y 7) (xs (4 * i + 1)).toNatClampNeg (xs (4 * i + 2)))) 8 (upd (y 8) (xs (4 * i + 1)).toNatClampNeg (xs (4 * i + 3)))) n (xs (4 * i + 2)) (-1))]) (y' := set2 (set2 (set2 y 27 (fun _ => T2 (inR (xs (4 * i + 1)) 0 (y 4 0 - 1) ∧ inR (xs (4 * i + 2)) 0 (y 1 h - 1) ∧ inR (xs (4 * i + 3)) 0 (y 2 (4 * h + (xs (4 * i + 2)).toNatClampNeg))) ((inR (xs (4 * i + 1)) 0 (y 4 0 - 1) ∧ inR (xs (4 * i + 2)) 0 (y 1 h - 1) ∧ inR (xs (4 * i + 3)) 0 (y 2 (4 * h + (xs (4 * i + 2)).toNatClampNeg))) ∧ canM y n h (xs (4 * i + 1)) (xs (4 * i + 2)) (xs (4 * i + 3))))) 7 (upd (y 7) (xs (4 * i + 1)).toNatClampNeg (xs (4 * i + 2)))) 8 (upd (y 8) (xs (4 * i + 1)).toNatClampNeg (xs (4 * i + 3)))) C MM (cwV 3 C.w gL_law_X4_hang rfl rfl rfl (by decide +kernel) ⟨Nat.le_of_ble_eq_true rfl, Nat.le_of_ble_eq_true rfl⟩) dL_law_336 rfl rfl (Nat.le_of_ble_eq_true rfl) ⟨hc0, hs0⟩ rfl rfl ?_
    refine q_istore (lv' := [(6, .int (wOnM (set2 (set2 (set2 y 27 (fun _ => T2 (inR (xs (4 * i + 1)) 0 (y 4 0 - 1) ∧ inR (xs (4 * i + 2)) 0 (y 1 h - 1) ∧ inR (xs (4 * i + 3)) 0 (y 2 (4 * h + (xs (4 * i + 2)).toNatClampNeg))) ((inR (xs (4 * i + 1)) 0 (y 4 0 - 1) ∧ inR (xs (4 * i + 2)) 0 (y 1 h - 1) ∧ inR (xs (4 * i + 3)) 0 (y 2 (4 * h + (xs (4 * i + 2)).toNatClampNeg))) ∧ canM y n h (xs (4 * i + 1)) (xs (4 * i + 2)) (xs (4 * i + 3))))) 7 (upd (y 7) (xs (4 * i + 1)).toNatClampNeg (xs (4 * i + 2)))) 8 (upd (y 8) (xs (4 * i + 1)).toNatClampNeg (xs (4 * i + 3)))) n (xs (4 * i + 2)) (-1))), (5, .int 0), (4, .int (nI (4 * i))), (3, .ref o), (2, .ref (b 30)), (1, .ref (a 30)), (0, .ref sb)]) (pc2 := 341) C dL_law_339 (by decide) rfl rfl ?_
    refine q_aload_n (pc2 := 342) C 4 dL_law_341 rfl rfl rfl ?_
    refine q_LM (pc2 := 345) (As := []) (st := []) (st2 := [.int ((set2 (set2 (set2 y 27 (fun _ => T2 (inR (xs (4 * i + 1)) 0 (y 4 0 - 1) ∧ inR (xs (4 * i + 2)) 0 (y 1 h - 1) ∧ inR (xs (4 * i + 3)) 0 (y 2 (4 * h + (xs (4 * i + 2)).toNatClampNeg))) ((inR (xs (4 * i + 1)) 0 (y 4 0 - 1) ∧ inR (xs (4 * i + 2)) 0 (y 1 h - 1) ∧ inR (xs (4 * i + 3)) 0 (y 2 (4 * h + (xs (4 * i + 2)).toNatClampNeg))) ∧ canM y n h (xs (4 * i + 1)) (xs (4 * i + 2)) (xs (4 * i + 3))))) 7 (upd (y 7) (xs (4 * i + 1)).toNatClampNeg (xs (4 * i + 2)))) 8 (upd (y 8) (xs (4 * i + 1)).toNatClampNeg (xs (4 * i + 3)))) 27 0)]) (y' := set2 (set2 (set2 y 27 (fun _ => T2 (inR (xs (4 * i + 1)) 0 (y 4 0 - 1) ∧ inR (xs (4 * i + 2)) 0 (y 1 h - 1) ∧ inR (xs (4 * i + 3)) 0 (y 2 (4 * h + (xs (4 * i + 2)).toNatClampNeg))) ((inR (xs (4 * i + 1)) 0 (y 4 0 - 1) ∧ inR (xs (4 * i + 2)) 0 (y 1 h - 1) ∧ inR (xs (4 * i + 3)) 0 (y 2 (4 * h + (xs (4 * i + 2)).toNatClampNeg))) ∧ canM y n h (xs (4 * i + 1)) (xs (4 * i + 2)) (xs (4 * i + 3))))) 7 (upd (y 7) (xs (4 * i + 1)).toNatClampNeg (xs (4 * i + 2)))) 8 (upd (y 8) (xs (4 * i + 1)).toNatClampNeg (xs (4 * i + 3)))) C (c_X4_thrown l D ct b (set2 (set2 (set2 y 27 (fun _ => T2 (inR (xs (4 * i + 1)) 0 (y 4 0 - 1) ∧ inR (xs (4 * i + 2)) 0 (y 1 h - 1) ∧ inR (xs (4 * i + 3)) 0 (y 2 (4 * h + (xs (4 * i + 2)).toNatClampNeg))) ((inR (xs (4 * i + 1)) 0 (y 4 0 - 1) ∧ inR (xs (4 * i + 2)) 0 (y 1 h - 1) ∧ inR (xs (4 * i + 3)) 0 (y 2 (4 * h + (xs (4 * i + 2)).toNatClampNeg))) ∧ canM y n h (xs (4 * i + 1)) (xs (4 * i + 2)) (xs (4 * i + 3))))) 7 (upd (y 7) (xs (4 * i + 1)).toNatClampNeg (xs (4 * i + 2)))) 8 (upd (y 8) (xs (4 * i + 1)).toNatClampNeg (xs (4 * i + 3))))) (cwV 0 C.w gL_law_X4_thrown rfl rfl rfl (by decide +kernel) ⟨Nat.le_of_ble_eq_true rfl, Nat.le_of_ble_eq_true rfl⟩) dL_law_342 rfl rfl (Nat.le_of_ble_eq_true rfl) ⟨hc0, hs0⟩ rfl rfl ?_
    refine q_iload (pc2 := 347) C 1 dL_law_345 rfl rfl ?_
    refine q_icmp_eq (tgt := 352) (pc2 := 350) C dL_law_347 (by decide) rfl (fun _ => ?_) (fun h9 => absurd (hA.trans hT) h9)
    refine q_iload (pc2 := 354) C 1 dL_law_352 rfl rfl ?_
    refine q_if_ne (tgt := 369) (pc2 := 357) C dL_law_354 (by decide) rfl (fun h9 => absurd rfl h9) (fun _ => ?_)
    refine q_aload_n (pc2 := 358) C 3 dL_law_357 rfl rfl rfl ?_
    refine q_iconst (v := 0) (pc2 := 359) C dL_law_358 (by decide) rfl ?_
    refine q_lald (pc2 := 360) C 0 (wL_g48 ct a b o (vp_updL g 0 ((wOnX (set2 (set2 x 9 (upd (x 9) (xs (4 * i + 1)).toNatClampNeg (xs (4 * i + 2)))) 11 (upd (x 11) (xs (4 * i + 1)).toNatClampNeg (xs (4 * i + 3)))) (xs (4 * i + 2))).toInt64)) (set2 (set2 x 9 (upd (x 9) (xs (4 * i + 1)).toNatClampNeg (xs (4 * i + 2)))) 11 (upd (x 11) (xs (4 * i + 1)).toNatClampNeg (xs (4 * i + 3)))) (set2 (set2 (set2 y 27 (fun _ => T2 (inR (xs (4 * i + 1)) 0 (y 4 0 - 1) ∧ inR (xs (4 * i + 2)) 0 (y 1 h - 1) ∧ inR (xs (4 * i + 3)) 0 (y 2 (4 * h + (xs (4 * i + 2)).toNatClampNeg))) ((inR (xs (4 * i + 1)) 0 (y 4 0 - 1) ∧ inR (xs (4 * i + 2)) 0 (y 1 h - 1) ∧ inR (xs (4 * i + 3)) 0 (y 2 (4 * h + (xs (4 * i + 2)).toNatClampNeg))) ∧ canM y n h (xs (4 * i + 1)) (xs (4 * i + 2)) (xs (4 * i + 3))))) 7 (upd (y 7) (xs (4 * i + 1)).toNatClampNeg (xs (4 * i + 2)))) 8 (upd (y 8) (xs (4 * i + 1)).toNatClampNeg (xs (4 * i + 3))))) rfl rfl (by decide) (by decide) dL_law_359 rfl ?_
    refine q_iload (pc2 := 362) C 0 dL_law_360 rfl rfl ?_
    refine q_i2l (pc2 := 363) C dL_law_362 rfl rfl ?_
    refine q_lcmp_eq (pc2 := 364) C ((if_pos rfl).trans (congrArg Int32.toInt64 hr)) dL_law_363 rfl ?_
    refine q_if_eq (tgt := 369) (pc2 := 367) C dL_law_364 (by decide) rfl (fun _ => ?_) (fun h9 => absurd rfl h9)
    refine q_goto (pc2 := 1473) C dL_law_369 (by decide) ?_
    refine q_widen (Nat.le_add_right cells 1) (Nat.le_add_right slots 6) ?_
    refine q_lv (lv' := [(4, .int (nI (4 * i))), (3, .ref o), (2, .ref (b 30)), (1, .ref (a 30)), (0, .ref sb)]) [2, 3, 4, 5, 6] rfl ?_
    exact kk _ _ _ (RE.mono (by omega) hRE)
  · skip
    rw [hoc] at M
    rw [if_neg h0, if_neg h0] at MM
    refine q_aload_n (pc2 := 293) C 3 dL_law_292 rfl rfl rfl ?_
    refine q_aload_n (pc2 := 294) C 4 dL_law_293 rfl rfl rfl ?_
    refine q_iload (pc2 := 296) C 0 dL_law_294 rfl rfl ?_
    refine q_iconst (v := 1) (pc2 := 297) C dL_law_296 (by decide) rfl ?_
    refine q_iadd (v := nI (4 * i + 1)) (pc2 := 298) C dL_law_297 (nI_add (4 * i) 1) rfl ?_
    refine q_sld (pc2 := 299) C hX hbl hbA (4 * i + 1) rfl (by omega) (by omega) dL_law_298 rfl ?_
    refine q_aload_n (pc2 := 300) C 4 dL_law_299 rfl rfl rfl ?_
    refine q_iload (pc2 := 302) C 0 dL_law_300 rfl rfl ?_
    refine q_iconst (v := 2) (pc2 := 303) C dL_law_302 (by decide) rfl ?_
    refine q_iadd (v := nI (4 * i + 2)) (pc2 := 304) C dL_law_303 (nI_add (4 * i) 2) rfl ?_
    refine q_sld (pc2 := 305) C hX hbl hbA (4 * i + 2) rfl (by omega) (by omega) dL_law_304 rfl ?_
    refine q_aload_n (pc2 := 306) C 4 dL_law_305 rfl rfl rfl ?_
    refine q_iload (pc2 := 308) C 0 dL_law_306 rfl rfl ?_
    refine q_iconst (v := 3) (pc2 := 309) C dL_law_308 (by decide) rfl ?_
    refine q_iadd (v := nI (4 * i + 3)) (pc2 := 310) C dL_law_309 (nI_add (4 * i) 3) rfl ?_
    refine q_sld (pc2 := 311) C hX hbl hbA (4 * i + 3) rfl (by omega) (by omega) dL_law_310 rfl ?_
    refine q_aload_n (pc2 := 312) C 1 dL_law_311 rfl rfl rfl ?_
    refine q_LH (pc2 := 315) (As := [.ref (a 30), .int (xs (4 * i + 1)), .int (xs (4 * i + 2)), .int (xs (4 * i + 3)), .ref o]) (st := []) (st2 := [.int (hcod [eI, eS] (some E))]) (g' := g) (x' := x) (c2 := (cells + 1)) (s2 := (slots + 6)) C M (vx_cwSW 5 C.w gL_law_L_hang rfl rfl rfl (by decide +kernel) ⟨Nat.le_of_ble_eq_true rfl, Nat.le_of_ble_eq_true rfl⟩) dL_law_312 rfl rfl (Nat.le_of_ble_eq_true rfl) ⟨hc, hs⟩ rfl rfl rfl rfl ?_
    refine q_istore (lv' := [(5, .int (hcod [eI, eS] (some E))), (4, .int (nI (4 * i))), (3, .ref o), (2, .ref (b 30)), (1, .ref (a 30)), (0, .ref sb)]) (pc2 := 317) C dL_law_315 (by decide) rfl rfl ?_
    refine q_aload_n (pc2 := 318) C 3 dL_law_317 rfl rfl rfl ?_
    refine q_aload_n (pc2 := 319) C 5 dL_law_318 rfl rfl rfl ?_
    refine q_iload (pc2 := 321) C 1 dL_law_319 rfl rfl ?_
    refine q_iconst (v := 1) (pc2 := 322) C dL_law_321 (by decide) rfl ?_
    refine q_iadd (v := nI (4 * i + 1)) (pc2 := 323) C dL_law_322 (nI_add (4 * i) 1) rfl ?_
    refine q_sld (pc2 := 324) C hX hbl hbA (4 * i + 1) rfl (by omega) (by omega) dL_law_323 rfl ?_
    refine q_aload_n (pc2 := 325) C 5 dL_law_324 rfl rfl rfl ?_
    refine q_iload (pc2 := 327) C 1 dL_law_325 rfl rfl ?_
    refine q_iconst (v := 2) (pc2 := 328) C dL_law_327 (by decide) rfl ?_
    refine q_iadd (v := nI (4 * i + 2)) (pc2 := 329) C dL_law_328 (nI_add (4 * i) 2) rfl ?_
    refine q_sld (pc2 := 330) C hX hbl hbA (4 * i + 2) rfl (by omega) (by omega) dL_law_329 rfl ?_
    refine q_aload_n (pc2 := 331) C 5 dL_law_330 rfl rfl rfl ?_
    refine q_iload (pc2 := 333) C 1 dL_law_331 rfl rfl ?_
    refine q_iconst (v := 3) (pc2 := 334) C dL_law_333 (by decide) rfl ?_
    refine q_iadd (v := nI (4 * i + 3)) (pc2 := 335) C dL_law_334 (nI_add (4 * i) 3) rfl ?_
    refine q_sld (pc2 := 336) C hX hbl hbA (4 * i + 3) rfl (by omega) (by omega) dL_law_335 rfl ?_
    refine q_LM (pc2 := 339) (As := [.int (xs (4 * i + 1)), .int (xs (4 * i + 2)), .int (xs (4 * i + 3))]) (st := []) (st2 := [.int 0]) (y' := set2 y 27 (fun _ => T2 (inR (xs (4 * i + 1)) 0 (y 4 0 - 1) ∧ inR (xs (4 * i + 2)) 0 (y 1 h - 1) ∧ inR (xs (4 * i + 3)) 0 (y 2 (4 * h + (xs (4 * i + 2)).toNatClampNeg))) ((inR (xs (4 * i + 1)) 0 (y 4 0 - 1) ∧ inR (xs (4 * i + 2)) 0 (y 1 h - 1) ∧ inR (xs (4 * i + 3)) 0 (y 2 (4 * h + (xs (4 * i + 2)).toNatClampNeg))) ∧ canM y n h (xs (4 * i + 1)) (xs (4 * i + 2)) (xs (4 * i + 3))))) C MM (cwV 3 C.w gL_law_X4_hang rfl rfl rfl (by decide +kernel) ⟨Nat.le_of_ble_eq_true rfl, Nat.le_of_ble_eq_true rfl⟩) dL_law_336 rfl rfl (Nat.le_of_ble_eq_true rfl) ⟨hc, hs⟩ rfl rfl ?_
    refine q_istore (lv' := [(6, .int 0), (5, .int (hcod [eI, eS] (some E))), (4, .int (nI (4 * i))), (3, .ref o), (2, .ref (b 30)), (1, .ref (a 30)), (0, .ref sb)]) (pc2 := 341) C dL_law_339 (by decide) rfl rfl ?_
    refine q_aload_n (pc2 := 342) C 4 dL_law_341 rfl rfl rfl ?_
    refine q_LM (pc2 := 345) (As := []) (st := []) (st2 := [.int ((set2 y 27 (fun _ => T2 (inR (xs (4 * i + 1)) 0 (y 4 0 - 1) ∧ inR (xs (4 * i + 2)) 0 (y 1 h - 1) ∧ inR (xs (4 * i + 3)) 0 (y 2 (4 * h + (xs (4 * i + 2)).toNatClampNeg))) ((inR (xs (4 * i + 1)) 0 (y 4 0 - 1) ∧ inR (xs (4 * i + 2)) 0 (y 1 h - 1) ∧ inR (xs (4 * i + 3)) 0 (y 2 (4 * h + (xs (4 * i + 2)).toNatClampNeg))) ∧ canM y n h (xs (4 * i + 1)) (xs (4 * i + 2)) (xs (4 * i + 3))))) 27 0)]) (y' := set2 y 27 (fun _ => T2 (inR (xs (4 * i + 1)) 0 (y 4 0 - 1) ∧ inR (xs (4 * i + 2)) 0 (y 1 h - 1) ∧ inR (xs (4 * i + 3)) 0 (y 2 (4 * h + (xs (4 * i + 2)).toNatClampNeg))) ((inR (xs (4 * i + 1)) 0 (y 4 0 - 1) ∧ inR (xs (4 * i + 2)) 0 (y 1 h - 1) ∧ inR (xs (4 * i + 3)) 0 (y 2 (4 * h + (xs (4 * i + 2)).toNatClampNeg))) ∧ canM y n h (xs (4 * i + 1)) (xs (4 * i + 2)) (xs (4 * i + 3))))) C (c_X4_thrown l D ct b (set2 y 27 (fun _ => T2 (inR (xs (4 * i + 1)) 0 (y 4 0 - 1) ∧ inR (xs (4 * i + 2)) 0 (y 1 h - 1) ∧ inR (xs (4 * i + 3)) 0 (y 2 (4 * h + (xs (4 * i + 2)).toNatClampNeg))) ((inR (xs (4 * i + 1)) 0 (y 4 0 - 1) ∧ inR (xs (4 * i + 2)) 0 (y 1 h - 1) ∧ inR (xs (4 * i + 3)) 0 (y 2 (4 * h + (xs (4 * i + 2)).toNatClampNeg))) ∧ canM y n h (xs (4 * i + 1)) (xs (4 * i + 2)) (xs (4 * i + 3)))))) (cwV 0 C.w gL_law_X4_thrown rfl rfl rfl (by decide +kernel) ⟨Nat.le_of_ble_eq_true rfl, Nat.le_of_ble_eq_true rfl⟩) dL_law_342 rfl rfl (Nat.le_of_ble_eq_true rfl) ⟨hc, hs⟩ rfl rfl ?_
    refine q_iload (pc2 := 347) C 1 dL_law_345 rfl rfl ?_
    refine q_icmp_eq (tgt := 352) (pc2 := 350) C dL_law_347 (by decide) rfl (fun _ => ?_) (fun h9 => absurd (hB9.trans hT) h9)
    refine q_iload (pc2 := 354) C 1 dL_law_352 rfl rfl ?_
    refine q_if_ne (tgt := 369) (pc2 := 357) C dL_law_354 (by decide) rfl (fun _ => ?_) (fun h9 => absurd (hT.trans h9) h0)
    refine q_goto (pc2 := 1473) C dL_law_369 (by decide) ?_
    refine q_lv (lv' := [(4, .int (nI (4 * i))), (3, .ref o), (2, .ref (b 30)), (1, .ref (a 30)), (0, .ref sb)]) [2, 3, 4, 5, 6] rfl ?_
    exact kk g x _ (RE.mono (by omega) hRE)

set_option maxHeartbeats 4000000 in
set_option maxRecDepth 100000 in
theorem lc_name (l : Launch) (hl : l.stackTraces = false) {p : Program} {e : Env} {s : State} {m : MethodId} {args : Array Value} {below : List Frame} {meth : Method} {c : Code} {D : va_G} {ct : Nat → ClassId} {A : Nat → Prop} {Q : State → Prop} (C : Cx p s m args c meth cL_law 7 (some .boolean) wsL_law RL D ct A) {sb L : Nat} {xs : Nat → Int32} (hX : va_X sb L xs s s.heap) (hbl : sb < s.heap.size) (hbA : ¬ A sb) (hL : L ≤ 2048) {a b : Nat → Nat} {o : Nat} {g : Nat → Int64} {x y : Nat → Nat → Int32} {N : Nat} (hN : N + 50 < 2 ^ 29) (hR : RE N x y) {i : Nat} (hi : 4 * i + 4 ≤ L) {cells slots : Nat} (hc : cells + 1 ≤ 1088) (hs : slots + 6 ≤ 8873)
    (kk : ∀ (g' : Nat → Int64) (x' y' : Nat → Nat → Int32), RE (N + 50) x' y' → Cf p l e room_1 s m args below meth c D A 7 (cells + 1) (slots + 6) Q 1473 [(4, .int (nI (4 * i))), (3, .ref o), (2, .ref (b 30)), (1, .ref (a 30)), (0, .ref sb)] [] (wL ct a b o g' x' y')) : Cf p l e room_1 s m args below meth c D A 7 cells slots Q 900 [(4, .int (nI (4 * i))), (3, .ref o), (2, .ref (b 30)), (1, .ref (a 30)), (0, .ref sb)] [] (wL ct a b o g x y) := by
  obtain ⟨n, h, q, bb, t, ht, r⟩ := hR
  have S := st_name hN r ht (xs (4 * i + 1)) (xs (4 * i + 2)) (xs (4 * i + 3))
  obtain ⟨hn10, hlt, hq8, hbq, hn, hnM, hh, hhM, hq, hqM, hb, hbM, hti, hTM, e1, e2, e3, e5, e6, e7, e11, e17, e18, e19, e20, hbars, hlen, hkind, hlow, hhigh, hfst, hplc, hnam, hcur, hrul, hbeg⟩ := id r
  have hc0 : cells ≤ 1088 := Nat.le_trans (Nat.le_succ cells) hc
  have hs0 : slots ≤ 8873 := Nat.le_trans (Nat.le_add_right slots 6) hs
  have hfd := fdk r
  have hok : ∀ k, k < 10 → wOk y k := fun k hk => TM_ok hTM (by omega) k hk
  have hBM : ∀ s, s < 2 → 0 ≤ y 1 s := fun s hs => by obtain ⟨k, hk, e⟩ := hbars s hs; rw [e]; exact nI_pos' (by omega)
  have hB : ∀ s, s < 2 → 0 ≤ x 5 s := fun s hs => by rw [e5]; exact hBM s hs
  obtain ⟨kb, hkb4, hkb⟩ := hbars h hlt
  have hkbX : x 5 h = nI kb := by rw [e5]; exact hkb
  have M := c_L_name l D ct a o g x (set2 x 20 (upd (x 20) (10 * (xs (4 * i + 1)).toNatClampNeg + (xs (4 * i + 2)).toNatClampNeg) (xs (4 * i + 3)))) (xs (4 * i + 1)) (xs (4 * i + 2)) (xs (4 * i + 3)) (if (0 ≤ (xs (4 * i + 1)) ∧ (xs (4 * i + 1)) < x 16 0) then (if (0 ≤ (xs (4 * i + 2)) ∧ (xs (4 * i + 2)) < x 0 0) then (if (-1 ≤ (xs (4 * i + 3)) ∧ (xs (4 * i + 3)) ≤ 100) then none else some eA) else some eI) else some eI) (StOk.mem S) (x 20 (10 * (xs (4 * i + 1)).toNatClampNeg + (xs (4 * i + 2)).toNatClampNeg)) (c_X3_name l hl D ct a x n hn hn10 q hq hq8 (xs (4 * i + 1)) (xs (4 * i + 2)) (xs (4 * i + 3)))
  have MM := c_X4_name l D ct b y n hnM hn10 q hqM hq8 (xs (4 * i + 1)) (xs (4 * i + 2)) (xs (4 * i + 3))
  rcases S with ⟨hoc, hT, hr, hA, hRE⟩ | ⟨E, hE, hoc, hT, h0, hB9, hRE⟩
  · skip
    rw [hoc] at M
    rw [if_pos hT, if_pos hT] at MM
    refine q_aload_n (pc2 := 901) C 3 dL_law_900 rfl rfl rfl ?_
    refine q_aload_n (pc2 := 902) C 4 dL_law_901 rfl rfl rfl ?_
    refine q_iload (pc2 := 904) C 0 dL_law_902 rfl rfl ?_
    refine q_iconst (v := 1) (pc2 := 905) C dL_law_904 (by decide) rfl ?_
    refine q_iadd (v := nI (4 * i + 1)) (pc2 := 906) C dL_law_905 (nI_add (4 * i) 1) rfl ?_
    refine q_sld (pc2 := 907) C hX hbl hbA (4 * i + 1) rfl (by omega) (by omega) dL_law_906 rfl ?_
    refine q_aload_n (pc2 := 908) C 4 dL_law_907 rfl rfl rfl ?_
    refine q_iload (pc2 := 910) C 0 dL_law_908 rfl rfl ?_
    refine q_iconst (v := 2) (pc2 := 911) C dL_law_910 (by decide) rfl ?_
    refine q_iadd (v := nI (4 * i + 2)) (pc2 := 912) C dL_law_911 (nI_add (4 * i) 2) rfl ?_
    refine q_sld (pc2 := 913) C hX hbl hbA (4 * i + 2) rfl (by omega) (by omega) dL_law_912 rfl ?_
    refine q_aload_n (pc2 := 914) C 4 dL_law_913 rfl rfl rfl ?_
    refine q_iload (pc2 := 916) C 0 dL_law_914 rfl rfl ?_
    refine q_iconst (v := 3) (pc2 := 917) C dL_law_916 (by decide) rfl ?_
    refine q_iadd (v := nI (4 * i + 3)) (pc2 := 918) C dL_law_917 (nI_add (4 * i) 3) rfl ?_
    refine q_sld (pc2 := 919) C hX hbl hbA (4 * i + 3) rfl (by omega) (by omega) dL_law_918 rfl ?_
    refine q_aload_n (pc2 := 920) C 1 dL_law_919 rfl rfl rfl ?_
    refine q_LH (pc2 := 923) (As := [.ref (a 30), .int (xs (4 * i + 1)), .int (xs (4 * i + 2)), .int (xs (4 * i + 3)), .ref o]) (st := []) (st2 := [.int 0]) (g' := vp_updL g 0 ((x 20 (10 * (xs (4 * i + 1)).toNatClampNeg + (xs (4 * i + 2)).toNatClampNeg)).toInt64)) (x' := set2 x 20 (upd (x 20) (10 * (xs (4 * i + 1)).toNatClampNeg + (xs (4 * i + 2)).toNatClampNeg) (xs (4 * i + 3)))) (c2 := cells) (s2 := slots) C M (vx_cwSW 5 C.w gL_law_L_name rfl rfl rfl (by decide +kernel) ⟨Nat.le_of_ble_eq_true rfl, Nat.le_of_ble_eq_true rfl⟩) dL_law_920 rfl rfl (Nat.le_of_ble_eq_true rfl) ⟨hc0, hs0⟩ rfl rfl rfl rfl ?_
    refine q_istore (lv' := [(5, .int 0), (4, .int (nI (4 * i))), (3, .ref o), (2, .ref (b 30)), (1, .ref (a 30)), (0, .ref sb)]) (pc2 := 925) C dL_law_923 (by decide) rfl rfl ?_
    refine q_aload_n (pc2 := 926) C 3 dL_law_925 rfl rfl rfl ?_
    refine q_aload_n (pc2 := 927) C 5 dL_law_926 rfl rfl rfl ?_
    refine q_iload (pc2 := 929) C 1 dL_law_927 rfl rfl ?_
    refine q_iconst (v := 1) (pc2 := 930) C dL_law_929 (by decide) rfl ?_
    refine q_iadd (v := nI (4 * i + 1)) (pc2 := 931) C dL_law_930 (nI_add (4 * i) 1) rfl ?_
    refine q_sld (pc2 := 932) C hX hbl hbA (4 * i + 1) rfl (by omega) (by omega) dL_law_931 rfl ?_
    refine q_aload_n (pc2 := 933) C 5 dL_law_932 rfl rfl rfl ?_
    refine q_iload (pc2 := 935) C 1 dL_law_933 rfl rfl ?_
    refine q_iconst (v := 2) (pc2 := 936) C dL_law_935 (by decide) rfl ?_
    refine q_iadd (v := nI (4 * i + 2)) (pc2 := 937) C dL_law_936 (nI_add (4 * i) 2) rfl ?_
    refine q_sld (pc2 := 938) C hX hbl hbA (4 * i + 2) rfl (by omega) (by omega) dL_law_937 rfl ?_
    refine q_aload_n (pc2 := 939) C 5 dL_law_938 rfl rfl rfl ?_
    refine q_iload (pc2 := 941) C 1 dL_law_939 rfl rfl ?_
    refine q_iconst (v := 3) (pc2 := 942) C dL_law_941 (by decide) rfl ?_
    refine q_iadd (v := nI (4 * i + 3)) (pc2 := 943) C dL_law_942 (nI_add (4 * i) 3) rfl ?_
    refine q_sld (pc2 := 944) C hX hbl hbA (4 * i + 3) rfl (by omega) (by omega) dL_law_943 rfl ?_
    refine q_LM (pc2 := 947) (As := [.int (xs (4 * i + 1)), .int (xs (4 * i + 2)), .int (xs (4 * i + 3))]) (st := []) (st2 := [.int (y 22 (10 * (xs (4 * i + 1)).toNatClampNeg + (xs (4 * i + 2)).toNatClampNeg))]) (y' := set2 (set2 y 27 (fun _ => T2 (inR (xs (4 * i + 1)) 0 (y 18 0 - 1) ∧ inR (xs (4 * i + 2)) 0 (y 4 0 - 1)) (inR (xs (4 * i + 3)) (-1) 100))) 22 (upd (y 22) (10 * (xs (4 * i + 1)).toNatClampNeg + (xs (4 * i + 2)).toNatClampNeg) (xs (4 * i + 3)))) C MM (cwV 3 C.w gL_law_X4_name rfl rfl rfl (by decide +kernel) ⟨Nat.le_of_ble_eq_true rfl, Nat.le_of_ble_eq_true rfl⟩) dL_law_944 rfl rfl (Nat.le_of_ble_eq_true rfl) ⟨hc0, hs0⟩ rfl rfl ?_
    refine q_istore (lv' := [(6, .int (y 22 (10 * (xs (4 * i + 1)).toNatClampNeg + (xs (4 * i + 2)).toNatClampNeg))), (5, .int 0), (4, .int (nI (4 * i))), (3, .ref o), (2, .ref (b 30)), (1, .ref (a 30)), (0, .ref sb)]) (pc2 := 949) C dL_law_947 (by decide) rfl rfl ?_
    refine q_aload_n (pc2 := 950) C 4 dL_law_949 rfl rfl rfl ?_
    refine q_LM (pc2 := 953) (As := []) (st := []) (st2 := [.int ((set2 (set2 y 27 (fun _ => T2 (inR (xs (4 * i + 1)) 0 (y 18 0 - 1) ∧ inR (xs (4 * i + 2)) 0 (y 4 0 - 1)) (inR (xs (4 * i + 3)) (-1) 100))) 22 (upd (y 22) (10 * (xs (4 * i + 1)).toNatClampNeg + (xs (4 * i + 2)).toNatClampNeg) (xs (4 * i + 3)))) 27 0)]) (y' := set2 (set2 y 27 (fun _ => T2 (inR (xs (4 * i + 1)) 0 (y 18 0 - 1) ∧ inR (xs (4 * i + 2)) 0 (y 4 0 - 1)) (inR (xs (4 * i + 3)) (-1) 100))) 22 (upd (y 22) (10 * (xs (4 * i + 1)).toNatClampNeg + (xs (4 * i + 2)).toNatClampNeg) (xs (4 * i + 3)))) C (c_X4_thrown l D ct b (set2 (set2 y 27 (fun _ => T2 (inR (xs (4 * i + 1)) 0 (y 18 0 - 1) ∧ inR (xs (4 * i + 2)) 0 (y 4 0 - 1)) (inR (xs (4 * i + 3)) (-1) 100))) 22 (upd (y 22) (10 * (xs (4 * i + 1)).toNatClampNeg + (xs (4 * i + 2)).toNatClampNeg) (xs (4 * i + 3))))) (cwV 0 C.w gL_law_X4_thrown rfl rfl rfl (by decide +kernel) ⟨Nat.le_of_ble_eq_true rfl, Nat.le_of_ble_eq_true rfl⟩) dL_law_950 rfl rfl (Nat.le_of_ble_eq_true rfl) ⟨hc0, hs0⟩ rfl rfl ?_
    refine q_iload (pc2 := 955) C 1 dL_law_953 rfl rfl ?_
    refine q_icmp_eq (tgt := 960) (pc2 := 958) C dL_law_955 (by decide) rfl (fun _ => ?_) (fun h9 => absurd (hA.trans hT) h9)
    refine q_iload (pc2 := 962) C 1 dL_law_960 rfl rfl ?_
    refine q_if_ne (tgt := 977) (pc2 := 965) C dL_law_962 (by decide) rfl (fun h9 => absurd rfl h9) (fun _ => ?_)
    refine q_aload_n (pc2 := 966) C 3 dL_law_965 rfl rfl rfl ?_
    refine q_iconst (v := 0) (pc2 := 967) C dL_law_966 (by decide) rfl ?_
    refine q_lald (pc2 := 968) C 0 (wL_g48 ct a b o (vp_updL g 0 ((x 20 (10 * (xs (4 * i + 1)).toNatClampNeg + (xs (4 * i + 2)).toNatClampNeg)).toInt64)) (set2 x 20 (upd (x 20) (10 * (xs (4 * i + 1)).toNatClampNeg + (xs (4 * i + 2)).toNatClampNeg) (xs (4 * i + 3)))) (set2 (set2 y 27 (fun _ => T2 (inR (xs (4 * i + 1)) 0 (y 18 0 - 1) ∧ inR (xs (4 * i + 2)) 0 (y 4 0 - 1)) (inR (xs (4 * i + 3)) (-1) 100))) 22 (upd (y 22) (10 * (xs (4 * i + 1)).toNatClampNeg + (xs (4 * i + 2)).toNatClampNeg) (xs (4 * i + 3))))) rfl rfl (by decide) (by decide) dL_law_967 rfl ?_
    refine q_iload (pc2 := 970) C 0 dL_law_968 rfl rfl ?_
    refine q_i2l (pc2 := 971) C dL_law_970 rfl rfl ?_
    refine q_lcmp_eq (pc2 := 972) C ((if_pos rfl).trans (congrArg Int32.toInt64 hr)) dL_law_971 rfl ?_
    refine q_if_eq (tgt := 977) (pc2 := 975) C dL_law_972 (by decide) rfl (fun _ => ?_) (fun h9 => absurd rfl h9)
    refine q_goto (pc2 := 1473) C dL_law_977 (by decide) ?_
    refine q_widen (Nat.le_add_right cells 1) (Nat.le_add_right slots 6) ?_
    refine q_lv (lv' := [(4, .int (nI (4 * i))), (3, .ref o), (2, .ref (b 30)), (1, .ref (a 30)), (0, .ref sb)]) [2, 3, 4, 5, 6] rfl ?_
    exact kk _ _ _ (RE.mono (by omega) hRE)
  · skip
    rw [hoc] at M
    rw [if_neg h0, if_neg h0] at MM
    refine q_aload_n (pc2 := 901) C 3 dL_law_900 rfl rfl rfl ?_
    refine q_aload_n (pc2 := 902) C 4 dL_law_901 rfl rfl rfl ?_
    refine q_iload (pc2 := 904) C 0 dL_law_902 rfl rfl ?_
    refine q_iconst (v := 1) (pc2 := 905) C dL_law_904 (by decide) rfl ?_
    refine q_iadd (v := nI (4 * i + 1)) (pc2 := 906) C dL_law_905 (nI_add (4 * i) 1) rfl ?_
    refine q_sld (pc2 := 907) C hX hbl hbA (4 * i + 1) rfl (by omega) (by omega) dL_law_906 rfl ?_
    refine q_aload_n (pc2 := 908) C 4 dL_law_907 rfl rfl rfl ?_
    refine q_iload (pc2 := 910) C 0 dL_law_908 rfl rfl ?_
    refine q_iconst (v := 2) (pc2 := 911) C dL_law_910 (by decide) rfl ?_
    refine q_iadd (v := nI (4 * i + 2)) (pc2 := 912) C dL_law_911 (nI_add (4 * i) 2) rfl ?_
    refine q_sld (pc2 := 913) C hX hbl hbA (4 * i + 2) rfl (by omega) (by omega) dL_law_912 rfl ?_
    refine q_aload_n (pc2 := 914) C 4 dL_law_913 rfl rfl rfl ?_
    refine q_iload (pc2 := 916) C 0 dL_law_914 rfl rfl ?_
    refine q_iconst (v := 3) (pc2 := 917) C dL_law_916 (by decide) rfl ?_
    refine q_iadd (v := nI (4 * i + 3)) (pc2 := 918) C dL_law_917 (nI_add (4 * i) 3) rfl ?_
    refine q_sld (pc2 := 919) C hX hbl hbA (4 * i + 3) rfl (by omega) (by omega) dL_law_918 rfl ?_
    refine q_aload_n (pc2 := 920) C 1 dL_law_919 rfl rfl rfl ?_
    refine q_LH (pc2 := 923) (As := [.ref (a 30), .int (xs (4 * i + 1)), .int (xs (4 * i + 2)), .int (xs (4 * i + 3)), .ref o]) (st := []) (st2 := [.int (hcod [eI, eA] (some E))]) (g' := g) (x' := x) (c2 := (cells + 1)) (s2 := (slots + 6)) C M (vx_cwSW 5 C.w gL_law_L_name rfl rfl rfl (by decide +kernel) ⟨Nat.le_of_ble_eq_true rfl, Nat.le_of_ble_eq_true rfl⟩) dL_law_920 rfl rfl (Nat.le_of_ble_eq_true rfl) ⟨hc, hs⟩ rfl rfl rfl rfl ?_
    refine q_istore (lv' := [(5, .int (hcod [eI, eA] (some E))), (4, .int (nI (4 * i))), (3, .ref o), (2, .ref (b 30)), (1, .ref (a 30)), (0, .ref sb)]) (pc2 := 925) C dL_law_923 (by decide) rfl rfl ?_
    refine q_aload_n (pc2 := 926) C 3 dL_law_925 rfl rfl rfl ?_
    refine q_aload_n (pc2 := 927) C 5 dL_law_926 rfl rfl rfl ?_
    refine q_iload (pc2 := 929) C 1 dL_law_927 rfl rfl ?_
    refine q_iconst (v := 1) (pc2 := 930) C dL_law_929 (by decide) rfl ?_
    refine q_iadd (v := nI (4 * i + 1)) (pc2 := 931) C dL_law_930 (nI_add (4 * i) 1) rfl ?_
    refine q_sld (pc2 := 932) C hX hbl hbA (4 * i + 1) rfl (by omega) (by omega) dL_law_931 rfl ?_
    refine q_aload_n (pc2 := 933) C 5 dL_law_932 rfl rfl rfl ?_
    refine q_iload (pc2 := 935) C 1 dL_law_933 rfl rfl ?_
    refine q_iconst (v := 2) (pc2 := 936) C dL_law_935 (by decide) rfl ?_
    refine q_iadd (v := nI (4 * i + 2)) (pc2 := 937) C dL_law_936 (nI_add (4 * i) 2) rfl ?_
    refine q_sld (pc2 := 938) C hX hbl hbA (4 * i + 2) rfl (by omega) (by omega) dL_law_937 rfl ?_
    refine q_aload_n (pc2 := 939) C 5 dL_law_938 rfl rfl rfl ?_
    refine q_iload (pc2 := 941) C 1 dL_law_939 rfl rfl ?_
    refine q_iconst (v := 3) (pc2 := 942) C dL_law_941 (by decide) rfl ?_
    refine q_iadd (v := nI (4 * i + 3)) (pc2 := 943) C dL_law_942 (nI_add (4 * i) 3) rfl ?_
    refine q_sld (pc2 := 944) C hX hbl hbA (4 * i + 3) rfl (by omega) (by omega) dL_law_943 rfl ?_
    refine q_LM (pc2 := 947) (As := [.int (xs (4 * i + 1)), .int (xs (4 * i + 2)), .int (xs (4 * i + 3))]) (st := []) (st2 := [.int 0]) (y' := set2 y 27 (fun _ => T2 (inR (xs (4 * i + 1)) 0 (y 18 0 - 1) ∧ inR (xs (4 * i + 2)) 0 (y 4 0 - 1)) (inR (xs (4 * i + 3)) (-1) 100))) C MM (cwV 3 C.w gL_law_X4_name rfl rfl rfl (by decide +kernel) ⟨Nat.le_of_ble_eq_true rfl, Nat.le_of_ble_eq_true rfl⟩) dL_law_944 rfl rfl (Nat.le_of_ble_eq_true rfl) ⟨hc, hs⟩ rfl rfl ?_
    refine q_istore (lv' := [(6, .int 0), (5, .int (hcod [eI, eA] (some E))), (4, .int (nI (4 * i))), (3, .ref o), (2, .ref (b 30)), (1, .ref (a 30)), (0, .ref sb)]) (pc2 := 949) C dL_law_947 (by decide) rfl rfl ?_
    refine q_aload_n (pc2 := 950) C 4 dL_law_949 rfl rfl rfl ?_
    refine q_LM (pc2 := 953) (As := []) (st := []) (st2 := [.int ((set2 y 27 (fun _ => T2 (inR (xs (4 * i + 1)) 0 (y 18 0 - 1) ∧ inR (xs (4 * i + 2)) 0 (y 4 0 - 1)) (inR (xs (4 * i + 3)) (-1) 100))) 27 0)]) (y' := set2 y 27 (fun _ => T2 (inR (xs (4 * i + 1)) 0 (y 18 0 - 1) ∧ inR (xs (4 * i + 2)) 0 (y 4 0 - 1)) (inR (xs (4 * i + 3)) (-1) 100))) C (c_X4_thrown l D ct b (set2 y 27 (fun _ => T2 (inR (xs (4 * i + 1)) 0 (y 18 0 - 1) ∧ inR (xs (4 * i + 2)) 0 (y 4 0 - 1)) (inR (xs (4 * i + 3)) (-1) 100)))) (cwV 0 C.w gL_law_X4_thrown rfl rfl rfl (by decide +kernel) ⟨Nat.le_of_ble_eq_true rfl, Nat.le_of_ble_eq_true rfl⟩) dL_law_950 rfl rfl (Nat.le_of_ble_eq_true rfl) ⟨hc, hs⟩ rfl rfl ?_
    refine q_iload (pc2 := 955) C 1 dL_law_953 rfl rfl ?_
    refine q_icmp_eq (tgt := 960) (pc2 := 958) C dL_law_955 (by decide) rfl (fun _ => ?_) (fun h9 => absurd (hB9.trans hT) h9)
    refine q_iload (pc2 := 962) C 1 dL_law_960 rfl rfl ?_
    refine q_if_ne (tgt := 977) (pc2 := 965) C dL_law_962 (by decide) rfl (fun _ => ?_) (fun h9 => absurd (hT.trans h9) h0)
    refine q_goto (pc2 := 1473) C dL_law_977 (by decide) ?_
    refine q_lv (lv' := [(4, .int (nI (4 * i))), (3, .ref o), (2, .ref (b 30)), (1, .ref (a 30)), (0, .ref sb)]) [2, 3, 4, 5, 6] rfl ?_
    exact kk g x _ (RE.mono (by omega) hRE)
