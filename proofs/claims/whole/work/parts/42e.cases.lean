/-! the law's cases -/
set_option maxHeartbeats 4000000 in
set_option maxRecDepth 100000 in
theorem lc_go (l : Launch) (hl : l.stackTraces = false) {p : Program} {e : Env} {s : State} {m : MethodId} {args : Array Value} {below : List Frame} {meth : Method} {c : Code} {D : va_G} {ct : Nat → ClassId} {A : Nat → Prop} {Q : State → Prop} (C : Cx p s m args c meth cL_law 7 (some .boolean) wsL_law RL D ct A) {sb L : Nat} {xs : Nat → Int32} (hX : va_X sb L xs s s.heap) (hbl : sb < s.heap.size) (hbA : ¬ A sb) (hL : L ≤ 2048) {a b : Nat → Nat} {o : Nat} {g : Nat → Int64} {x y : Nat → Nat → Int32} {N : Nat} (hN : N + 50 < 2 ^ 29) (hR : RE N x y) {i : Nat} (hi : 4 * i + 4 ≤ L) {cells slots : Nat} (hc : cells + 1 ≤ 1088) (hs : slots + 6 ≤ 8873)
    (kk : ∀ (g' : Nat → Int64) (x' y' : Nat → Nat → Int32), RE (N + 50) x' y' → Cf p l e room_1 s m args below meth c D A 7 (cells + 1) (slots + 6) Q 1473 [(4, .int (nI (4 * i))), (3, .ref o), (2, .ref (b 30)), (1, .ref (a 30)), (0, .ref sb)] [] (wL ct a b o g' x' y')) : Cf p l e room_1 s m args below meth c D A 7 cells slots Q 980 [(4, .int (nI (4 * i))), (3, .ref o), (2, .ref (b 30)), (1, .ref (a 30)), (0, .ref sb)] [] (wL ct a b o g x y) := by
  obtain ⟨n, h, q, bb, t, ht, r⟩ := hR
  have S := st_go hN r ht 
  obtain ⟨hn10, hlt, hq8, hbq, hn, hnM, hh, hhM, hq, hqM, hb, hbM, hti, hTM, e1, e2, e3, e5, e6, e7, e11, e17, e18, e19, e20, hbars, hlen, hkind, hlow, hhigh, hfst, hplc, hnam, hcur, hrul, hbeg⟩ := id r
  have hc0 : cells ≤ 1088 := Nat.le_trans (Nat.le_succ cells) hc
  have hs0 : slots ≤ 8873 := Nat.le_trans (Nat.le_add_right slots 6) hs
  have hfd := fdk r
  have hok : ∀ k, k < 10 → wOk y k := fun k hk => TM_ok hTM (by omega) k hk
  have hBM : ∀ s, s < 2 → 0 ≤ y 1 s := fun s hs => by obtain ⟨k, hk, e⟩ := hbars s hs; rw [e]; exact nI_pos' (by omega)
  have hB : ∀ s, s < 2 → 0 ≤ x 5 s := fun s hs => by rw [e5]; exact hBM s hs
  obtain ⟨kb, hkb4, hkb⟩ := hbars h hlt
  have hkbX : x 5 h = nI kb := by rw [e5]; exact hkb
  have M := c_L_go l D ct a o g x (fixS x (bnS (q - bb) bb x))  (if (bb < q) then none else some eS) (StOk.mem S) ((bnS (q - bb) bb x) 22 0) (c_X3_go l hl D ct a x q hq hq8 hfd bb hb hbq )
  have MM := c_X4_go l D ct b y n hnM hn10 q hqM hq8 bb hbM hbq t hTM (by omega) 
  rcases S with ⟨hoc, hT, hr, hA, hRE⟩ | ⟨E, hE, hoc, hT, h0, hB9, hRE⟩
  · skip
    rw [hoc] at M
    rw [if_pos hT, if_pos hT] at MM
    refine q_aload_n (pc2 := 981) C 3 dL_law_980 rfl rfl rfl ?_
    refine q_aload_n (pc2 := 982) C 1 dL_law_981 rfl rfl rfl ?_
    refine q_LH (pc2 := 985) (As := [.ref (a 30), .ref o]) (st := []) (st2 := [.int 0]) (g' := vp_updL g 0 (((bnS (q - bb) bb x) 22 0).toInt64)) (x' := fixS x (bnS (q - bb) bb x)) (c2 := cells) (s2 := slots) C M (vx_cwSW 2 C.w gL_law_L_go rfl rfl rfl (by decide +kernel) ⟨Nat.le_of_ble_eq_true rfl, Nat.le_of_ble_eq_true rfl⟩) dL_law_982 rfl rfl (Nat.le_of_ble_eq_true rfl) ⟨hc0, hs0⟩ rfl rfl rfl rfl ?_
    refine q_istore (lv' := [(5, .int 0), (4, .int (nI (4 * i))), (3, .ref o), (2, .ref (b 30)), (1, .ref (a 30)), (0, .ref sb)]) (pc2 := 987) C dL_law_985 (by decide) rfl rfl ?_
    refine q_aload_n (pc2 := 988) C 3 dL_law_987 rfl rfl rfl ?_
    refine q_LM (pc2 := 991) (As := []) (st := []) (st2 := [.int (bnM n (q - bb) bb (set2 y 27 (fun _ => T1 (y 23 0 < y 18 0))) 23 0 - 1)]) (y' := bnM n (q - bb) bb (set2 y 27 (fun _ => T1 (y 23 0 < y 18 0)))) C MM (cwV 0 C.w gL_law_X4_go rfl rfl rfl (by decide +kernel) ⟨Nat.le_of_ble_eq_true rfl, Nat.le_of_ble_eq_true rfl⟩) dL_law_988 rfl rfl (Nat.le_of_ble_eq_true rfl) ⟨hc0, hs0⟩ rfl rfl ?_
    refine q_istore (lv' := [(6, .int (bnM n (q - bb) bb (set2 y 27 (fun _ => T1 (y 23 0 < y 18 0))) 23 0 - 1)), (5, .int 0), (4, .int (nI (4 * i))), (3, .ref o), (2, .ref (b 30)), (1, .ref (a 30)), (0, .ref sb)]) (pc2 := 993) C dL_law_991 (by decide) rfl rfl ?_
    refine q_aload_n (pc2 := 994) C 4 dL_law_993 rfl rfl rfl ?_
    refine q_LM (pc2 := 997) (As := []) (st := []) (st2 := [.int ((bnM n (q - bb) bb (set2 y 27 (fun _ => T1 (y 23 0 < y 18 0)))) 27 0)]) (y' := bnM n (q - bb) bb (set2 y 27 (fun _ => T1 (y 23 0 < y 18 0)))) C (c_X4_thrown l D ct b (bnM n (q - bb) bb (set2 y 27 (fun _ => T1 (y 23 0 < y 18 0))))) (cwV 0 C.w gL_law_X4_thrown rfl rfl rfl (by decide +kernel) ⟨Nat.le_of_ble_eq_true rfl, Nat.le_of_ble_eq_true rfl⟩) dL_law_994 rfl rfl (Nat.le_of_ble_eq_true rfl) ⟨hc0, hs0⟩ rfl rfl ?_
    refine q_iload (pc2 := 999) C 1 dL_law_997 rfl rfl ?_
    refine q_icmp_eq (tgt := 1004) (pc2 := 1002) C dL_law_999 (by decide) rfl (fun _ => ?_) (fun h9 => absurd (hA.trans hT) h9)
    refine q_iload (pc2 := 1006) C 1 dL_law_1004 rfl rfl ?_
    refine q_if_ne (tgt := 1021) (pc2 := 1009) C dL_law_1006 (by decide) rfl (fun h9 => absurd rfl h9) (fun _ => ?_)
    refine q_aload_n (pc2 := 1010) C 3 dL_law_1009 rfl rfl rfl ?_
    refine q_iconst (v := 0) (pc2 := 1011) C dL_law_1010 (by decide) rfl ?_
    refine q_lald (pc2 := 1012) C 0 (wL_g48 ct a b o (vp_updL g 0 (((bnS (q - bb) bb x) 22 0).toInt64)) (fixS x (bnS (q - bb) bb x)) (bnM n (q - bb) bb (set2 y 27 (fun _ => T1 (y 23 0 < y 18 0))))) rfl rfl (by decide) (by decide) dL_law_1011 rfl ?_
    refine q_iload (pc2 := 1014) C 0 dL_law_1012 rfl rfl ?_
    refine q_i2l (pc2 := 1015) C dL_law_1014 rfl rfl ?_
    refine q_lcmp_eq (pc2 := 1016) C ((if_pos rfl).trans (congrArg Int32.toInt64 hr)) dL_law_1015 rfl ?_
    refine q_if_eq (tgt := 1021) (pc2 := 1019) C dL_law_1016 (by decide) rfl (fun _ => ?_) (fun h9 => absurd rfl h9)
    refine q_goto (pc2 := 1473) C dL_law_1021 (by decide) ?_
    refine q_widen (Nat.le_add_right cells 1) (Nat.le_add_right slots 6) ?_
    refine q_lv (lv' := [(4, .int (nI (4 * i))), (3, .ref o), (2, .ref (b 30)), (1, .ref (a 30)), (0, .ref sb)]) [2, 3, 4, 5, 6] rfl ?_
    exact kk _ _ _ (RE.mono (by omega) hRE)
  · skip
    rw [hoc] at M
    rw [if_neg h0, if_neg h0] at MM
    refine q_aload_n (pc2 := 981) C 3 dL_law_980 rfl rfl rfl ?_
    refine q_aload_n (pc2 := 982) C 1 dL_law_981 rfl rfl rfl ?_
    refine q_LH (pc2 := 985) (As := [.ref (a 30), .ref o]) (st := []) (st2 := [.int (hcod [eS] (some E))]) (g' := g) (x' := x) (c2 := (cells + 1)) (s2 := (slots + 6)) C M (vx_cwSW 2 C.w gL_law_L_go rfl rfl rfl (by decide +kernel) ⟨Nat.le_of_ble_eq_true rfl, Nat.le_of_ble_eq_true rfl⟩) dL_law_982 rfl rfl (Nat.le_of_ble_eq_true rfl) ⟨hc, hs⟩ rfl rfl rfl rfl ?_
    refine q_istore (lv' := [(5, .int (hcod [eS] (some E))), (4, .int (nI (4 * i))), (3, .ref o), (2, .ref (b 30)), (1, .ref (a 30)), (0, .ref sb)]) (pc2 := 987) C dL_law_985 (by decide) rfl rfl ?_
    refine q_aload_n (pc2 := 988) C 3 dL_law_987 rfl rfl rfl ?_
    refine q_LM (pc2 := 991) (As := []) (st := []) (st2 := [.int 0]) (y' := set2 y 27 (fun _ => T1 (y 23 0 < y 18 0))) C MM (cwV 0 C.w gL_law_X4_go rfl rfl rfl (by decide +kernel) ⟨Nat.le_of_ble_eq_true rfl, Nat.le_of_ble_eq_true rfl⟩) dL_law_988 rfl rfl (Nat.le_of_ble_eq_true rfl) ⟨hc, hs⟩ rfl rfl ?_
    refine q_istore (lv' := [(6, .int 0), (5, .int (hcod [eS] (some E))), (4, .int (nI (4 * i))), (3, .ref o), (2, .ref (b 30)), (1, .ref (a 30)), (0, .ref sb)]) (pc2 := 993) C dL_law_991 (by decide) rfl rfl ?_
    refine q_aload_n (pc2 := 994) C 4 dL_law_993 rfl rfl rfl ?_
    refine q_LM (pc2 := 997) (As := []) (st := []) (st2 := [.int ((set2 y 27 (fun _ => T1 (y 23 0 < y 18 0))) 27 0)]) (y' := set2 y 27 (fun _ => T1 (y 23 0 < y 18 0))) C (c_X4_thrown l D ct b (set2 y 27 (fun _ => T1 (y 23 0 < y 18 0)))) (cwV 0 C.w gL_law_X4_thrown rfl rfl rfl (by decide +kernel) ⟨Nat.le_of_ble_eq_true rfl, Nat.le_of_ble_eq_true rfl⟩) dL_law_994 rfl rfl (Nat.le_of_ble_eq_true rfl) ⟨hc, hs⟩ rfl rfl ?_
    refine q_iload (pc2 := 999) C 1 dL_law_997 rfl rfl ?_
    refine q_icmp_eq (tgt := 1004) (pc2 := 1002) C dL_law_999 (by decide) rfl (fun _ => ?_) (fun h9 => absurd (hB9.trans hT) h9)
    refine q_iload (pc2 := 1006) C 1 dL_law_1004 rfl rfl ?_
    refine q_if_ne (tgt := 1021) (pc2 := 1009) C dL_law_1006 (by decide) rfl (fun _ => ?_) (fun h9 => absurd (hT.trans h9) h0)
    refine q_goto (pc2 := 1473) C dL_law_1021 (by decide) ?_
    refine q_lv (lv' := [(4, .int (nI (4 * i))), (3, .ref o), (2, .ref (b 30)), (1, .ref (a 30)), (0, .ref sb)]) [2, 3, 4, 5, 6] rfl ?_
    exact kk g x _ (RE.mono (by omega) hRE)

set_option maxHeartbeats 4000000 in
set_option maxRecDepth 100000 in
theorem lc_tick (l : Launch) (hl : l.stackTraces = false) {p : Program} {e : Env} {s : State} {m : MethodId} {args : Array Value} {below : List Frame} {meth : Method} {c : Code} {D : va_G} {ct : Nat → ClassId} {A : Nat → Prop} {Q : State → Prop} (C : Cx p s m args c meth cL_law 7 (some .boolean) wsL_law RL D ct A) {sb L : Nat} {xs : Nat → Int32} (hX : va_X sb L xs s s.heap) (hbl : sb < s.heap.size) (hbA : ¬ A sb) (hL : L ≤ 2048) {a b : Nat → Nat} {o : Nat} {g : Nat → Int64} {x y : Nat → Nat → Int32} {N : Nat} (hN : N + 50 < 2 ^ 29) (hR : RE N x y) {i : Nat} (hi : 4 * i + 4 ≤ L) {cells slots : Nat} (hc : cells + 1 ≤ 1088) (hs : slots + 6 ≤ 8873)
    (kk : ∀ (g' : Nat → Int64) (x' y' : Nat → Nat → Int32), RE (N + 50) x' y' → Cf p l e room_1 s m args below meth c D A 7 (cells + 1) (slots + 6) Q 1473 [(4, .int (nI (4 * i))), (3, .ref o), (2, .ref (b 30)), (1, .ref (a 30)), (0, .ref sb)] [] (wL ct a b o g' x' y')) : Cf p l e room_1 s m args below meth c D A 7 cells slots Q 1024 [(4, .int (nI (4 * i))), (3, .ref o), (2, .ref (b 30)), (1, .ref (a 30)), (0, .ref sb)] [] (wL ct a b o g x y) := by
  obtain ⟨n, h, q, bb, t, ht, r⟩ := hR
  have S := st_tick hN r ht (xs (4 * i + 1))
  obtain ⟨hn10, hlt, hq8, hbq, hn, hnM, hh, hhM, hq, hqM, hb, hbM, hti, hTM, e1, e2, e3, e5, e6, e7, e11, e17, e18, e19, e20, hbars, hlen, hkind, hlow, hhigh, hfst, hplc, hnam, hcur, hrul, hbeg⟩ := id r
  have hc0 : cells ≤ 1088 := Nat.le_trans (Nat.le_succ cells) hc
  have hs0 : slots ≤ 8873 := Nat.le_trans (Nat.le_add_right slots 6) hs
  have hfd := fdk r
  have hok : ∀ k, k < 10 → wOk y k := fun k hk => TM_ok hTM (by omega) k hk
  have hBM : ∀ s, s < 2 → 0 ≤ y 1 s := fun s hs => by obtain ⟨k, hk, e⟩ := hbars s hs; rw [e]; exact nI_pos' (by omega)
  have hB : ∀ s, s < 2 → 0 ≤ x 5 s := fun s hs => by rw [e5]; exact hBM s hs
  obtain ⟨kb, hkb4, hkb⟩ := hbars h hlt
  have hkbX : x 5 h = nI kb := by rw [e5]; exact hkb
  have M := c_L_tick l D ct a o g x ((tkXS x n q (xs (4 * i + 1)).toNatClampNeg).1) (xs (4 * i + 1)) (if (1 ≤ (xs (4 * i + 1)) ∧ (xs (4 * i + 1)) ≤ 50) then none else some eA) (StOk.mem S) ((tkXS x n q (xs (4 * i + 1)).toNatClampNeg).2) (c_X3_tick l hl D ct a x n hn hn10 q hq hq8 hfd bb hb hbq (xs (4 * i + 1)))
  have MM := c_X4_tick l D ct b y n hnM hn10 q hqM hq8 bb hbM hbq t hTM (by omega) (xs (4 * i + 1))
  rcases S with ⟨hoc, hT, hr, hA, hRE⟩ | ⟨E, hE, hoc, hT, h0, hB9, hRE⟩
  · skip
    rw [hoc] at M
    rw [if_pos hT, if_pos hT] at MM
    refine q_aload_n (pc2 := 1025) C 3 dL_law_1024 rfl rfl rfl ?_
    refine q_aload_n (pc2 := 1026) C 4 dL_law_1025 rfl rfl rfl ?_
    refine q_iload (pc2 := 1028) C 0 dL_law_1026 rfl rfl ?_
    refine q_iconst (v := 1) (pc2 := 1029) C dL_law_1028 (by decide) rfl ?_
    refine q_iadd (v := nI (4 * i + 1)) (pc2 := 1030) C dL_law_1029 (nI_add (4 * i) 1) rfl ?_
    refine q_sld (pc2 := 1031) C hX hbl hbA (4 * i + 1) rfl (by omega) (by omega) dL_law_1030 rfl ?_
    refine q_aload_n (pc2 := 1032) C 1 dL_law_1031 rfl rfl rfl ?_
    refine q_LH (pc2 := 1035) (As := [.ref (a 30), .int (xs (4 * i + 1)), .ref o]) (st := []) (st2 := [.int 0]) (g' := vp_updL g 0 (((tkXS x n q (xs (4 * i + 1)).toNatClampNeg).2).toInt64)) (x' := (tkXS x n q (xs (4 * i + 1)).toNatClampNeg).1) (c2 := cells) (s2 := slots) C M (vx_cwSW 3 C.w gL_law_L_tick rfl rfl rfl (by decide +kernel) ⟨Nat.le_of_ble_eq_true rfl, Nat.le_of_ble_eq_true rfl⟩) dL_law_1032 rfl rfl (Nat.le_of_ble_eq_true rfl) ⟨hc0, hs0⟩ rfl rfl rfl rfl ?_
    refine q_istore (lv' := [(5, .int 0), (4, .int (nI (4 * i))), (3, .ref o), (2, .ref (b 30)), (1, .ref (a 30)), (0, .ref sb)]) (pc2 := 1037) C dL_law_1035 (by decide) rfl rfl ?_
    refine q_aload_n (pc2 := 1038) C 3 dL_law_1037 rfl rfl rfl ?_
    refine q_aload_n (pc2 := 1039) C 5 dL_law_1038 rfl rfl rfl ?_
    refine q_iload (pc2 := 1041) C 1 dL_law_1039 rfl rfl ?_
    refine q_iconst (v := 1) (pc2 := 1042) C dL_law_1041 (by decide) rfl ?_
    refine q_iadd (v := nI (4 * i + 1)) (pc2 := 1043) C dL_law_1042 (nI_add (4 * i) 1) rfl ?_
    refine q_sld (pc2 := 1044) C hX hbl hbA (4 * i + 1) rfl (by omega) (by omega) dL_law_1043 rfl ?_
    refine q_LM (pc2 := 1047) (As := [.int (xs (4 * i + 1))]) (st := []) (st2 := [.int ((tkS (set2 y 27 (fun _ => T1 (inR (xs (4 * i + 1)) 1 50))) n q (xs (4 * i + 1)).toNatClampNeg).2)]) (y' := (tkS (set2 y 27 (fun _ => T1 (inR (xs (4 * i + 1)) 1 50))) n q (xs (4 * i + 1)).toNatClampNeg).1) C MM (cwV 1 C.w gL_law_X4_tick rfl rfl rfl (by decide +kernel) ⟨Nat.le_of_ble_eq_true rfl, Nat.le_of_ble_eq_true rfl⟩) dL_law_1044 rfl rfl (Nat.le_of_ble_eq_true rfl) ⟨hc0, hs0⟩ rfl rfl ?_
    refine q_istore (lv' := [(6, .int ((tkS (set2 y 27 (fun _ => T1 (inR (xs (4 * i + 1)) 1 50))) n q (xs (4 * i + 1)).toNatClampNeg).2)), (5, .int 0), (4, .int (nI (4 * i))), (3, .ref o), (2, .ref (b 30)), (1, .ref (a 30)), (0, .ref sb)]) (pc2 := 1049) C dL_law_1047 (by decide) rfl rfl ?_
    refine q_aload_n (pc2 := 1050) C 4 dL_law_1049 rfl rfl rfl ?_
    refine q_LM (pc2 := 1053) (As := []) (st := []) (st2 := [.int (((tkS (set2 y 27 (fun _ => T1 (inR (xs (4 * i + 1)) 1 50))) n q (xs (4 * i + 1)).toNatClampNeg).1) 27 0)]) (y' := (tkS (set2 y 27 (fun _ => T1 (inR (xs (4 * i + 1)) 1 50))) n q (xs (4 * i + 1)).toNatClampNeg).1) C (c_X4_thrown l D ct b ((tkS (set2 y 27 (fun _ => T1 (inR (xs (4 * i + 1)) 1 50))) n q (xs (4 * i + 1)).toNatClampNeg).1)) (cwV 0 C.w gL_law_X4_thrown rfl rfl rfl (by decide +kernel) ⟨Nat.le_of_ble_eq_true rfl, Nat.le_of_ble_eq_true rfl⟩) dL_law_1050 rfl rfl (Nat.le_of_ble_eq_true rfl) ⟨hc0, hs0⟩ rfl rfl ?_
    refine q_iload (pc2 := 1055) C 1 dL_law_1053 rfl rfl ?_
    refine q_icmp_eq (tgt := 1060) (pc2 := 1058) C dL_law_1055 (by decide) rfl (fun _ => ?_) (fun h9 => absurd (hA.trans hT) h9)
    refine q_iload (pc2 := 1062) C 1 dL_law_1060 rfl rfl ?_
    refine q_if_ne (tgt := 1077) (pc2 := 1065) C dL_law_1062 (by decide) rfl (fun h9 => absurd rfl h9) (fun _ => ?_)
    refine q_aload_n (pc2 := 1066) C 3 dL_law_1065 rfl rfl rfl ?_
    refine q_iconst (v := 0) (pc2 := 1067) C dL_law_1066 (by decide) rfl ?_
    refine q_lald (pc2 := 1068) C 0 (wL_g48 ct a b o (vp_updL g 0 (((tkXS x n q (xs (4 * i + 1)).toNatClampNeg).2).toInt64)) ((tkXS x n q (xs (4 * i + 1)).toNatClampNeg).1) ((tkS (set2 y 27 (fun _ => T1 (inR (xs (4 * i + 1)) 1 50))) n q (xs (4 * i + 1)).toNatClampNeg).1)) rfl rfl (by decide) (by decide) dL_law_1067 rfl ?_
    refine q_iload (pc2 := 1070) C 0 dL_law_1068 rfl rfl ?_
    refine q_i2l (pc2 := 1071) C dL_law_1070 rfl rfl ?_
    refine q_lcmp_eq (pc2 := 1072) C ((if_pos rfl).trans (congrArg Int32.toInt64 hr)) dL_law_1071 rfl ?_
    refine q_if_eq (tgt := 1077) (pc2 := 1075) C dL_law_1072 (by decide) rfl (fun _ => ?_) (fun h9 => absurd rfl h9)
    refine q_goto (pc2 := 1473) C dL_law_1077 (by decide) ?_
    refine q_widen (Nat.le_add_right cells 1) (Nat.le_add_right slots 6) ?_
    refine q_lv (lv' := [(4, .int (nI (4 * i))), (3, .ref o), (2, .ref (b 30)), (1, .ref (a 30)), (0, .ref sb)]) [2, 3, 4, 5, 6] rfl ?_
    exact kk _ _ _ (RE.mono (by omega) hRE)
  · skip
    rw [hoc] at M
    rw [if_neg h0, if_neg h0] at MM
    refine q_aload_n (pc2 := 1025) C 3 dL_law_1024 rfl rfl rfl ?_
    refine q_aload_n (pc2 := 1026) C 4 dL_law_1025 rfl rfl rfl ?_
    refine q_iload (pc2 := 1028) C 0 dL_law_1026 rfl rfl ?_
    refine q_iconst (v := 1) (pc2 := 1029) C dL_law_1028 (by decide) rfl ?_
    refine q_iadd (v := nI (4 * i + 1)) (pc2 := 1030) C dL_law_1029 (nI_add (4 * i) 1) rfl ?_
    refine q_sld (pc2 := 1031) C hX hbl hbA (4 * i + 1) rfl (by omega) (by omega) dL_law_1030 rfl ?_
    refine q_aload_n (pc2 := 1032) C 1 dL_law_1031 rfl rfl rfl ?_
    refine q_LH (pc2 := 1035) (As := [.ref (a 30), .int (xs (4 * i + 1)), .ref o]) (st := []) (st2 := [.int (hcod [eA] (some E))]) (g' := g) (x' := x) (c2 := (cells + 1)) (s2 := (slots + 6)) C M (vx_cwSW 3 C.w gL_law_L_tick rfl rfl rfl (by decide +kernel) ⟨Nat.le_of_ble_eq_true rfl, Nat.le_of_ble_eq_true rfl⟩) dL_law_1032 rfl rfl (Nat.le_of_ble_eq_true rfl) ⟨hc, hs⟩ rfl rfl rfl rfl ?_
    refine q_istore (lv' := [(5, .int (hcod [eA] (some E))), (4, .int (nI (4 * i))), (3, .ref o), (2, .ref (b 30)), (1, .ref (a 30)), (0, .ref sb)]) (pc2 := 1037) C dL_law_1035 (by decide) rfl rfl ?_
    refine q_aload_n (pc2 := 1038) C 3 dL_law_1037 rfl rfl rfl ?_
    refine q_aload_n (pc2 := 1039) C 5 dL_law_1038 rfl rfl rfl ?_
    refine q_iload (pc2 := 1041) C 1 dL_law_1039 rfl rfl ?_
    refine q_iconst (v := 1) (pc2 := 1042) C dL_law_1041 (by decide) rfl ?_
    refine q_iadd (v := nI (4 * i + 1)) (pc2 := 1043) C dL_law_1042 (nI_add (4 * i) 1) rfl ?_
    refine q_sld (pc2 := 1044) C hX hbl hbA (4 * i + 1) rfl (by omega) (by omega) dL_law_1043 rfl ?_
    refine q_LM (pc2 := 1047) (As := [.int (xs (4 * i + 1))]) (st := []) (st2 := [.int 0]) (y' := set2 y 27 (fun _ => T1 (inR (xs (4 * i + 1)) 1 50))) C MM (cwV 1 C.w gL_law_X4_tick rfl rfl rfl (by decide +kernel) ⟨Nat.le_of_ble_eq_true rfl, Nat.le_of_ble_eq_true rfl⟩) dL_law_1044 rfl rfl (Nat.le_of_ble_eq_true rfl) ⟨hc, hs⟩ rfl rfl ?_
    refine q_istore (lv' := [(6, .int 0), (5, .int (hcod [eA] (some E))), (4, .int (nI (4 * i))), (3, .ref o), (2, .ref (b 30)), (1, .ref (a 30)), (0, .ref sb)]) (pc2 := 1049) C dL_law_1047 (by decide) rfl rfl ?_
    refine q_aload_n (pc2 := 1050) C 4 dL_law_1049 rfl rfl rfl ?_
    refine q_LM (pc2 := 1053) (As := []) (st := []) (st2 := [.int ((set2 y 27 (fun _ => T1 (inR (xs (4 * i + 1)) 1 50))) 27 0)]) (y' := set2 y 27 (fun _ => T1 (inR (xs (4 * i + 1)) 1 50))) C (c_X4_thrown l D ct b (set2 y 27 (fun _ => T1 (inR (xs (4 * i + 1)) 1 50)))) (cwV 0 C.w gL_law_X4_thrown rfl rfl rfl (by decide +kernel) ⟨Nat.le_of_ble_eq_true rfl, Nat.le_of_ble_eq_true rfl⟩) dL_law_1050 rfl rfl (Nat.le_of_ble_eq_true rfl) ⟨hc, hs⟩ rfl rfl ?_
    refine q_iload (pc2 := 1055) C 1 dL_law_1053 rfl rfl ?_
    refine q_icmp_eq (tgt := 1060) (pc2 := 1058) C dL_law_1055 (by decide) rfl (fun _ => ?_) (fun h9 => absurd (hB9.trans hT) h9)
    refine q_iload (pc2 := 1062) C 1 dL_law_1060 rfl rfl ?_
    refine q_if_ne (tgt := 1077) (pc2 := 1065) C dL_law_1062 (by decide) rfl (fun _ => ?_) (fun h9 => absurd (hT.trans h9) h0)
    refine q_goto (pc2 := 1473) C dL_law_1077 (by decide) ?_
    refine q_lv (lv' := [(4, .int (nI (4 * i))), (3, .ref o), (2, .ref (b 30)), (1, .ref (a 30)), (0, .ref sb)]) [2, 3, 4, 5, 6] rfl ?_
    exact kk g x _ (RE.mono (by omega) hRE)

set_option maxHeartbeats 4000000 in
set_option maxRecDepth 100000 in
theorem lc_standIn (l : Launch) (hl : l.stackTraces = false) {p : Program} {e : Env} {s : State} {m : MethodId} {args : Array Value} {below : List Frame} {meth : Method} {c : Code} {D : va_G} {ct : Nat → ClassId} {A : Nat → Prop} {Q : State → Prop} (C : Cx p s m args c meth cL_law 7 (some .boolean) wsL_law RL D ct A) {sb L : Nat} {xs : Nat → Int32} (hX : va_X sb L xs s s.heap) (hbl : sb < s.heap.size) (hbA : ¬ A sb) (hL : L ≤ 2048) {a b : Nat → Nat} {o : Nat} {g : Nat → Int64} {x y : Nat → Nat → Int32} {N : Nat} (hN : N + 50 < 2 ^ 29) (hR : RE N x y) {i : Nat} (hi : 4 * i + 4 ≤ L) {cells slots : Nat} (hc : cells + 1 ≤ 1088) (hs : slots + 6 ≤ 8873)
    (kk : ∀ (g' : Nat → Int64) (x' y' : Nat → Nat → Int32), RE (N + 50) x' y' → Cf p l e room_1 s m args below meth c D A 7 (cells + 1) (slots + 6) Q 1473 [(4, .int (nI (4 * i))), (3, .ref o), (2, .ref (b 30)), (1, .ref (a 30)), (0, .ref sb)] [] (wL ct a b o g' x' y')) : Cf p l e room_1 s m args below meth c D A 7 cells slots Q 1324 [(4, .int (nI (4 * i))), (3, .ref o), (2, .ref (b 30)), (1, .ref (a 30)), (0, .ref sb)] [] (wL ct a b o g x y) := by
  obtain ⟨n, h, q, bb, t, ht, r⟩ := hR
  have S := st_standIn hN r ht (xs (4 * i + 1)) (xs (4 * i + 2))
  obtain ⟨hn10, hlt, hq8, hbq, hn, hnM, hh, hhM, hq, hqM, hb, hbM, hti, hTM, e1, e2, e3, e5, e6, e7, e11, e17, e18, e19, e20, hbars, hlen, hkind, hlow, hhigh, hfst, hplc, hnam, hcur, hrul, hbeg⟩ := id r
  have hc0 : cells ≤ 1088 := Nat.le_trans (Nat.le_succ cells) hc
  have hs0 : slots ≤ 8873 := Nat.le_trans (Nat.le_add_right slots 6) hs
  have hfd := fdk r
  have hok : ∀ k, k < 10 → wOk y k := fun k hk => TM_ok hTM (by omega) k hk
  have hBM : ∀ s, s < 2 → 0 ≤ y 1 s := fun s hs => by obtain ⟨k, hk, e⟩ := hbars s hs; rw [e]; exact nI_pos' (by omega)
  have hB : ∀ s, s < 2 → 0 ≤ x 5 s := fun s hs => by rw [e5]; exact hBM s hs
  obtain ⟨kb, hkb4, hkb⟩ := hbars h hlt
  have hkbX : x 5 h = nI kb := by rw [e5]; exact hkb
  have M := c_L_standIn l D ct a o g x (set2 x 20 (hov (x 20) (xs (4 * i + 1)).toNatClampNeg (xs (4 * i + 2)).toNatClampNeg q).1) (xs (4 * i + 1)) (xs (4 * i + 2)) (if (0 ≤ (xs (4 * i + 1)) ∧ (xs (4 * i + 1)) < x 0 0) then (if (0 ≤ (xs (4 * i + 2)) ∧ (xs (4 * i + 2)) < x 0 0) then (if ((xs (4 * i + 1)) ≠ (xs (4 * i + 2))) then (if (x 3 (xs (4 * i + 1)).toNatClampNeg ≠ 0 ∧ x 3 (xs (4 * i + 2)).toNatClampNeg = 0) then none else some eS) else some eA) else some eI) else some eI) (StOk.mem S) ((hov (x 20) (xs (4 * i + 1)).toNatClampNeg (xs (4 * i + 2)).toNatClampNeg q).2) (c_X3_standIn l hl D ct a x n hn hn10 q hq hq8 (xs (4 * i + 1)) (xs (4 * i + 2)))
  have MM := c_X4_standIn l D ct b y n hnM hn10 q hqM hq8 (xs (4 * i + 1)) (xs (4 * i + 2))
  rcases S with ⟨hoc, hT, hr, hA, hRE⟩ | ⟨E, hE, hoc, hT, h0, hB9, hRE⟩
  · skip
    rw [hoc] at M
    rw [if_pos hT, if_pos hT] at MM
    refine q_aload_n (pc2 := 1325) C 3 dL_law_1324 rfl rfl rfl ?_
    refine q_aload_n (pc2 := 1326) C 4 dL_law_1325 rfl rfl rfl ?_
    refine q_iload (pc2 := 1328) C 0 dL_law_1326 rfl rfl ?_
    refine q_iconst (v := 1) (pc2 := 1329) C dL_law_1328 (by decide) rfl ?_
    refine q_iadd (v := nI (4 * i + 1)) (pc2 := 1330) C dL_law_1329 (nI_add (4 * i) 1) rfl ?_
    refine q_sld (pc2 := 1331) C hX hbl hbA (4 * i + 1) rfl (by omega) (by omega) dL_law_1330 rfl ?_
    refine q_aload_n (pc2 := 1332) C 4 dL_law_1331 rfl rfl rfl ?_
    refine q_iload (pc2 := 1334) C 0 dL_law_1332 rfl rfl ?_
    refine q_iconst (v := 2) (pc2 := 1335) C dL_law_1334 (by decide) rfl ?_
    refine q_iadd (v := nI (4 * i + 2)) (pc2 := 1336) C dL_law_1335 (nI_add (4 * i) 2) rfl ?_
    refine q_sld (pc2 := 1337) C hX hbl hbA (4 * i + 2) rfl (by omega) (by omega) dL_law_1336 rfl ?_
    refine q_aload_n (pc2 := 1338) C 1 dL_law_1337 rfl rfl rfl ?_
    refine q_LH (pc2 := 1341) (As := [.ref (a 30), .int (xs (4 * i + 1)), .int (xs (4 * i + 2)), .ref o]) (st := []) (st2 := [.int 0]) (g' := vp_updL g 0 (((hov (x 20) (xs (4 * i + 1)).toNatClampNeg (xs (4 * i + 2)).toNatClampNeg q).2).toInt64)) (x' := set2 x 20 (hov (x 20) (xs (4 * i + 1)).toNatClampNeg (xs (4 * i + 2)).toNatClampNeg q).1) (c2 := cells) (s2 := slots) C M (vx_cwSW 4 C.w gL_law_L_standIn rfl rfl rfl (by decide +kernel) ⟨Nat.le_of_ble_eq_true rfl, Nat.le_of_ble_eq_true rfl⟩) dL_law_1338 rfl rfl (Nat.le_of_ble_eq_true rfl) ⟨hc0, hs0⟩ rfl rfl rfl rfl ?_
    refine q_istore (lv' := [(5, .int 0), (4, .int (nI (4 * i))), (3, .ref o), (2, .ref (b 30)), (1, .ref (a 30)), (0, .ref sb)]) (pc2 := 1343) C dL_law_1341 (by decide) rfl rfl ?_
    refine q_aload_n (pc2 := 1344) C 3 dL_law_1343 rfl rfl rfl ?_
    refine q_aload_n (pc2 := 1345) C 5 dL_law_1344 rfl rfl rfl ?_
    refine q_iload (pc2 := 1347) C 1 dL_law_1345 rfl rfl ?_
    refine q_iconst (v := 1) (pc2 := 1348) C dL_law_1347 (by decide) rfl ?_
    refine q_iadd (v := nI (4 * i + 1)) (pc2 := 1349) C dL_law_1348 (nI_add (4 * i) 1) rfl ?_
    refine q_sld (pc2 := 1350) C hX hbl hbA (4 * i + 1) rfl (by omega) (by omega) dL_law_1349 rfl ?_
    refine q_aload_n (pc2 := 1351) C 5 dL_law_1350 rfl rfl rfl ?_
    refine q_iload (pc2 := 1353) C 1 dL_law_1351 rfl rfl ?_
    refine q_iconst (v := 2) (pc2 := 1354) C dL_law_1353 (by decide) rfl ?_
    refine q_iadd (v := nI (4 * i + 2)) (pc2 := 1355) C dL_law_1354 (nI_add (4 * i) 2) rfl ?_
    refine q_sld (pc2 := 1356) C hX hbl hbA (4 * i + 2) rfl (by omega) (by omega) dL_law_1355 rfl ?_
    refine q_LM (pc2 := 1359) (As := [.int (xs (4 * i + 1)), .int (xs (4 * i + 2))]) (st := []) (st2 := [.int ((hov (y 22) (xs (4 * i + 1)).toNatClampNeg (xs (4 * i + 2)).toNatClampNeg q).2)]) (y' := set2 (set2 y 27 (fun _ => T3 (inR (xs (4 * i + 1)) 0 (y 4 0 - 1) ∧ inR (xs (4 * i + 2)) 0 (y 4 0 - 1)) ((xs (4 * i + 1)) ≠ (xs (4 * i + 2))) ((inR (xs (4 * i + 1)) 0 (y 4 0 - 1) ∧ inR (xs (4 * i + 2)) 0 (y 4 0 - 1)) ∧ y 11 (xs (4 * i + 1)).toNatClampNeg ≠ 0 ∧ y 11 (xs (4 * i + 2)).toNatClampNeg = 0))) 22 (hov (y 22) (xs (4 * i + 1)).toNatClampNeg (xs (4 * i + 2)).toNatClampNeg q).1) C MM (cwV 2 C.w gL_law_X4_standIn rfl rfl rfl (by decide +kernel) ⟨Nat.le_of_ble_eq_true rfl, Nat.le_of_ble_eq_true rfl⟩) dL_law_1356 rfl rfl (Nat.le_of_ble_eq_true rfl) ⟨hc0, hs0⟩ rfl rfl ?_
    refine q_istore (lv' := [(6, .int ((hov (y 22) (xs (4 * i + 1)).toNatClampNeg (xs (4 * i + 2)).toNatClampNeg q).2)), (5, .int 0), (4, .int (nI (4 * i))), (3, .ref o), (2, .ref (b 30)), (1, .ref (a 30)), (0, .ref sb)]) (pc2 := 1361) C dL_law_1359 (by decide) rfl rfl ?_
    refine q_aload_n (pc2 := 1362) C 4 dL_law_1361 rfl rfl rfl ?_
    refine q_LM (pc2 := 1365) (As := []) (st := []) (st2 := [.int ((set2 (set2 y 27 (fun _ => T3 (inR (xs (4 * i + 1)) 0 (y 4 0 - 1) ∧ inR (xs (4 * i + 2)) 0 (y 4 0 - 1)) ((xs (4 * i + 1)) ≠ (xs (4 * i + 2))) ((inR (xs (4 * i + 1)) 0 (y 4 0 - 1) ∧ inR (xs (4 * i + 2)) 0 (y 4 0 - 1)) ∧ y 11 (xs (4 * i + 1)).toNatClampNeg ≠ 0 ∧ y 11 (xs (4 * i + 2)).toNatClampNeg = 0))) 22 (hov (y 22) (xs (4 * i + 1)).toNatClampNeg (xs (4 * i + 2)).toNatClampNeg q).1) 27 0)]) (y' := set2 (set2 y 27 (fun _ => T3 (inR (xs (4 * i + 1)) 0 (y 4 0 - 1) ∧ inR (xs (4 * i + 2)) 0 (y 4 0 - 1)) ((xs (4 * i + 1)) ≠ (xs (4 * i + 2))) ((inR (xs (4 * i + 1)) 0 (y 4 0 - 1) ∧ inR (xs (4 * i + 2)) 0 (y 4 0 - 1)) ∧ y 11 (xs (4 * i + 1)).toNatClampNeg ≠ 0 ∧ y 11 (xs (4 * i + 2)).toNatClampNeg = 0))) 22 (hov (y 22) (xs (4 * i + 1)).toNatClampNeg (xs (4 * i + 2)).toNatClampNeg q).1) C (c_X4_thrown l D ct b (set2 (set2 y 27 (fun _ => T3 (inR (xs (4 * i + 1)) 0 (y 4 0 - 1) ∧ inR (xs (4 * i + 2)) 0 (y 4 0 - 1)) ((xs (4 * i + 1)) ≠ (xs (4 * i + 2))) ((inR (xs (4 * i + 1)) 0 (y 4 0 - 1) ∧ inR (xs (4 * i + 2)) 0 (y 4 0 - 1)) ∧ y 11 (xs (4 * i + 1)).toNatClampNeg ≠ 0 ∧ y 11 (xs (4 * i + 2)).toNatClampNeg = 0))) 22 (hov (y 22) (xs (4 * i + 1)).toNatClampNeg (xs (4 * i + 2)).toNatClampNeg q).1)) (cwV 0 C.w gL_law_X4_thrown rfl rfl rfl (by decide +kernel) ⟨Nat.le_of_ble_eq_true rfl, Nat.le_of_ble_eq_true rfl⟩) dL_law_1362 rfl rfl (Nat.le_of_ble_eq_true rfl) ⟨hc0, hs0⟩ rfl rfl ?_
    refine q_iload (pc2 := 1367) C 1 dL_law_1365 rfl rfl ?_
    refine q_icmp_eq (tgt := 1372) (pc2 := 1370) C dL_law_1367 (by decide) rfl (fun _ => ?_) (fun h9 => absurd (hA.trans hT) h9)
    refine q_iload (pc2 := 1374) C 1 dL_law_1372 rfl rfl ?_
    refine q_if_ne (tgt := 1389) (pc2 := 1377) C dL_law_1374 (by decide) rfl (fun h9 => absurd rfl h9) (fun _ => ?_)
    refine q_aload_n (pc2 := 1378) C 3 dL_law_1377 rfl rfl rfl ?_
    refine q_iconst (v := 0) (pc2 := 1379) C dL_law_1378 (by decide) rfl ?_
    refine q_lald (pc2 := 1380) C 0 (wL_g48 ct a b o (vp_updL g 0 (((hov (x 20) (xs (4 * i + 1)).toNatClampNeg (xs (4 * i + 2)).toNatClampNeg q).2).toInt64)) (set2 x 20 (hov (x 20) (xs (4 * i + 1)).toNatClampNeg (xs (4 * i + 2)).toNatClampNeg q).1) (set2 (set2 y 27 (fun _ => T3 (inR (xs (4 * i + 1)) 0 (y 4 0 - 1) ∧ inR (xs (4 * i + 2)) 0 (y 4 0 - 1)) ((xs (4 * i + 1)) ≠ (xs (4 * i + 2))) ((inR (xs (4 * i + 1)) 0 (y 4 0 - 1) ∧ inR (xs (4 * i + 2)) 0 (y 4 0 - 1)) ∧ y 11 (xs (4 * i + 1)).toNatClampNeg ≠ 0 ∧ y 11 (xs (4 * i + 2)).toNatClampNeg = 0))) 22 (hov (y 22) (xs (4 * i + 1)).toNatClampNeg (xs (4 * i + 2)).toNatClampNeg q).1)) rfl rfl (by decide) (by decide) dL_law_1379 rfl ?_
    refine q_iload (pc2 := 1382) C 0 dL_law_1380 rfl rfl ?_
    refine q_i2l (pc2 := 1383) C dL_law_1382 rfl rfl ?_
    refine q_lcmp_eq (pc2 := 1384) C ((if_pos rfl).trans (congrArg Int32.toInt64 hr)) dL_law_1383 rfl ?_
    refine q_if_eq (tgt := 1389) (pc2 := 1387) C dL_law_1384 (by decide) rfl (fun _ => ?_) (fun h9 => absurd rfl h9)
    refine q_goto (pc2 := 1473) C dL_law_1389 (by decide) ?_
    refine q_widen (Nat.le_add_right cells 1) (Nat.le_add_right slots 6) ?_
    refine q_lv (lv' := [(4, .int (nI (4 * i))), (3, .ref o), (2, .ref (b 30)), (1, .ref (a 30)), (0, .ref sb)]) [2, 3, 4, 5, 6] rfl ?_
    exact kk _ _ _ (RE.mono (by omega) hRE)
  · skip
    rw [hoc] at M
    rw [if_neg h0, if_neg h0] at MM
    refine q_aload_n (pc2 := 1325) C 3 dL_law_1324 rfl rfl rfl ?_
    refine q_aload_n (pc2 := 1326) C 4 dL_law_1325 rfl rfl rfl ?_
    refine q_iload (pc2 := 1328) C 0 dL_law_1326 rfl rfl ?_
    refine q_iconst (v := 1) (pc2 := 1329) C dL_law_1328 (by decide) rfl ?_
    refine q_iadd (v := nI (4 * i + 1)) (pc2 := 1330) C dL_law_1329 (nI_add (4 * i) 1) rfl ?_
    refine q_sld (pc2 := 1331) C hX hbl hbA (4 * i + 1) rfl (by omega) (by omega) dL_law_1330 rfl ?_
    refine q_aload_n (pc2 := 1332) C 4 dL_law_1331 rfl rfl rfl ?_
    refine q_iload (pc2 := 1334) C 0 dL_law_1332 rfl rfl ?_
    refine q_iconst (v := 2) (pc2 := 1335) C dL_law_1334 (by decide) rfl ?_
    refine q_iadd (v := nI (4 * i + 2)) (pc2 := 1336) C dL_law_1335 (nI_add (4 * i) 2) rfl ?_
    refine q_sld (pc2 := 1337) C hX hbl hbA (4 * i + 2) rfl (by omega) (by omega) dL_law_1336 rfl ?_
    refine q_aload_n (pc2 := 1338) C 1 dL_law_1337 rfl rfl rfl ?_
    refine q_LH (pc2 := 1341) (As := [.ref (a 30), .int (xs (4 * i + 1)), .int (xs (4 * i + 2)), .ref o]) (st := []) (st2 := [.int (hcod [eI, eA, eS] (some E))]) (g' := g) (x' := x) (c2 := (cells + 1)) (s2 := (slots + 6)) C M (vx_cwSW 4 C.w gL_law_L_standIn rfl rfl rfl (by decide +kernel) ⟨Nat.le_of_ble_eq_true rfl, Nat.le_of_ble_eq_true rfl⟩) dL_law_1338 rfl rfl (Nat.le_of_ble_eq_true rfl) ⟨hc, hs⟩ rfl rfl rfl rfl ?_
    refine q_istore (lv' := [(5, .int (hcod [eI, eA, eS] (some E))), (4, .int (nI (4 * i))), (3, .ref o), (2, .ref (b 30)), (1, .ref (a 30)), (0, .ref sb)]) (pc2 := 1343) C dL_law_1341 (by decide) rfl rfl ?_
    refine q_aload_n (pc2 := 1344) C 3 dL_law_1343 rfl rfl rfl ?_
    refine q_aload_n (pc2 := 1345) C 5 dL_law_1344 rfl rfl rfl ?_
    refine q_iload (pc2 := 1347) C 1 dL_law_1345 rfl rfl ?_
    refine q_iconst (v := 1) (pc2 := 1348) C dL_law_1347 (by decide) rfl ?_
    refine q_iadd (v := nI (4 * i + 1)) (pc2 := 1349) C dL_law_1348 (nI_add (4 * i) 1) rfl ?_
    refine q_sld (pc2 := 1350) C hX hbl hbA (4 * i + 1) rfl (by omega) (by omega) dL_law_1349 rfl ?_
    refine q_aload_n (pc2 := 1351) C 5 dL_law_1350 rfl rfl rfl ?_
    refine q_iload (pc2 := 1353) C 1 dL_law_1351 rfl rfl ?_
    refine q_iconst (v := 2) (pc2 := 1354) C dL_law_1353 (by decide) rfl ?_
    refine q_iadd (v := nI (4 * i + 2)) (pc2 := 1355) C dL_law_1354 (nI_add (4 * i) 2) rfl ?_
    refine q_sld (pc2 := 1356) C hX hbl hbA (4 * i + 2) rfl (by omega) (by omega) dL_law_1355 rfl ?_
    refine q_LM (pc2 := 1359) (As := [.int (xs (4 * i + 1)), .int (xs (4 * i + 2))]) (st := []) (st2 := [.int 0]) (y' := set2 y 27 (fun _ => T3 (inR (xs (4 * i + 1)) 0 (y 4 0 - 1) ∧ inR (xs (4 * i + 2)) 0 (y 4 0 - 1)) ((xs (4 * i + 1)) ≠ (xs (4 * i + 2))) ((inR (xs (4 * i + 1)) 0 (y 4 0 - 1) ∧ inR (xs (4 * i + 2)) 0 (y 4 0 - 1)) ∧ y 11 (xs (4 * i + 1)).toNatClampNeg ≠ 0 ∧ y 11 (xs (4 * i + 2)).toNatClampNeg = 0))) C MM (cwV 2 C.w gL_law_X4_standIn rfl rfl rfl (by decide +kernel) ⟨Nat.le_of_ble_eq_true rfl, Nat.le_of_ble_eq_true rfl⟩) dL_law_1356 rfl rfl (Nat.le_of_ble_eq_true rfl) ⟨hc, hs⟩ rfl rfl ?_
    refine q_istore (lv' := [(6, .int 0), (5, .int (hcod [eI, eA, eS] (some E))), (4, .int (nI (4 * i))), (3, .ref o), (2, .ref (b 30)), (1, .ref (a 30)), (0, .ref sb)]) (pc2 := 1361) C dL_law_1359 (by decide) rfl rfl ?_
    refine q_aload_n (pc2 := 1362) C 4 dL_law_1361 rfl rfl rfl ?_
    refine q_LM (pc2 := 1365) (As := []) (st := []) (st2 := [.int ((set2 y 27 (fun _ => T3 (inR (xs (4 * i + 1)) 0 (y 4 0 - 1) ∧ inR (xs (4 * i + 2)) 0 (y 4 0 - 1)) ((xs (4 * i + 1)) ≠ (xs (4 * i + 2))) ((inR (xs (4 * i + 1)) 0 (y 4 0 - 1) ∧ inR (xs (4 * i + 2)) 0 (y 4 0 - 1)) ∧ y 11 (xs (4 * i + 1)).toNatClampNeg ≠ 0 ∧ y 11 (xs (4 * i + 2)).toNatClampNeg = 0))) 27 0)]) (y' := set2 y 27 (fun _ => T3 (inR (xs (4 * i + 1)) 0 (y 4 0 - 1) ∧ inR (xs (4 * i + 2)) 0 (y 4 0 - 1)) ((xs (4 * i + 1)) ≠ (xs (4 * i + 2))) ((inR (xs (4 * i + 1)) 0 (y 4 0 - 1) ∧ inR (xs (4 * i + 2)) 0 (y 4 0 - 1)) ∧ y 11 (xs (4 * i + 1)).toNatClampNeg ≠ 0 ∧ y 11 (xs (4 * i + 2)).toNatClampNeg = 0))) C (c_X4_thrown l D ct b (set2 y 27 (fun _ => T3 (inR (xs (4 * i + 1)) 0 (y 4 0 - 1) ∧ inR (xs (4 * i + 2)) 0 (y 4 0 - 1)) ((xs (4 * i + 1)) ≠ (xs (4 * i + 2))) ((inR (xs (4 * i + 1)) 0 (y 4 0 - 1) ∧ inR (xs (4 * i + 2)) 0 (y 4 0 - 1)) ∧ y 11 (xs (4 * i + 1)).toNatClampNeg ≠ 0 ∧ y 11 (xs (4 * i + 2)).toNatClampNeg = 0)))) (cwV 0 C.w gL_law_X4_thrown rfl rfl rfl (by decide +kernel) ⟨Nat.le_of_ble_eq_true rfl, Nat.le_of_ble_eq_true rfl⟩) dL_law_1362 rfl rfl (Nat.le_of_ble_eq_true rfl) ⟨hc, hs⟩ rfl rfl ?_
    refine q_iload (pc2 := 1367) C 1 dL_law_1365 rfl rfl ?_
    refine q_icmp_eq (tgt := 1372) (pc2 := 1370) C dL_law_1367 (by decide) rfl (fun _ => ?_) (fun h9 => absurd (hB9.trans hT) h9)
    refine q_iload (pc2 := 1374) C 1 dL_law_1372 rfl rfl ?_
    refine q_if_ne (tgt := 1389) (pc2 := 1377) C dL_law_1374 (by decide) rfl (fun _ => ?_) (fun h9 => absurd (hT.trans h9) h0)
    refine q_goto (pc2 := 1473) C dL_law_1389 (by decide) ?_
    refine q_lv (lv' := [(4, .int (nI (4 * i))), (3, .ref o), (2, .ref (b 30)), (1, .ref (a 30)), (0, .ref sb)]) [2, 3, 4, 5, 6] rfl ?_
    exact kk g x _ (RE.mono (by omega) hRE)
