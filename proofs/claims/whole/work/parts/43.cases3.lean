/-! the law's cases that throw nothing -/

set_option maxHeartbeats 4000000 in
set_option maxRecDepth 100000 in
theorem lc_tour (l : Launch) {p : Program} {e : Env} {s : State} {m : MethodId} {args : Array Value} {below : List Frame} {meth : Method} {c : Code} {D : va_G} {ct : Nat → ClassId} {A : Nat → Prop} {Q : State → Prop} (C : Cx p s m args c meth cL_law 7 (some .boolean) wsL_law RL D ct A) {sb : Nat} {a b : Nat → Nat} {o : Nat} {g : Nat → Int64} {x y : Nat → Nat → Int32} {N : Nat} (hR : RE N x y) {i : Nat} {cells slots : Nat} (hc : cells + 1 ≤ 1088) (hs : slots + 6 ≤ 8873)
    (kk : ∀ (g' : Nat → Int64) (x' y' : Nat → Nat → Int32), RE (N + 50) x' y' → Cf p l e room_1 s m args below meth c D A 7 (cells + 1) (slots + 6) Q 1473 [(4, .int (nI (4 * i))), (3, .ref o), (2, .ref (b 30)), (1, .ref (a 30)), (0, .ref sb)] [] (wL ct a b o g' x' y')) : Cf p l e room_1 s m args below meth c D A 7 cells slots Q 559 [(4, .int (nI (4 * i))), (3, .ref o), (2, .ref (b 30)), (1, .ref (a 30)), (0, .ref sb)] [] (wL ct a b o g x y) := by
  obtain ⟨n, h, q, bb, t, ht, r⟩ := hR
  obtain ⟨hn10, hlt, hq8, hbq, hn, hnM, hh, hhM, hq, hqM, hb, hbM, hti, hTM, e1, e2, e3, e5, e6, e7, e11, e17, e18, e19, e20, hbars, hlen, hkind, hlow, hhigh, hfst, hplc, hnam, hcur, hrul, hbeg⟩ := id r
  have hc0 : cells ≤ 1088 := Nat.le_trans (Nat.le_succ cells) hc
  have hs0 : slots ≤ 8873 := Nat.le_trans (Nat.le_add_right slots 6) hs
  obtain ⟨kb, hkb4, hkb⟩ := hbars (1 - h) (by omega)
  have hkbX : x 5 (1 - h) = nI kb := by rw [e5]; exact hkb
  have S := RR_tour r
  obtain ⟨S1, S2⟩ := S
  refine q_aload_n (pc2 := 560) C 3 dL_law_559 rfl rfl rfl ?_
  refine q_LX (pc2 := 563) (As := []) (st := []) (st2 := [.int ((trn (tr0 x (1 - h)) (1 - h) 10).2.2)]) (x' := set2 (set2 (tr0 x (1 - h)) 9 (trn (tr0 x (1 - h)) (1 - h) 10).1) 11 (trn (tr0 x (1 - h)) (1 - h) 10).2.1) C (c_X3_tour l D ct a x h hh hlt kb hkbX hkb4) (cwV 0 C.w gL_law_X3_tour rfl rfl rfl (by decide +kernel) ⟨Nat.le_of_ble_eq_true rfl, Nat.le_of_ble_eq_true rfl⟩) dL_law_560 rfl rfl (Nat.le_of_ble_eq_true rfl) ⟨hc0, hs0⟩ rfl rfl ?_
  refine q_aload_n (pc2 := 564) C 2 dL_law_563 rfl rfl rfl ?_
  refine q_LM (pc2 := 567) (As := []) (st := [.int ((trn (tr0 x (1 - h)) (1 - h) 10).2.2)]) (st2 := [.int ((trM (trm0 y n (1 - h)) n (1 - h) n).2.2), .int ((trn (tr0 x (1 - h)) (1 - h) 10).2.2)]) (y' := set2 (set2 (trm0 y n (1 - h)) 7 (trM (trm0 y n (1 - h)) n (1 - h) n).1) 8 (trM (trm0 y n (1 - h)) n (1 - h) n).2.1) C (c_X4_tour l D ct b y n hnM hn10 h hhM hlt kb hkb hkb4 hlen) (cwV 0 C.w gL_law_X4_tour rfl rfl rfl (by decide +kernel) ⟨Nat.le_of_ble_eq_true rfl, Nat.le_of_ble_eq_true rfl⟩) dL_law_564 rfl rfl (Nat.le_of_ble_eq_true rfl) ⟨hc0, hs0⟩ rfl rfl ?_
  refine q_icmp_eq (tgt := 1473) (pc2 := 570) C dL_law_567 (by decide) rfl (fun _ => ?_) (fun h9 => absurd S2 h9)
  refine q_widen (Nat.le_add_right cells 1) (Nat.le_add_right slots 6) ?_
  exact kk _ _ _ ⟨n, 1 - h, q, bb, t, Nat.le_trans ht (Nat.le_add_right N 50), S1⟩

set_option maxHeartbeats 4000000 in
set_option maxRecDepth 100000 in
theorem lc_rewind (l : Launch) {p : Program} {e : Env} {s : State} {m : MethodId} {args : Array Value} {below : List Frame} {meth : Method} {c : Code} {D : va_G} {ct : Nat → ClassId} {A : Nat → Prop} {Q : State → Prop} (C : Cx p s m args c meth cL_law 7 (some .boolean) wsL_law RL D ct A) {sb : Nat} {a b : Nat → Nat} {o : Nat} {g : Nat → Int64} {x y : Nat → Nat → Int32} {N : Nat} (hR : RE N x y) {i : Nat} {cells slots : Nat} (hc : cells + 1 ≤ 1088) (hs : slots + 6 ≤ 8873)
    (kk : ∀ (g' : Nat → Int64) (x' y' : Nat → Nat → Int32), RE (N + 50) x' y' → Cf p l e room_1 s m args below meth c D A 7 (cells + 1) (slots + 6) Q 1473 [(4, .int (nI (4 * i))), (3, .ref o), (2, .ref (b 30)), (1, .ref (a 30)), (0, .ref sb)] [] (wL ct a b o g' x' y')) : Cf p l e room_1 s m args below meth c D A 7 cells slots Q 1080 [(4, .int (nI (4 * i))), (3, .ref o), (2, .ref (b 30)), (1, .ref (a 30)), (0, .ref sb)] [] (wL ct a b o g x y) := by
  obtain ⟨n, h, q, bb, t, ht, r⟩ := hR
  obtain ⟨hn10, hlt, hq8, hbq, hn, hnM, hh, hhM, hq, hqM, hb, hbM, hti, hTM, e1, e2, e3, e5, e6, e7, e11, e17, e18, e19, e20, hbars, hlen, hkind, hlow, hhigh, hfst, hplc, hnam, hcur, hrul, hbeg⟩ := id r
  have hc0 : cells ≤ 1088 := Nat.le_trans (Nat.le_succ cells) hc
  have hs0 : slots ≤ 8873 := Nat.le_trans (Nat.le_add_right slots 6) hs
  have S := st_rewind r
  obtain ⟨S2, S1⟩ := S
  refine q_aload_n (pc2 := 1081) C 3 dL_law_1080 rfl rfl rfl ?_
  refine q_LX (pc2 := 1084) (As := []) (st := []) (st2 := [.int (x 22 0 + 1)]) (x' := set2 (set2 x 22 (fun _ => -1)) 24 (fun k => if k < 10 then -1 else x 24 k)) C (c_X3_rewind l D ct a x ) (cwV 0 C.w gL_law_X3_rewind rfl rfl rfl (by decide +kernel) ⟨Nat.le_of_ble_eq_true rfl, Nat.le_of_ble_eq_true rfl⟩) dL_law_1081 rfl rfl (Nat.le_of_ble_eq_true rfl) ⟨hc0, hs0⟩ rfl rfl ?_
  refine q_aload_n (pc2 := 1085) C 2 dL_law_1084 rfl rfl rfl ?_
  refine q_LM (pc2 := 1088) (As := []) (st := [.int (x 22 0 + 1)]) (st2 := [.int (y 23 0), .int (x 22 0 + 1)]) (y' := set2 (set2 (set2 (set2 (set2 y 27 (fun _ => 0)) 23 (fun _ => 0)) 13 (fun j => if j < n then 0 else y 13 j)) 14 (fun j => if j < n then 0 else y 14 j)) 16 (fun j => if j < n then 0 else y 16 j)) C (c_X4_rewind l D ct b y n hnM hn10) (cwV 0 C.w gL_law_X4_rewind rfl rfl rfl (by decide +kernel) ⟨Nat.le_of_ble_eq_true rfl, Nat.le_of_ble_eq_true rfl⟩) dL_law_1085 rfl rfl (Nat.le_of_ble_eq_true rfl) ⟨hc0, hs0⟩ rfl rfl ?_
  refine q_icmp_eq (tgt := 1473) (pc2 := 1091) C dL_law_1088 (by decide) rfl (fun _ => ?_) (fun h9 => absurd S2 h9)
  refine q_widen (Nat.le_add_right cells 1) (Nat.le_add_right slots 6) ?_
  exact kk _ _ _ ⟨n, h, q, 0, t, Nat.le_trans ht (Nat.le_add_right N 50), S1⟩

set_option maxHeartbeats 4000000 in
set_option maxRecDepth 100000 in
theorem lc_burnt (l : Launch) {p : Program} {e : Env} {s : State} {m : MethodId} {args : Array Value} {below : List Frame} {meth : Method} {c : Code} {D : va_G} {ct : Nat → ClassId} {A : Nat → Prop} {Q : State → Prop} (C : Cx p s m args c meth cL_law 7 (some .boolean) wsL_law RL D ct A) {sb : Nat} {a b : Nat → Nat} {o : Nat} {g : Nat → Int64} {x y : Nat → Nat → Int32} {N : Nat} (hR : RE N x y) {i : Nat} {cells slots : Nat} (hc : cells + 1 ≤ 1088) (hs : slots + 6 ≤ 8873)
    (kk : ∀ (g' : Nat → Int64) (x' y' : Nat → Nat → Int32), RE (N + 50) x' y' → Cf p l e room_1 s m args below meth c D A 7 (cells + 1) (slots + 6) Q 1473 [(4, .int (nI (4 * i))), (3, .ref o), (2, .ref (b 30)), (1, .ref (a 30)), (0, .ref sb)] [] (wL ct a b o g' x' y')) : Cf p l e room_1 s m args below meth c D A 7 cells slots Q 1460 [(4, .int (nI (4 * i))), (3, .ref o), (2, .ref (b 30)), (1, .ref (a 30)), (0, .ref sb)] [] (wL ct a b o g x y) := by
  obtain ⟨n, h, q, bb, t, ht, r⟩ := hR
  obtain ⟨hn10, hlt, hq8, hbq, hn, hnM, hh, hhM, hq, hqM, hb, hbM, hti, hTM, e1, e2, e3, e5, e6, e7, e11, e17, e18, e19, e20, hbars, hlen, hkind, hlow, hhigh, hfst, hplc, hnam, hcur, hrul, hbeg⟩ := id r
  have hc0 : cells ≤ 1088 := Nat.le_trans (Nat.le_succ cells) hc
  have hs0 : slots ≤ 8873 := Nat.le_trans (Nat.le_add_right slots 6) hs
  have S := st_burnt r
  have S2 := S
  have S1 := RR_27 r (fun _ => 0)
  refine q_aload_n (pc2 := 1461) C 3 dL_law_1460 rfl rfl rfl ?_
  refine q_LX (pc2 := 1464) (As := []) (st := []) (st2 := [.int (orf (fun k => if 30 ≤ x 2 k then (1 <<< (nI k &&& 31) : Int32) else 0) n)]) (x' := x) C (c_X3_burnt l D ct a x n hn hn10) (cwV 0 C.w gL_law_X3_burnt rfl rfl rfl (by decide +kernel) ⟨Nat.le_of_ble_eq_true rfl, Nat.le_of_ble_eq_true rfl⟩) dL_law_1461 rfl rfl (Nat.le_of_ble_eq_true rfl) ⟨hc0, hs0⟩ rfl rfl ?_
  refine q_aload_n (pc2 := 1465) C 2 dL_law_1464 rfl rfl rfl ?_
  refine q_LM (pc2 := 1468) (As := []) (st := [.int (orf (fun k => if 30 ≤ x 2 k then (1 <<< (nI k &&& 31) : Int32) else 0) n)]) (st2 := [.int (orf (fun k => if 30 ≤ y 12 k then (1 <<< (nI k &&& 31) : Int32) else 0) n), .int (orf (fun k => if 30 ≤ x 2 k then (1 <<< (nI k &&& 31) : Int32) else 0) n)]) (y' := set2 y 27 (fun _ => 0)) C (c_X4_burnt l D ct b y n hnM hn10) (cwV 0 C.w gL_law_X4_burnt rfl rfl rfl (by decide +kernel) ⟨Nat.le_of_ble_eq_true rfl, Nat.le_of_ble_eq_true rfl⟩) dL_law_1465 rfl rfl (Nat.le_of_ble_eq_true rfl) ⟨hc0, hs0⟩ rfl rfl ?_
  refine q_icmp_eq (tgt := 1473) (pc2 := 1471) C dL_law_1468 (by decide) rfl (fun _ => ?_) (fun h9 => absurd S2 h9)
  refine q_widen (Nat.le_add_right cells 1) (Nat.le_add_right slots 6) ?_
  exact kk _ _ _ ⟨n, h, q, bb, t, Nat.le_trans ht (Nat.le_add_right N 50), S1⟩
