/-! the law's cases -/
set_option maxHeartbeats 4000000 in
set_option maxRecDepth 100000 in
theorem lc_down (l : Launch) (hl : l.stackTraces = false) {p : Program} {e : Env} {s : State} {m : MethodId} {args : Array Value} {below : List Frame} {meth : Method} {c : Code} {D : va_G} {ct : Nat → ClassId} {A : Nat → Prop} {Q : State → Prop} (C : Cx p s m args c meth cL_law 7 (some .boolean) wsL_law RL D ct A) {sb L : Nat} {xs : Nat → Int32} (hX : va_X sb L xs s s.heap) (hbl : sb < s.heap.size) (hbA : ¬ A sb) (hL : L ≤ 2048) {a b : Nat → Nat} {o : Nat} {g : Nat → Int64} {x y : Nat → Nat → Int32} {N : Nat} (hN : N + 50 < 2 ^ 29) (hR : RE N x y) {i : Nat} (hi : 4 * i + 4 ≤ L) {cells slots : Nat} (hc : cells + 1 ≤ 1088) (hs : slots + 6 ≤ 8873)
    (kk : ∀ (g' : Nat → Int64) (x' y' : Nat → Nat → Int32), RE (N + 50) x' y' → Cf p l e room_1 s m args below meth c D A 7 (cells + 1) (slots + 6) Q 1473 [(4, .int (nI (4 * i))), (3, .ref o), (2, .ref (b 30)), (1, .ref (a 30)), (0, .ref sb)] [] (wL ct a b o g' x' y')) : Cf p l e room_1 s m args below meth c D A 7 cells slots Q 372 [(4, .int (nI (4 * i))), (3, .ref o), (2, .ref (b 30)), (1, .ref (a 30)), (0, .ref sb)] [] (wL ct a b o g x y) := by
  obtain ⟨n, h, q, bb, t, ht, r⟩ := hR
  have S := st_down hN r ht (xs (4 * i + 1))
  obtain ⟨hn10, hlt, hq8, hbq, hn, hnM, hh, hhM, hq, hqM, hb, hbM, hti, hTM, e1, e2, e3, e5, e6, e7, e11, e17, e18, e19, e20, hbars, hlen, hkind, hlow, hhigh, hfst, hplc, hnam, hcur, hrul, hbeg⟩ := id r
  have hc0 : cells ≤ 1088 := Nat.le_trans (Nat.le_succ cells) hc
  have hs0 : slots ≤ 8873 := Nat.le_trans (Nat.le_add_right slots 6) hs
  have hfd := fdk r
  have hok : ∀ k, k < 10 → wOk y k := fun k hk => TM_ok hTM (by omega) k hk
  have hBM : ∀ s, s < 2 → 0 ≤ y 1 s := fun s hs => by obtain ⟨k, hk, e⟩ := hbars s hs; rw [e]; exact nI_pos' (by omega)
  have hB : ∀ s, s < 2 → 0 ≤ x 5 s := fun s hs => by rw [e5]; exact hBM s hs
  obtain ⟨kb, hkb4, hkb⟩ := hbars h hlt
  have hkbX : x 5 h = nI kb := by rw [e5]; exact hkb
  have M := c_L_down l D ct a o g x (set2 x 9 (upd (x 9) (xs (4 * i + 1)).toNatClampNeg (-1))) (xs (4 * i + 1)) (if (0 ≤ (xs (4 * i + 1)) ∧ (xs (4 * i + 1)) < x 0 0) then none else some eI) (StOk.mem S) (b2 (x 9 (xs (4 * i + 1)).toNatClampNeg ≠ -1)) (c_X3_down l hl D ct a x n hn hn10 (xs (4 * i + 1)))
  have MM := c_X4_down l D ct b y n hnM hn10 (xs (4 * i + 1))
  rcases S with ⟨hoc, hT, hr, hA, hRE⟩ | ⟨E, hE, hoc, hT, h0, hB9, hRE⟩
  · skip
    rw [hoc] at M
    rw [if_pos hT, if_pos hT] at MM
    refine q_aload_n (pc2 := 373) C 3 dL_law_372 rfl rfl rfl ?_
    refine q_aload_n (pc2 := 374) C 4 dL_law_373 rfl rfl rfl ?_
    refine q_iload (pc2 := 376) C 0 dL_law_374 rfl rfl ?_
    refine q_iconst (v := 1) (pc2 := 377) C dL_law_376 (by decide) rfl ?_
    refine q_iadd (v := nI (4 * i + 1)) (pc2 := 378) C dL_law_377 (nI_add (4 * i) 1) rfl ?_
    refine q_sld (pc2 := 379) C hX hbl hbA (4 * i + 1) rfl (by omega) (by omega) dL_law_378 rfl ?_
    refine q_aload_n (pc2 := 380) C 1 dL_law_379 rfl rfl rfl ?_
    refine q_LH (pc2 := 383) (As := [.ref (a 30), .int (xs (4 * i + 1)), .ref o]) (st := []) (st2 := [.int 0]) (g' := vp_updL g 0 ((if (b2 (x 9 (xs (4 * i + 1)).toNatClampNeg ≠ -1)) = 0 then (0 : Int64) else 1))) (x' := set2 x 9 (upd (x 9) (xs (4 * i + 1)).toNatClampNeg (-1))) (c2 := cells) (s2 := slots) C M (vx_cwSW 3 C.w gL_law_L_down rfl rfl rfl (by decide +kernel) ⟨Nat.le_of_ble_eq_true rfl, Nat.le_of_ble_eq_true rfl⟩) dL_law_380 rfl rfl (Nat.le_of_ble_eq_true rfl) ⟨hc0, hs0⟩ rfl rfl rfl rfl ?_
    refine q_istore (lv' := [(5, .int 0), (4, .int (nI (4 * i))), (3, .ref o), (2, .ref (b 30)), (1, .ref (a 30)), (0, .ref sb)]) (pc2 := 385) C dL_law_383 (by decide) rfl rfl ?_
    refine q_aload_n (pc2 := 386) C 3 dL_law_385 rfl rfl rfl ?_
    refine q_aload_n (pc2 := 387) C 5 dL_law_386 rfl rfl rfl ?_
    refine q_iload (pc2 := 389) C 1 dL_law_387 rfl rfl ?_
    refine q_iconst (v := 1) (pc2 := 390) C dL_law_389 (by decide) rfl ?_
    refine q_iadd (v := nI (4 * i + 1)) (pc2 := 391) C dL_law_390 (nI_add (4 * i) 1) rfl ?_
    refine q_sld (pc2 := 392) C hX hbl hbA (4 * i + 1) rfl (by omega) (by omega) dL_law_391 rfl ?_
    refine q_LM (pc2 := 395) (As := [.int (xs (4 * i + 1))]) (st := []) (st2 := [.int (b2 (y 7 (xs (4 * i + 1)).toNatClampNeg ≠ -1))]) (y' := set2 (set2 y 27 (fun _ => T1 (inR (xs (4 * i + 1)) 0 (y 4 0 - 1)))) 7 (upd (y 7) (xs (4 * i + 1)).toNatClampNeg (-1))) C MM (cwV 1 C.w gL_law_X4_down rfl rfl rfl (by decide +kernel) ⟨Nat.le_of_ble_eq_true rfl, Nat.le_of_ble_eq_true rfl⟩) dL_law_392 rfl rfl (Nat.le_of_ble_eq_true rfl) ⟨hc0, hs0⟩ rfl rfl ?_
    refine q_istore (lv' := [(6, .int (b2 (y 7 (xs (4 * i + 1)).toNatClampNeg ≠ -1))), (5, .int 0), (4, .int (nI (4 * i))), (3, .ref o), (2, .ref (b 30)), (1, .ref (a 30)), (0, .ref sb)]) (pc2 := 397) C dL_law_395 (by decide) rfl rfl ?_
    refine q_aload_n (pc2 := 398) C 4 dL_law_397 rfl rfl rfl ?_
    refine q_LM (pc2 := 401) (As := []) (st := []) (st2 := [.int ((set2 (set2 y 27 (fun _ => T1 (inR (xs (4 * i + 1)) 0 (y 4 0 - 1)))) 7 (upd (y 7) (xs (4 * i + 1)).toNatClampNeg (-1))) 27 0)]) (y' := set2 (set2 y 27 (fun _ => T1 (inR (xs (4 * i + 1)) 0 (y 4 0 - 1)))) 7 (upd (y 7) (xs (4 * i + 1)).toNatClampNeg (-1))) C (c_X4_thrown l D ct b (set2 (set2 y 27 (fun _ => T1 (inR (xs (4 * i + 1)) 0 (y 4 0 - 1)))) 7 (upd (y 7) (xs (4 * i + 1)).toNatClampNeg (-1)))) (cwV 0 C.w gL_law_X4_thrown rfl rfl rfl (by decide +kernel) ⟨Nat.le_of_ble_eq_true rfl, Nat.le_of_ble_eq_true rfl⟩) dL_law_398 rfl rfl (Nat.le_of_ble_eq_true rfl) ⟨hc0, hs0⟩ rfl rfl ?_
    refine q_iload (pc2 := 403) C 1 dL_law_401 rfl rfl ?_
    refine q_icmp_eq (tgt := 408) (pc2 := 406) C dL_law_403 (by decide) rfl (fun _ => ?_) (fun h9 => absurd (hA.trans hT) h9)
    refine q_iload (pc2 := 410) C 1 dL_law_408 rfl rfl ?_
    refine q_if_ne (tgt := 432) (pc2 := 413) C dL_law_410 (by decide) rfl (fun h9 => absurd rfl h9) (fun _ => ?_)
    refine q_aload_n (pc2 := 414) C 3 dL_law_413 rfl rfl rfl ?_
    refine q_iconst (v := 0) (pc2 := 415) C dL_law_414 (by decide) rfl ?_
    refine q_lald (pc2 := 416) C 0 (wL_g48 ct a b o (vp_updL g 0 ((if (b2 (x 9 (xs (4 * i + 1)).toNatClampNeg ≠ -1)) = 0 then (0 : Int64) else 1))) (set2 x 9 (upd (x 9) (xs (4 * i + 1)).toNatClampNeg (-1))) (set2 (set2 y 27 (fun _ => T1 (inR (xs (4 * i + 1)) 0 (y 4 0 - 1)))) 7 (upd (y 7) (xs (4 * i + 1)).toNatClampNeg (-1)))) rfl rfl (by decide) (by decide) dL_law_415 rfl ?_
    refine q_iload (pc2 := 418) C 0 dL_law_416 rfl rfl ?_
    refine q_if_eq (tgt := 425) (pc2 := 421) C dL_law_418 (by decide) rfl (fun hz => ?_) (fun hz => ?_)
    · skip
      refine q_lconst (v := 0) (pc2 := 426) C dL_law_425 (by decide) rfl ?_
      refine q_lcmp_eq (pc2 := 427) C ((if_pos rfl).trans (if_pos (hr.trans hz))) dL_law_426 rfl ?_
      refine q_if_eq (tgt := 432) (pc2 := 430) C dL_law_427 (by decide) rfl (fun _ => ?_) (fun h9 => absurd rfl h9)
      refine q_goto (pc2 := 1473) C dL_law_432 (by decide) ?_
      refine q_widen (Nat.le_add_right cells 1) (Nat.le_add_right slots 6) ?_
      refine q_lv (lv' := [(4, .int (nI (4 * i))), (3, .ref o), (2, .ref (b 30)), (1, .ref (a 30)), (0, .ref sb)]) [2, 3, 4, 5, 6] rfl ?_
      exact kk _ _ _ (RE.mono (by omega) hRE)
    · skip
      refine q_lconst (v := 1) (pc2 := 422) C dL_law_421 (by decide) rfl ?_
      refine q_goto (pc2 := 426) C dL_law_422 (by decide) ?_
      refine q_lcmp_eq (pc2 := 427) C ((if_pos rfl).trans (if_neg (fun z => hz (hr.symm.trans z)))) dL_law_426 rfl ?_
      refine q_if_eq (tgt := 432) (pc2 := 430) C dL_law_427 (by decide) rfl (fun _ => ?_) (fun h9 => absurd rfl h9)
      refine q_goto (pc2 := 1473) C dL_law_432 (by decide) ?_
      refine q_widen (Nat.le_add_right cells 1) (Nat.le_add_right slots 6) ?_
      refine q_lv (lv' := [(4, .int (nI (4 * i))), (3, .ref o), (2, .ref (b 30)), (1, .ref (a 30)), (0, .ref sb)]) [2, 3, 4, 5, 6] rfl ?_
      exact kk _ _ _ (RE.mono (by omega) hRE)
  · skip
    rw [hoc] at M
    rw [if_neg h0, if_neg h0] at MM
    refine q_aload_n (pc2 := 373) C 3 dL_law_372 rfl rfl rfl ?_
    refine q_aload_n (pc2 := 374) C 4 dL_law_373 rfl rfl rfl ?_
    refine q_iload (pc2 := 376) C 0 dL_law_374 rfl rfl ?_
    refine q_iconst (v := 1) (pc2 := 377) C dL_law_376 (by decide) rfl ?_
    refine q_iadd (v := nI (4 * i + 1)) (pc2 := 378) C dL_law_377 (nI_add (4 * i) 1) rfl ?_
    refine q_sld (pc2 := 379) C hX hbl hbA (4 * i + 1) rfl (by omega) (by omega) dL_law_378 rfl ?_
    refine q_aload_n (pc2 := 380) C 1 dL_law_379 rfl rfl rfl ?_
    refine q_LH (pc2 := 383) (As := [.ref (a 30), .int (xs (4 * i + 1)), .ref o]) (st := []) (st2 := [.int (hcod [eI] (some E))]) (g' := g) (x' := x) (c2 := (cells + 1)) (s2 := (slots + 6)) C M (vx_cwSW 3 C.w gL_law_L_down rfl rfl rfl (by decide +kernel) ⟨Nat.le_of_ble_eq_true rfl, Nat.le_of_ble_eq_true rfl⟩) dL_law_380 rfl rfl (Nat.le_of_ble_eq_true rfl) ⟨hc, hs⟩ rfl rfl rfl rfl ?_
    refine q_istore (lv' := [(5, .int (hcod [eI] (some E))), (4, .int (nI (4 * i))), (3, .ref o), (2, .ref (b 30)), (1, .ref (a 30)), (0, .ref sb)]) (pc2 := 385) C dL_law_383 (by decide) rfl rfl ?_
    refine q_aload_n (pc2 := 386) C 3 dL_law_385 rfl rfl rfl ?_
    refine q_aload_n (pc2 := 387) C 5 dL_law_386 rfl rfl rfl ?_
    refine q_iload (pc2 := 389) C 1 dL_law_387 rfl rfl ?_
    refine q_iconst (v := 1) (pc2 := 390) C dL_law_389 (by decide) rfl ?_
    refine q_iadd (v := nI (4 * i + 1)) (pc2 := 391) C dL_law_390 (nI_add (4 * i) 1) rfl ?_
    refine q_sld (pc2 := 392) C hX hbl hbA (4 * i + 1) rfl (by omega) (by omega) dL_law_391 rfl ?_
    refine q_LM (pc2 := 395) (As := [.int (xs (4 * i + 1))]) (st := []) (st2 := [.int 0]) (y' := set2 y 27 (fun _ => T1 (inR (xs (4 * i + 1)) 0 (y 4 0 - 1)))) C MM (cwV 1 C.w gL_law_X4_down rfl rfl rfl (by decide +kernel) ⟨Nat.le_of_ble_eq_true rfl, Nat.le_of_ble_eq_true rfl⟩) dL_law_392 rfl rfl (Nat.le_of_ble_eq_true rfl) ⟨hc, hs⟩ rfl rfl ?_
    refine q_istore (lv' := [(6, .int 0), (5, .int (hcod [eI] (some E))), (4, .int (nI (4 * i))), (3, .ref o), (2, .ref (b 30)), (1, .ref (a 30)), (0, .ref sb)]) (pc2 := 397) C dL_law_395 (by decide) rfl rfl ?_
    refine q_aload_n (pc2 := 398) C 4 dL_law_397 rfl rfl rfl ?_
    refine q_LM (pc2 := 401) (As := []) (st := []) (st2 := [.int ((set2 y 27 (fun _ => T1 (inR (xs (4 * i + 1)) 0 (y 4 0 - 1)))) 27 0)]) (y' := set2 y 27 (fun _ => T1 (inR (xs (4 * i + 1)) 0 (y 4 0 - 1)))) C (c_X4_thrown l D ct b (set2 y 27 (fun _ => T1 (inR (xs (4 * i + 1)) 0 (y 4 0 - 1))))) (cwV 0 C.w gL_law_X4_thrown rfl rfl rfl (by decide +kernel) ⟨Nat.le_of_ble_eq_true rfl, Nat.le_of_ble_eq_true rfl⟩) dL_law_398 rfl rfl (Nat.le_of_ble_eq_true rfl) ⟨hc, hs⟩ rfl rfl ?_
    refine q_iload (pc2 := 403) C 1 dL_law_401 rfl rfl ?_
    refine q_icmp_eq (tgt := 408) (pc2 := 406) C dL_law_403 (by decide) rfl (fun _ => ?_) (fun h9 => absurd (hB9.trans hT) h9)
    refine q_iload (pc2 := 410) C 1 dL_law_408 rfl rfl ?_
    refine q_if_ne (tgt := 432) (pc2 := 413) C dL_law_410 (by decide) rfl (fun _ => ?_) (fun h9 => absurd (hT.trans h9) h0)
    refine q_goto (pc2 := 1473) C dL_law_432 (by decide) ?_
    refine q_lv (lv' := [(4, .int (nI (4 * i))), (3, .ref o), (2, .ref (b 30)), (1, .ref (a 30)), (0, .ref sb)]) [2, 3, 4, 5, 6] rfl ?_
    exact kk g x _ (RE.mono (by omega) hRE)

set_option maxHeartbeats 4000000 in
set_option maxRecDepth 100000 in
theorem lc_gap (l : Launch) (hl : l.stackTraces = false) {p : Program} {e : Env} {s : State} {m : MethodId} {args : Array Value} {below : List Frame} {meth : Method} {c : Code} {D : va_G} {ct : Nat → ClassId} {A : Nat → Prop} {Q : State → Prop} (C : Cx p s m args c meth cL_law 7 (some .boolean) wsL_law RL D ct A) {sb L : Nat} {xs : Nat → Int32} (hX : va_X sb L xs s s.heap) (hbl : sb < s.heap.size) (hbA : ¬ A sb) (hL : L ≤ 2048) {a b : Nat → Nat} {o : Nat} {g : Nat → Int64} {x y : Nat → Nat → Int32} {N : Nat} (hN : N + 50 < 2 ^ 29) (hR : RE N x y) {i : Nat} (hi : 4 * i + 4 ≤ L) {cells slots : Nat} (hc : cells + 1 ≤ 1088) (hs : slots + 6 ≤ 8873)
    (kk : ∀ (g' : Nat → Int64) (x' y' : Nat → Nat → Int32), RE (N + 50) x' y' → Cf p l e room_1 s m args below meth c D A 7 (cells + 1) (slots + 6) Q 1473 [(4, .int (nI (4 * i))), (3, .ref o), (2, .ref (b 30)), (1, .ref (a 30)), (0, .ref sb)] [] (wL ct a b o g' x' y')) : Cf p l e room_1 s m args below meth c D A 7 cells slots Q 640 [(4, .int (nI (4 * i))), (3, .ref o), (2, .ref (b 30)), (1, .ref (a 30)), (0, .ref sb)] [] (wL ct a b o g x y) := by
  obtain ⟨n, h, q, bb, t, ht, r⟩ := hR
  have S := st_gap hN r ht (xs (4 * i + 1))
  obtain ⟨hn10, hlt, hq8, hbq, hn, hnM, hh, hhM, hq, hqM, hb, hbM, hti, hTM, e1, e2, e3, e5, e6, e7, e11, e17, e18, e19, e20, hbars, hlen, hkind, hlow, hhigh, hfst, hplc, hnam, hcur, hrul, hbeg⟩ := id r
  have hc0 : cells ≤ 1088 := Nat.le_trans (Nat.le_succ cells) hc
  have hs0 : slots ≤ 8873 := Nat.le_trans (Nat.le_add_right slots 6) hs
  have hfd := fdk r
  have hok : ∀ k, k < 10 → wOk y k := fun k hk => TM_ok hTM (by omega) k hk
  have hBM : ∀ s, s < 2 → 0 ≤ y 1 s := fun s hs => by obtain ⟨k, hk, e⟩ := hbars s hs; rw [e]; exact nI_pos' (by omega)
  have hB : ∀ s, s < 2 → 0 ≤ x 5 s := fun s hs => by rw [e5]; exact hBM s hs
  obtain ⟨kb, hkb4, hkb⟩ := hbars h hlt
  have hkbX : x 5 h = nI kb := by rw [e5]; exact hkb
  have M := c_L_gap l D ct a o g x (x) (xs (4 * i + 1)) (if (1 ≤ (xs (4 * i + 1)) ∧ (xs (4 * i + 1)) ≤ 100) then none else some eA) (StOk.mem S) (gapf (fun k => cntH x (nI k)) (xs (4 * i + 1))) (c_X3_gap l hl D ct a x  (xs (4 * i + 1)))
  have MM := c_X4_gap l D ct b y n hnM hn10 (xs (4 * i + 1))
  rcases S with ⟨hoc, hT, hr, hA, hRE⟩ | ⟨E, hE, hoc, hT, h0, hB9, hRE⟩
  · skip
    rw [hoc] at M
    rw [if_pos hT, if_pos hT] at MM
    refine q_aload_n (pc2 := 641) C 3 dL_law_640 rfl rfl rfl ?_
    refine q_aload_n (pc2 := 642) C 4 dL_law_641 rfl rfl rfl ?_
    refine q_iload (pc2 := 644) C 0 dL_law_642 rfl rfl ?_
    refine q_iconst (v := 1) (pc2 := 645) C dL_law_644 (by decide) rfl ?_
    refine q_iadd (v := nI (4 * i + 1)) (pc2 := 646) C dL_law_645 (nI_add (4 * i) 1) rfl ?_
    refine q_sld (pc2 := 647) C hX hbl hbA (4 * i + 1) rfl (by omega) (by omega) dL_law_646 rfl ?_
    refine q_aload_n (pc2 := 648) C 1 dL_law_647 rfl rfl rfl ?_
    refine q_LH (pc2 := 651) (As := [.ref (a 30), .int (xs (4 * i + 1)), .ref o]) (st := []) (st2 := [.int 0]) (g' := vp_updL g 0 ((gapf (fun k => cntH x (nI k)) (xs (4 * i + 1))).toInt64)) (x' := x) (c2 := cells) (s2 := slots) C M (vx_cwSW 3 C.w gL_law_L_gap rfl rfl rfl (by decide +kernel) ⟨Nat.le_of_ble_eq_true rfl, Nat.le_of_ble_eq_true rfl⟩) dL_law_648 rfl rfl (Nat.le_of_ble_eq_true rfl) ⟨hc0, hs0⟩ rfl rfl rfl rfl ?_
    refine q_istore (lv' := [(5, .int 0), (4, .int (nI (4 * i))), (3, .ref o), (2, .ref (b 30)), (1, .ref (a 30)), (0, .ref sb)]) (pc2 := 653) C dL_law_651 (by decide) rfl rfl ?_
    refine q_aload_n (pc2 := 654) C 3 dL_law_653 rfl rfl rfl ?_
    refine q_aload_n (pc2 := 655) C 5 dL_law_654 rfl rfl rfl ?_
    refine q_iload (pc2 := 657) C 1 dL_law_655 rfl rfl ?_
    refine q_iconst (v := 1) (pc2 := 658) C dL_law_657 (by decide) rfl ?_
    refine q_iadd (v := nI (4 * i + 1)) (pc2 := 659) C dL_law_658 (nI_add (4 * i) 1) rfl ?_
    refine q_sld (pc2 := 660) C hX hbl hbA (4 * i + 1) rfl (by omega) (by omega) dL_law_659 rfl ?_
    refine q_LM (pc2 := 663) (As := [.int (xs (4 * i + 1))]) (st := []) (st2 := [.int (gapf (fun k => atM (set2 y 27 (fun _ => T1 (inR (xs (4 * i + 1)) 1 100))) n (nI k)) (xs (4 * i + 1)))]) (y' := set2 y 27 (fun _ => T1 (inR (xs (4 * i + 1)) 1 100))) C MM (cwV 1 C.w gL_law_X4_gap rfl rfl rfl (by decide +kernel) ⟨Nat.le_of_ble_eq_true rfl, Nat.le_of_ble_eq_true rfl⟩) dL_law_660 rfl rfl (Nat.le_of_ble_eq_true rfl) ⟨hc0, hs0⟩ rfl rfl ?_
    refine q_istore (lv' := [(6, .int (gapf (fun k => atM (set2 y 27 (fun _ => T1 (inR (xs (4 * i + 1)) 1 100))) n (nI k)) (xs (4 * i + 1)))), (5, .int 0), (4, .int (nI (4 * i))), (3, .ref o), (2, .ref (b 30)), (1, .ref (a 30)), (0, .ref sb)]) (pc2 := 665) C dL_law_663 (by decide) rfl rfl ?_
    refine q_aload_n (pc2 := 666) C 4 dL_law_665 rfl rfl rfl ?_
    refine q_LM (pc2 := 669) (As := []) (st := []) (st2 := [.int ((set2 y 27 (fun _ => T1 (inR (xs (4 * i + 1)) 1 100))) 27 0)]) (y' := set2 y 27 (fun _ => T1 (inR (xs (4 * i + 1)) 1 100))) C (c_X4_thrown l D ct b (set2 y 27 (fun _ => T1 (inR (xs (4 * i + 1)) 1 100)))) (cwV 0 C.w gL_law_X4_thrown rfl rfl rfl (by decide +kernel) ⟨Nat.le_of_ble_eq_true rfl, Nat.le_of_ble_eq_true rfl⟩) dL_law_666 rfl rfl (Nat.le_of_ble_eq_true rfl) ⟨hc0, hs0⟩ rfl rfl ?_
    refine q_iload (pc2 := 671) C 1 dL_law_669 rfl rfl ?_
    refine q_icmp_eq (tgt := 676) (pc2 := 674) C dL_law_671 (by decide) rfl (fun _ => ?_) (fun h9 => absurd (hA.trans hT) h9)
    refine q_iload (pc2 := 678) C 1 dL_law_676 rfl rfl ?_
    refine q_if_ne (tgt := 693) (pc2 := 681) C dL_law_678 (by decide) rfl (fun h9 => absurd rfl h9) (fun _ => ?_)
    refine q_aload_n (pc2 := 682) C 3 dL_law_681 rfl rfl rfl ?_
    refine q_iconst (v := 0) (pc2 := 683) C dL_law_682 (by decide) rfl ?_
    refine q_lald (pc2 := 684) C 0 (wL_g48 ct a b o (vp_updL g 0 ((gapf (fun k => cntH x (nI k)) (xs (4 * i + 1))).toInt64)) (x) (set2 y 27 (fun _ => T1 (inR (xs (4 * i + 1)) 1 100)))) rfl rfl (by decide) (by decide) dL_law_683 rfl ?_
    refine q_iload (pc2 := 686) C 0 dL_law_684 rfl rfl ?_
    refine q_i2l (pc2 := 687) C dL_law_686 rfl rfl ?_
    refine q_lcmp_eq (pc2 := 688) C ((if_pos rfl).trans (congrArg Int32.toInt64 hr)) dL_law_687 rfl ?_
    refine q_if_eq (tgt := 693) (pc2 := 691) C dL_law_688 (by decide) rfl (fun _ => ?_) (fun h9 => absurd rfl h9)
    refine q_goto (pc2 := 1473) C dL_law_693 (by decide) ?_
    refine q_widen (Nat.le_add_right cells 1) (Nat.le_add_right slots 6) ?_
    refine q_lv (lv' := [(4, .int (nI (4 * i))), (3, .ref o), (2, .ref (b 30)), (1, .ref (a 30)), (0, .ref sb)]) [2, 3, 4, 5, 6] rfl ?_
    exact kk _ _ _ (RE.mono (by omega) hRE)
  · skip
    rw [hoc] at M
    rw [if_neg h0, if_neg h0] at MM
    refine q_aload_n (pc2 := 641) C 3 dL_law_640 rfl rfl rfl ?_
    refine q_aload_n (pc2 := 642) C 4 dL_law_641 rfl rfl rfl ?_
    refine q_iload (pc2 := 644) C 0 dL_law_642 rfl rfl ?_
    refine q_iconst (v := 1) (pc2 := 645) C dL_law_644 (by decide) rfl ?_
    refine q_iadd (v := nI (4 * i + 1)) (pc2 := 646) C dL_law_645 (nI_add (4 * i) 1) rfl ?_
    refine q_sld (pc2 := 647) C hX hbl hbA (4 * i + 1) rfl (by omega) (by omega) dL_law_646 rfl ?_
    refine q_aload_n (pc2 := 648) C 1 dL_law_647 rfl rfl rfl ?_
    refine q_LH (pc2 := 651) (As := [.ref (a 30), .int (xs (4 * i + 1)), .ref o]) (st := []) (st2 := [.int (hcod [eA] (some E))]) (g' := g) (x' := x) (c2 := (cells + 1)) (s2 := (slots + 6)) C M (vx_cwSW 3 C.w gL_law_L_gap rfl rfl rfl (by decide +kernel) ⟨Nat.le_of_ble_eq_true rfl, Nat.le_of_ble_eq_true rfl⟩) dL_law_648 rfl rfl (Nat.le_of_ble_eq_true rfl) ⟨hc, hs⟩ rfl rfl rfl rfl ?_
    refine q_istore (lv' := [(5, .int (hcod [eA] (some E))), (4, .int (nI (4 * i))), (3, .ref o), (2, .ref (b 30)), (1, .ref (a 30)), (0, .ref sb)]) (pc2 := 653) C dL_law_651 (by decide) rfl rfl ?_
    refine q_aload_n (pc2 := 654) C 3 dL_law_653 rfl rfl rfl ?_
    refine q_aload_n (pc2 := 655) C 5 dL_law_654 rfl rfl rfl ?_
    refine q_iload (pc2 := 657) C 1 dL_law_655 rfl rfl ?_
    refine q_iconst (v := 1) (pc2 := 658) C dL_law_657 (by decide) rfl ?_
    refine q_iadd (v := nI (4 * i + 1)) (pc2 := 659) C dL_law_658 (nI_add (4 * i) 1) rfl ?_
    refine q_sld (pc2 := 660) C hX hbl hbA (4 * i + 1) rfl (by omega) (by omega) dL_law_659 rfl ?_
    refine q_LM (pc2 := 663) (As := [.int (xs (4 * i + 1))]) (st := []) (st2 := [.int 0]) (y' := set2 y 27 (fun _ => T1 (inR (xs (4 * i + 1)) 1 100))) C MM (cwV 1 C.w gL_law_X4_gap rfl rfl rfl (by decide +kernel) ⟨Nat.le_of_ble_eq_true rfl, Nat.le_of_ble_eq_true rfl⟩) dL_law_660 rfl rfl (Nat.le_of_ble_eq_true rfl) ⟨hc, hs⟩ rfl rfl ?_
    refine q_istore (lv' := [(6, .int 0), (5, .int (hcod [eA] (some E))), (4, .int (nI (4 * i))), (3, .ref o), (2, .ref (b 30)), (1, .ref (a 30)), (0, .ref sb)]) (pc2 := 665) C dL_law_663 (by decide) rfl rfl ?_
    refine q_aload_n (pc2 := 666) C 4 dL_law_665 rfl rfl rfl ?_
    refine q_LM (pc2 := 669) (As := []) (st := []) (st2 := [.int ((set2 y 27 (fun _ => T1 (inR (xs (4 * i + 1)) 1 100))) 27 0)]) (y' := set2 y 27 (fun _ => T1 (inR (xs (4 * i + 1)) 1 100))) C (c_X4_thrown l D ct b (set2 y 27 (fun _ => T1 (inR (xs (4 * i + 1)) 1 100)))) (cwV 0 C.w gL_law_X4_thrown rfl rfl rfl (by decide +kernel) ⟨Nat.le_of_ble_eq_true rfl, Nat.le_of_ble_eq_true rfl⟩) dL_law_666 rfl rfl (Nat.le_of_ble_eq_true rfl) ⟨hc, hs⟩ rfl rfl ?_
    refine q_iload (pc2 := 671) C 1 dL_law_669 rfl rfl ?_
    refine q_icmp_eq (tgt := 676) (pc2 := 674) C dL_law_671 (by decide) rfl (fun _ => ?_) (fun h9 => absurd (hB9.trans hT) h9)
    refine q_iload (pc2 := 678) C 1 dL_law_676 rfl rfl ?_
    refine q_if_ne (tgt := 693) (pc2 := 681) C dL_law_678 (by decide) rfl (fun _ => ?_) (fun h9 => absurd (hT.trans h9) h0)
    refine q_goto (pc2 := 1473) C dL_law_693 (by decide) ?_
    refine q_lv (lv' := [(4, .int (nI (4 * i))), (3, .ref o), (2, .ref (b 30)), (1, .ref (a 30)), (0, .ref sb)]) [2, 3, 4, 5, 6] rfl ?_
    exact kk g x _ (RE.mono (by omega) hRE)

set_option maxHeartbeats 4000000 in
set_option maxRecDepth 100000 in
theorem lc_where (l : Launch) (hl : l.stackTraces = false) {p : Program} {e : Env} {s : State} {m : MethodId} {args : Array Value} {below : List Frame} {meth : Method} {c : Code} {D : va_G} {ct : Nat → ClassId} {A : Nat → Prop} {Q : State → Prop} (C : Cx p s m args c meth cL_law 7 (some .boolean) wsL_law RL D ct A) {sb L : Nat} {xs : Nat → Int32} (hX : va_X sb L xs s s.heap) (hbl : sb < s.heap.size) (hbA : ¬ A sb) (hL : L ≤ 2048) {a b : Nat → Nat} {o : Nat} {g : Nat → Int64} {x y : Nat → Nat → Int32} {N : Nat} (hN : N + 50 < 2 ^ 29) (hR : RE N x y) {i : Nat} (hi : 4 * i + 4 ≤ L) {cells slots : Nat} (hc : cells + 1 ≤ 1088) (hs : slots + 6 ≤ 8873)
    (kk : ∀ (g' : Nat → Int64) (x' y' : Nat → Nat → Int32), RE (N + 50) x' y' → Cf p l e room_1 s m args below meth c D A 7 (cells + 1) (slots + 6) Q 1473 [(4, .int (nI (4 * i))), (3, .ref o), (2, .ref (b 30)), (1, .ref (a 30)), (0, .ref sb)] [] (wL ct a b o g' x' y')) : Cf p l e room_1 s m args below meth c D A 7 cells slots Q 503 [(4, .int (nI (4 * i))), (3, .ref o), (2, .ref (b 30)), (1, .ref (a 30)), (0, .ref sb)] [] (wL ct a b o g x y) := by
  obtain ⟨n, h, q, bb, t, ht, r⟩ := hR
  have S := st_where hN r ht (xs (4 * i + 1))
  obtain ⟨hn10, hlt, hq8, hbq, hn, hnM, hh, hhM, hq, hqM, hb, hbM, hti, hTM, e1, e2, e3, e5, e6, e7, e11, e17, e18, e19, e20, hbars, hlen, hkind, hlow, hhigh, hfst, hplc, hnam, hcur, hrul, hbeg⟩ := id r
  have hc0 : cells ≤ 1088 := Nat.le_trans (Nat.le_succ cells) hc
  have hs0 : slots ≤ 8873 := Nat.le_trans (Nat.le_add_right slots 6) hs
  have hfd := fdk r
  have hok : ∀ k, k < 10 → wOk y k := fun k hk => TM_ok hTM (by omega) k hk
  have hBM : ∀ s, s < 2 → 0 ≤ y 1 s := fun s hs => by obtain ⟨k, hk, e⟩ := hbars s hs; rw [e]; exact nI_pos' (by omega)
  have hB : ∀ s, s < 2 → 0 ≤ x 5 s := fun s hs => by rw [e5]; exact hBM s hs
  obtain ⟨kb, hkb4, hkb⟩ := hbars h hlt
  have hkbX : x 5 h = nI kb := by rw [e5]; exact hkb
  have M := c_L_where l D ct a o g x (x) (xs (4 * i + 1)) (if (0 ≤ (xs (4 * i + 1)) ∧ (xs (4 * i + 1)) < x 0 0) then none else some eI) (StOk.mem S) (if x 9 (xs (4 * i + 1)).toNatClampNeg ≠ -1 then 1000 * x 9 (xs (4 * i + 1)).toNatClampNeg + x 11 (xs (4 * i + 1)).toNatClampNeg else -1) (c_X3_where l hl D ct a x n hn hn10 (xs (4 * i + 1)))
  have MM := c_X4_where l D ct b y n hnM hn10 (xs (4 * i + 1))
  rcases S with ⟨hoc, hT, hr, hA, hRE⟩ | ⟨E, hE, hoc, hT, h0, hB9, hRE⟩
  · skip
    rw [hoc] at M
    rw [if_pos hT, if_pos hT] at MM
    refine q_aload_n (pc2 := 504) C 3 dL_law_503 rfl rfl rfl ?_
    refine q_aload_n (pc2 := 505) C 4 dL_law_504 rfl rfl rfl ?_
    refine q_iload (pc2 := 507) C 0 dL_law_505 rfl rfl ?_
    refine q_iconst (v := 1) (pc2 := 508) C dL_law_507 (by decide) rfl ?_
    refine q_iadd (v := nI (4 * i + 1)) (pc2 := 509) C dL_law_508 (nI_add (4 * i) 1) rfl ?_
    refine q_sld (pc2 := 510) C hX hbl hbA (4 * i + 1) rfl (by omega) (by omega) dL_law_509 rfl ?_
    refine q_aload_n (pc2 := 511) C 1 dL_law_510 rfl rfl rfl ?_
    refine q_LH (pc2 := 514) (As := [.ref (a 30), .int (xs (4 * i + 1)), .ref o]) (st := []) (st2 := [.int 0]) (g' := vp_updL g 0 ((if x 9 (xs (4 * i + 1)).toNatClampNeg ≠ -1 then 1000 * x 9 (xs (4 * i + 1)).toNatClampNeg + x 11 (xs (4 * i + 1)).toNatClampNeg else -1).toInt64)) (x' := x) (c2 := cells) (s2 := slots) C M (vx_cwSW 3 C.w gL_law_L_where rfl rfl rfl (by decide +kernel) ⟨Nat.le_of_ble_eq_true rfl, Nat.le_of_ble_eq_true rfl⟩) dL_law_511 rfl rfl (Nat.le_of_ble_eq_true rfl) ⟨hc0, hs0⟩ rfl rfl rfl rfl ?_
    refine q_istore (lv' := [(5, .int 0), (4, .int (nI (4 * i))), (3, .ref o), (2, .ref (b 30)), (1, .ref (a 30)), (0, .ref sb)]) (pc2 := 516) C dL_law_514 (by decide) rfl rfl ?_
    refine q_aload_n (pc2 := 517) C 3 dL_law_516 rfl rfl rfl ?_
    refine q_aload_n (pc2 := 518) C 5 dL_law_517 rfl rfl rfl ?_
    refine q_iload (pc2 := 520) C 1 dL_law_518 rfl rfl ?_
    refine q_iconst (v := 1) (pc2 := 521) C dL_law_520 (by decide) rfl ?_
    refine q_iadd (v := nI (4 * i + 1)) (pc2 := 522) C dL_law_521 (nI_add (4 * i) 1) rfl ?_
    refine q_sld (pc2 := 523) C hX hbl hbA (4 * i + 1) rfl (by omega) (by omega) dL_law_522 rfl ?_
    refine q_LM (pc2 := 526) (As := [.int (xs (4 * i + 1))]) (st := []) (st2 := [.int (if y 7 (xs (4 * i + 1)).toNatClampNeg = -1 then -1 else 1000 * y 7 (xs (4 * i + 1)).toNatClampNeg + y 8 (xs (4 * i + 1)).toNatClampNeg)]) (y' := set2 y 27 (fun _ => T1 (inR (xs (4 * i + 1)) 0 (y 4 0 - 1)))) C MM (cwV 1 C.w gL_law_X4_where rfl rfl rfl (by decide +kernel) ⟨Nat.le_of_ble_eq_true rfl, Nat.le_of_ble_eq_true rfl⟩) dL_law_523 rfl rfl (Nat.le_of_ble_eq_true rfl) ⟨hc0, hs0⟩ rfl rfl ?_
    refine q_istore (lv' := [(6, .int (if y 7 (xs (4 * i + 1)).toNatClampNeg = -1 then -1 else 1000 * y 7 (xs (4 * i + 1)).toNatClampNeg + y 8 (xs (4 * i + 1)).toNatClampNeg)), (5, .int 0), (4, .int (nI (4 * i))), (3, .ref o), (2, .ref (b 30)), (1, .ref (a 30)), (0, .ref sb)]) (pc2 := 528) C dL_law_526 (by decide) rfl rfl ?_
    refine q_aload_n (pc2 := 529) C 4 dL_law_528 rfl rfl rfl ?_
    refine q_LM (pc2 := 532) (As := []) (st := []) (st2 := [.int ((set2 y 27 (fun _ => T1 (inR (xs (4 * i + 1)) 0 (y 4 0 - 1)))) 27 0)]) (y' := set2 y 27 (fun _ => T1 (inR (xs (4 * i + 1)) 0 (y 4 0 - 1)))) C (c_X4_thrown l D ct b (set2 y 27 (fun _ => T1 (inR (xs (4 * i + 1)) 0 (y 4 0 - 1))))) (cwV 0 C.w gL_law_X4_thrown rfl rfl rfl (by decide +kernel) ⟨Nat.le_of_ble_eq_true rfl, Nat.le_of_ble_eq_true rfl⟩) dL_law_529 rfl rfl (Nat.le_of_ble_eq_true rfl) ⟨hc0, hs0⟩ rfl rfl ?_
    refine q_iload (pc2 := 534) C 1 dL_law_532 rfl rfl ?_
    refine q_icmp_eq (tgt := 539) (pc2 := 537) C dL_law_534 (by decide) rfl (fun _ => ?_) (fun h9 => absurd (hA.trans hT) h9)
    refine q_iload (pc2 := 541) C 1 dL_law_539 rfl rfl ?_
    refine q_if_ne (tgt := 556) (pc2 := 544) C dL_law_541 (by decide) rfl (fun h9 => absurd rfl h9) (fun _ => ?_)
    refine q_aload_n (pc2 := 545) C 3 dL_law_544 rfl rfl rfl ?_
    refine q_iconst (v := 0) (pc2 := 546) C dL_law_545 (by decide) rfl ?_
    refine q_lald (pc2 := 547) C 0 (wL_g48 ct a b o (vp_updL g 0 ((if x 9 (xs (4 * i + 1)).toNatClampNeg ≠ -1 then 1000 * x 9 (xs (4 * i + 1)).toNatClampNeg + x 11 (xs (4 * i + 1)).toNatClampNeg else -1).toInt64)) (x) (set2 y 27 (fun _ => T1 (inR (xs (4 * i + 1)) 0 (y 4 0 - 1))))) rfl rfl (by decide) (by decide) dL_law_546 rfl ?_
    refine q_iload (pc2 := 549) C 0 dL_law_547 rfl rfl ?_
    refine q_i2l (pc2 := 550) C dL_law_549 rfl rfl ?_
    refine q_lcmp_eq (pc2 := 551) C ((if_pos rfl).trans (congrArg Int32.toInt64 hr)) dL_law_550 rfl ?_
    refine q_if_eq (tgt := 556) (pc2 := 554) C dL_law_551 (by decide) rfl (fun _ => ?_) (fun h9 => absurd rfl h9)
    refine q_goto (pc2 := 1473) C dL_law_556 (by decide) ?_
    refine q_widen (Nat.le_add_right cells 1) (Nat.le_add_right slots 6) ?_
    refine q_lv (lv' := [(4, .int (nI (4 * i))), (3, .ref o), (2, .ref (b 30)), (1, .ref (a 30)), (0, .ref sb)]) [2, 3, 4, 5, 6] rfl ?_
    exact kk _ _ _ (RE.mono (by omega) hRE)
  · skip
    rw [hoc] at M
    rw [if_neg h0, if_neg h0] at MM
    refine q_aload_n (pc2 := 504) C 3 dL_law_503 rfl rfl rfl ?_
    refine q_aload_n (pc2 := 505) C 4 dL_law_504 rfl rfl rfl ?_
    refine q_iload (pc2 := 507) C 0 dL_law_505 rfl rfl ?_
    refine q_iconst (v := 1) (pc2 := 508) C dL_law_507 (by decide) rfl ?_
    refine q_iadd (v := nI (4 * i + 1)) (pc2 := 509) C dL_law_508 (nI_add (4 * i) 1) rfl ?_
    refine q_sld (pc2 := 510) C hX hbl hbA (4 * i + 1) rfl (by omega) (by omega) dL_law_509 rfl ?_
    refine q_aload_n (pc2 := 511) C 1 dL_law_510 rfl rfl rfl ?_
    refine q_LH (pc2 := 514) (As := [.ref (a 30), .int (xs (4 * i + 1)), .ref o]) (st := []) (st2 := [.int (hcod [eI] (some E))]) (g' := g) (x' := x) (c2 := (cells + 1)) (s2 := (slots + 6)) C M (vx_cwSW 3 C.w gL_law_L_where rfl rfl rfl (by decide +kernel) ⟨Nat.le_of_ble_eq_true rfl, Nat.le_of_ble_eq_true rfl⟩) dL_law_511 rfl rfl (Nat.le_of_ble_eq_true rfl) ⟨hc, hs⟩ rfl rfl rfl rfl ?_
    refine q_istore (lv' := [(5, .int (hcod [eI] (some E))), (4, .int (nI (4 * i))), (3, .ref o), (2, .ref (b 30)), (1, .ref (a 30)), (0, .ref sb)]) (pc2 := 516) C dL_law_514 (by decide) rfl rfl ?_
    refine q_aload_n (pc2 := 517) C 3 dL_law_516 rfl rfl rfl ?_
    refine q_aload_n (pc2 := 518) C 5 dL_law_517 rfl rfl rfl ?_
    refine q_iload (pc2 := 520) C 1 dL_law_518 rfl rfl ?_
    refine q_iconst (v := 1) (pc2 := 521) C dL_law_520 (by decide) rfl ?_
    refine q_iadd (v := nI (4 * i + 1)) (pc2 := 522) C dL_law_521 (nI_add (4 * i) 1) rfl ?_
    refine q_sld (pc2 := 523) C hX hbl hbA (4 * i + 1) rfl (by omega) (by omega) dL_law_522 rfl ?_
    refine q_LM (pc2 := 526) (As := [.int (xs (4 * i + 1))]) (st := []) (st2 := [.int 0]) (y' := set2 y 27 (fun _ => T1 (inR (xs (4 * i + 1)) 0 (y 4 0 - 1)))) C MM (cwV 1 C.w gL_law_X4_where rfl rfl rfl (by decide +kernel) ⟨Nat.le_of_ble_eq_true rfl, Nat.le_of_ble_eq_true rfl⟩) dL_law_523 rfl rfl (Nat.le_of_ble_eq_true rfl) ⟨hc, hs⟩ rfl rfl ?_
    refine q_istore (lv' := [(6, .int 0), (5, .int (hcod [eI] (some E))), (4, .int (nI (4 * i))), (3, .ref o), (2, .ref (b 30)), (1, .ref (a 30)), (0, .ref sb)]) (pc2 := 528) C dL_law_526 (by decide) rfl rfl ?_
    refine q_aload_n (pc2 := 529) C 4 dL_law_528 rfl rfl rfl ?_
    refine q_LM (pc2 := 532) (As := []) (st := []) (st2 := [.int ((set2 y 27 (fun _ => T1 (inR (xs (4 * i + 1)) 0 (y 4 0 - 1)))) 27 0)]) (y' := set2 y 27 (fun _ => T1 (inR (xs (4 * i + 1)) 0 (y 4 0 - 1)))) C (c_X4_thrown l D ct b (set2 y 27 (fun _ => T1 (inR (xs (4 * i + 1)) 0 (y 4 0 - 1))))) (cwV 0 C.w gL_law_X4_thrown rfl rfl rfl (by decide +kernel) ⟨Nat.le_of_ble_eq_true rfl, Nat.le_of_ble_eq_true rfl⟩) dL_law_529 rfl rfl (Nat.le_of_ble_eq_true rfl) ⟨hc, hs⟩ rfl rfl ?_
    refine q_iload (pc2 := 534) C 1 dL_law_532 rfl rfl ?_
    refine q_icmp_eq (tgt := 539) (pc2 := 537) C dL_law_534 (by decide) rfl (fun _ => ?_) (fun h9 => absurd (hB9.trans hT) h9)
    refine q_iload (pc2 := 541) C 1 dL_law_539 rfl rfl ?_
    refine q_if_ne (tgt := 556) (pc2 := 544) C dL_law_541 (by decide) rfl (fun _ => ?_) (fun h9 => absurd (hT.trans h9) h0)
    refine q_goto (pc2 := 1473) C dL_law_556 (by decide) ?_
    refine q_lv (lv' := [(4, .int (nI (4 * i))), (3, .ref o), (2, .ref (b 30)), (1, .ref (a 30)), (0, .ref sb)]) [2, 3, 4, 5, 6] rfl ?_
    exact kk g x _ (RE.mono (by omega) hRE)

set_option maxHeartbeats 4000000 in
set_option maxRecDepth 100000 in
theorem lc_level (l : Launch) (hl : l.stackTraces = false) {p : Program} {e : Env} {s : State} {m : MethodId} {args : Array Value} {below : List Frame} {meth : Method} {c : Code} {D : va_G} {ct : Nat → ClassId} {A : Nat → Prop} {Q : State → Prop} (C : Cx p s m args c meth cL_law 7 (some .boolean) wsL_law RL D ct A) {sb L : Nat} {xs : Nat → Int32} (hX : va_X sb L xs s s.heap) (hbl : sb < s.heap.size) (hbA : ¬ A sb) (hL : L ≤ 2048) {a b : Nat → Nat} {o : Nat} {g : Nat → Int64} {x y : Nat → Nat → Int32} {N : Nat} (hN : N + 50 < 2 ^ 29) (hR : RE N x y) {i : Nat} (hi : 4 * i + 4 ≤ L) {cells slots : Nat} (hc : cells + 1 ≤ 1088) (hs : slots + 6 ≤ 8873)
    (kk : ∀ (g' : Nat → Int64) (x' y' : Nat → Nat → Int32), RE (N + 50) x' y' → Cf p l e room_1 s m args below meth c D A 7 (cells + 1) (slots + 6) Q 1473 [(4, .int (nI (4 * i))), (3, .ref o), (2, .ref (b 30)), (1, .ref (a 30)), (0, .ref sb)] [] (wL ct a b o g' x' y')) : Cf p l e room_1 s m args below meth c D A 7 cells slots Q 1093 [(4, .int (nI (4 * i))), (3, .ref o), (2, .ref (b 30)), (1, .ref (a 30)), (0, .ref sb)] [] (wL ct a b o g x y) := by
  obtain ⟨n, h, q, bb, t, ht, r⟩ := hR
  have S := st_level hN r ht (xs (4 * i + 1))
  obtain ⟨hn10, hlt, hq8, hbq, hn, hnM, hh, hhM, hq, hqM, hb, hbM, hti, hTM, e1, e2, e3, e5, e6, e7, e11, e17, e18, e19, e20, hbars, hlen, hkind, hlow, hhigh, hfst, hplc, hnam, hcur, hrul, hbeg⟩ := id r
  have hc0 : cells ≤ 1088 := Nat.le_trans (Nat.le_succ cells) hc
  have hs0 : slots ≤ 8873 := Nat.le_trans (Nat.le_add_right slots 6) hs
  have hfd := fdk r
  have hok : ∀ k, k < 10 → wOk y k := fun k hk => TM_ok hTM (by omega) k hk
  have hBM : ∀ s, s < 2 → 0 ≤ y 1 s := fun s hs => by obtain ⟨k, hk, e⟩ := hbars s hs; rw [e]; exact nI_pos' (by omega)
  have hB : ∀ s, s < 2 → 0 ≤ x 5 s := fun s hs => by rw [e5]; exact hBM s hs
  obtain ⟨kb, hkb4, hkb⟩ := hbars h hlt
  have hkbX : x 5 h = nI kb := by rw [e5]; exact hkb
  have M := c_L_level l D ct a o g x (x) (xs (4 * i + 1)) (if (0 ≤ (xs (4 * i + 1)) ∧ (xs (4 * i + 1)) < x 0 0) then none else some eI) (StOk.mem S) (shX x (xs (4 * i + 1)).toNatClampNeg) (c_X3_level l hl D ct a x n hn hn10 q hq hq8 hfd (xs (4 * i + 1)))
  have MM := c_X4_level l D ct b y n hnM hn10 hok (xs (4 * i + 1))
  rcases S with ⟨hoc, hT, hr, hA, hRE⟩ | ⟨E, hE, hoc, hT, h0, hB9, hRE⟩
  · skip
    rw [hoc] at M
    rw [if_pos hT, if_pos hT] at MM
    refine q_aload_n (pc2 := 1094) C 3 dL_law_1093 rfl rfl rfl ?_
    refine q_aload_n (pc2 := 1095) C 4 dL_law_1094 rfl rfl rfl ?_
    refine q_iload (pc2 := 1097) C 0 dL_law_1095 rfl rfl ?_
    refine q_iconst (v := 1) (pc2 := 1098) C dL_law_1097 (by decide) rfl ?_
    refine q_iadd (v := nI (4 * i + 1)) (pc2 := 1099) C dL_law_1098 (nI_add (4 * i) 1) rfl ?_
    refine q_sld (pc2 := 1100) C hX hbl hbA (4 * i + 1) rfl (by omega) (by omega) dL_law_1099 rfl ?_
    refine q_aload_n (pc2 := 1101) C 1 dL_law_1100 rfl rfl rfl ?_
    refine q_LH (pc2 := 1104) (As := [.ref (a 30), .int (xs (4 * i + 1)), .ref o]) (st := []) (st2 := [.int 0]) (g' := vp_updL g 0 ((shX x (xs (4 * i + 1)).toNatClampNeg).toInt64)) (x' := x) (c2 := cells) (s2 := slots) C M (vx_cwSW 3 C.w gL_law_L_level rfl rfl rfl (by decide +kernel) ⟨Nat.le_of_ble_eq_true rfl, Nat.le_of_ble_eq_true rfl⟩) dL_law_1101 rfl rfl (Nat.le_of_ble_eq_true rfl) ⟨hc0, hs0⟩ rfl rfl rfl rfl ?_
    refine q_istore (lv' := [(5, .int 0), (4, .int (nI (4 * i))), (3, .ref o), (2, .ref (b 30)), (1, .ref (a 30)), (0, .ref sb)]) (pc2 := 1106) C dL_law_1104 (by decide) rfl rfl ?_
    refine q_aload_n (pc2 := 1107) C 3 dL_law_1106 rfl rfl rfl ?_
    refine q_aload_n (pc2 := 1108) C 5 dL_law_1107 rfl rfl rfl ?_
    refine q_iload (pc2 := 1110) C 1 dL_law_1108 rfl rfl ?_
    refine q_iconst (v := 1) (pc2 := 1111) C dL_law_1110 (by decide) rfl ?_
    refine q_iadd (v := nI (4 * i + 1)) (pc2 := 1112) C dL_law_1111 (nI_add (4 * i) 1) rfl ?_
    refine q_sld (pc2 := 1113) C hX hbl hbA (4 * i + 1) rfl (by omega) (by omega) dL_law_1112 rfl ?_
    refine q_LM (pc2 := 1116) (As := [.int (xs (4 * i + 1))]) (st := []) (st2 := [.int (lvM y (xs (4 * i + 1)).toNatClampNeg)]) (y' := set2 y 27 (fun _ => T1 (inR (xs (4 * i + 1)) 0 (y 4 0 - 1)))) C MM (cwV 1 C.w gL_law_X4_level rfl rfl rfl (by decide +kernel) ⟨Nat.le_of_ble_eq_true rfl, Nat.le_of_ble_eq_true rfl⟩) dL_law_1113 rfl rfl (Nat.le_of_ble_eq_true rfl) ⟨hc0, hs0⟩ rfl rfl ?_
    refine q_istore (lv' := [(6, .int (lvM y (xs (4 * i + 1)).toNatClampNeg)), (5, .int 0), (4, .int (nI (4 * i))), (3, .ref o), (2, .ref (b 30)), (1, .ref (a 30)), (0, .ref sb)]) (pc2 := 1118) C dL_law_1116 (by decide) rfl rfl ?_
    refine q_aload_n (pc2 := 1119) C 4 dL_law_1118 rfl rfl rfl ?_
    refine q_LM (pc2 := 1122) (As := []) (st := []) (st2 := [.int ((set2 y 27 (fun _ => T1 (inR (xs (4 * i + 1)) 0 (y 4 0 - 1)))) 27 0)]) (y' := set2 y 27 (fun _ => T1 (inR (xs (4 * i + 1)) 0 (y 4 0 - 1)))) C (c_X4_thrown l D ct b (set2 y 27 (fun _ => T1 (inR (xs (4 * i + 1)) 0 (y 4 0 - 1))))) (cwV 0 C.w gL_law_X4_thrown rfl rfl rfl (by decide +kernel) ⟨Nat.le_of_ble_eq_true rfl, Nat.le_of_ble_eq_true rfl⟩) dL_law_1119 rfl rfl (Nat.le_of_ble_eq_true rfl) ⟨hc0, hs0⟩ rfl rfl ?_
    refine q_iload (pc2 := 1124) C 1 dL_law_1122 rfl rfl ?_
    refine q_icmp_eq (tgt := 1129) (pc2 := 1127) C dL_law_1124 (by decide) rfl (fun _ => ?_) (fun h9 => absurd (hA.trans hT) h9)
    refine q_iload (pc2 := 1131) C 1 dL_law_1129 rfl rfl ?_
    refine q_if_ne (tgt := 1146) (pc2 := 1134) C dL_law_1131 (by decide) rfl (fun h9 => absurd rfl h9) (fun _ => ?_)
    refine q_aload_n (pc2 := 1135) C 3 dL_law_1134 rfl rfl rfl ?_
    refine q_iconst (v := 0) (pc2 := 1136) C dL_law_1135 (by decide) rfl ?_
    refine q_lald (pc2 := 1137) C 0 (wL_g48 ct a b o (vp_updL g 0 ((shX x (xs (4 * i + 1)).toNatClampNeg).toInt64)) (x) (set2 y 27 (fun _ => T1 (inR (xs (4 * i + 1)) 0 (y 4 0 - 1))))) rfl rfl (by decide) (by decide) dL_law_1136 rfl ?_
    refine q_iload (pc2 := 1139) C 0 dL_law_1137 rfl rfl ?_
    refine q_i2l (pc2 := 1140) C dL_law_1139 rfl rfl ?_
    refine q_lcmp_eq (pc2 := 1141) C ((if_pos rfl).trans (congrArg Int32.toInt64 hr)) dL_law_1140 rfl ?_
    refine q_if_eq (tgt := 1146) (pc2 := 1144) C dL_law_1141 (by decide) rfl (fun _ => ?_) (fun h9 => absurd rfl h9)
    refine q_goto (pc2 := 1473) C dL_law_1146 (by decide) ?_
    refine q_widen (Nat.le_add_right cells 1) (Nat.le_add_right slots 6) ?_
    refine q_lv (lv' := [(4, .int (nI (4 * i))), (3, .ref o), (2, .ref (b 30)), (1, .ref (a 30)), (0, .ref sb)]) [2, 3, 4, 5, 6] rfl ?_
    exact kk _ _ _ (RE.mono (by omega) hRE)
  · skip
    rw [hoc] at M
    rw [if_neg h0, if_neg h0] at MM
    refine q_aload_n (pc2 := 1094) C 3 dL_law_1093 rfl rfl rfl ?_
    refine q_aload_n (pc2 := 1095) C 4 dL_law_1094 rfl rfl rfl ?_
    refine q_iload (pc2 := 1097) C 0 dL_law_1095 rfl rfl ?_
    refine q_iconst (v := 1) (pc2 := 1098) C dL_law_1097 (by decide) rfl ?_
    refine q_iadd (v := nI (4 * i + 1)) (pc2 := 1099) C dL_law_1098 (nI_add (4 * i) 1) rfl ?_
    refine q_sld (pc2 := 1100) C hX hbl hbA (4 * i + 1) rfl (by omega) (by omega) dL_law_1099 rfl ?_
    refine q_aload_n (pc2 := 1101) C 1 dL_law_1100 rfl rfl rfl ?_
    refine q_LH (pc2 := 1104) (As := [.ref (a 30), .int (xs (4 * i + 1)), .ref o]) (st := []) (st2 := [.int (hcod [eI] (some E))]) (g' := g) (x' := x) (c2 := (cells + 1)) (s2 := (slots + 6)) C M (vx_cwSW 3 C.w gL_law_L_level rfl rfl rfl (by decide +kernel) ⟨Nat.le_of_ble_eq_true rfl, Nat.le_of_ble_eq_true rfl⟩) dL_law_1101 rfl rfl (Nat.le_of_ble_eq_true rfl) ⟨hc, hs⟩ rfl rfl rfl rfl ?_
    refine q_istore (lv' := [(5, .int (hcod [eI] (some E))), (4, .int (nI (4 * i))), (3, .ref o), (2, .ref (b 30)), (1, .ref (a 30)), (0, .ref sb)]) (pc2 := 1106) C dL_law_1104 (by decide) rfl rfl ?_
    refine q_aload_n (pc2 := 1107) C 3 dL_law_1106 rfl rfl rfl ?_
    refine q_aload_n (pc2 := 1108) C 5 dL_law_1107 rfl rfl rfl ?_
    refine q_iload (pc2 := 1110) C 1 dL_law_1108 rfl rfl ?_
    refine q_iconst (v := 1) (pc2 := 1111) C dL_law_1110 (by decide) rfl ?_
    refine q_iadd (v := nI (4 * i + 1)) (pc2 := 1112) C dL_law_1111 (nI_add (4 * i) 1) rfl ?_
    refine q_sld (pc2 := 1113) C hX hbl hbA (4 * i + 1) rfl (by omega) (by omega) dL_law_1112 rfl ?_
    refine q_LM (pc2 := 1116) (As := [.int (xs (4 * i + 1))]) (st := []) (st2 := [.int 0]) (y' := set2 y 27 (fun _ => T1 (inR (xs (4 * i + 1)) 0 (y 4 0 - 1)))) C MM (cwV 1 C.w gL_law_X4_level rfl rfl rfl (by decide +kernel) ⟨Nat.le_of_ble_eq_true rfl, Nat.le_of_ble_eq_true rfl⟩) dL_law_1113 rfl rfl (Nat.le_of_ble_eq_true rfl) ⟨hc, hs⟩ rfl rfl ?_
    refine q_istore (lv' := [(6, .int 0), (5, .int (hcod [eI] (some E))), (4, .int (nI (4 * i))), (3, .ref o), (2, .ref (b 30)), (1, .ref (a 30)), (0, .ref sb)]) (pc2 := 1118) C dL_law_1116 (by decide) rfl rfl ?_
    refine q_aload_n (pc2 := 1119) C 4 dL_law_1118 rfl rfl rfl ?_
    refine q_LM (pc2 := 1122) (As := []) (st := []) (st2 := [.int ((set2 y 27 (fun _ => T1 (inR (xs (4 * i + 1)) 0 (y 4 0 - 1)))) 27 0)]) (y' := set2 y 27 (fun _ => T1 (inR (xs (4 * i + 1)) 0 (y 4 0 - 1)))) C (c_X4_thrown l D ct b (set2 y 27 (fun _ => T1 (inR (xs (4 * i + 1)) 0 (y 4 0 - 1))))) (cwV 0 C.w gL_law_X4_thrown rfl rfl rfl (by decide +kernel) ⟨Nat.le_of_ble_eq_true rfl, Nat.le_of_ble_eq_true rfl⟩) dL_law_1119 rfl rfl (Nat.le_of_ble_eq_true rfl) ⟨hc, hs⟩ rfl rfl ?_
    refine q_iload (pc2 := 1124) C 1 dL_law_1122 rfl rfl ?_
    refine q_icmp_eq (tgt := 1129) (pc2 := 1127) C dL_law_1124 (by decide) rfl (fun _ => ?_) (fun h9 => absurd (hB9.trans hT) h9)
    refine q_iload (pc2 := 1131) C 1 dL_law_1129 rfl rfl ?_
    refine q_if_ne (tgt := 1146) (pc2 := 1134) C dL_law_1131 (by decide) rfl (fun _ => ?_) (fun h9 => absurd (hT.trans h9) h0)
    refine q_goto (pc2 := 1473) C dL_law_1146 (by decide) ?_
    refine q_lv (lv' := [(4, .int (nI (4 * i))), (3, .ref o), (2, .ref (b 30)), (1, .ref (a 30)), (0, .ref sb)]) [2, 3, 4, 5, 6] rfl ?_
    exact kk g x _ (RE.mono (by omega) hRE)
