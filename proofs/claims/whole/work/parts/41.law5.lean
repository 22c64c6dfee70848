/-! the law's cases -/
theorem StOk.mem {L : List String} {N : Nat} {oc : Option String} {rX : Int32} {x x' : Nat → Nat → Int32} {T rM : Int32} {A B : Nat → Nat → Int32} (h : StOk L N oc rX x x' T rM A B) : ∀ E, oc = some E → E ∈ L := fun E e => by
  rcases h with ⟨h1, -⟩ | ⟨E', h1, h2, -⟩
  · rw [h1] at e; cases e
  · rw [h2] at e; cases e; exact h1
set_option maxHeartbeats 4000000 in
set_option maxRecDepth 100000 in
theorem lc_down (l : Launch) (hl : l.stackTraces = false) {p : Program} {e : Env} {s : State} {m : MethodId} {args : Array Value} {below : List Frame} {meth : Method} {c : Code} {D : va_G} {ct : Nat → ClassId} {A : Nat → Prop} {Q : State → Prop} (C : Cx p s m args c meth cL_law 7 (some .boolean) wsL_law RL D ct A) {sb L : Nat} {xs : Nat → Int32} (hX : va_X sb L xs s s.heap) (hbl : sb < s.heap.size) (hbA : ¬ A sb) (hL : L ≤ 2048) {a b : Nat → Nat} {o : Nat} {g : Nat → Int64} {x y : Nat → Nat → Int32} {N : Nat} (hN : N + 50 < 2 ^ 29) (hR : RE N x y) {i : Nat} (hi : 4 * i + 4 ≤ L) {cells slots : Nat} (hc : cells + 1 ≤ 1088) (hs : slots + 6 ≤ 8873)
    (kk : ∀ (g' : Nat → Int64) (x' y' : Nat → Nat → Int32), RE (N + 50) x' y' → Cf p l e room_1 s m args below meth c D A 7 (cells + 1) (slots + 6) Q 1473 [(4, .int (nI (4 * i))), (3, .ref o), (2, .ref (b 30)), (1, .ref (a 30)), (0, .ref sb)] [] (wL ct a b o g' x' y')) : Cf p l e room_1 s m args below meth c D A 7 cells slots Q 372 [(4, .int (nI (4 * i))), (3, .ref o), (2, .ref (b 30)), (1, .ref (a 30)), (0, .ref sb)] [] (wL ct a b o g x y) := by
  obtain ⟨n, h, q, bb, t, ht, r⟩ := hR
  have S := st_down hN r ht (xs (4 * i + 1))
  obtain ⟨hn10, hlt, hq8, hbq, hn, hnM, hh, hhM, hq, hqM, hb, hbM, hti, hTM, e1, e2, e3, e5, e6, e7, e11, e17, e18, e19, e20, hbars, hlen, hkind, hlow, hhigh, hfst, hplc, hnam, hcur, hrul, hbeg⟩ := id r
  have hfd := fdk r
  have hok : ∀ k, k < 10 → wOk y k := fun k hk => TM_ok hTM (by omega) k hk
  have hBM : ∀ s, s < 2 → 0 ≤ y 1 s := fun s hs => by obtain ⟨k, hk, e⟩ := hbars s hs; rw [e]; exact nI_pos' (by omega)
  have hB : ∀ s, s < 2 → 0 ≤ x 5 s := fun s hs => by rw [e5]; exact hBM s hs
  obtain ⟨kb, hkb4, hkb⟩ := hbars h hlt
  have hkbX : x 5 h = nI kb := by rw [e5]; exact hkb
  have M := c_L_down l D ct a o g x (set2 x 9 (upd (x 9) (xs (4 * i + 1)).toNatClampNeg (-1))) (xs (4 * i + 1)) (if (0 ≤ (xs (4 * i + 1)) ∧ (xs (4 * i + 1)) < x 0 0) then none else some eI) (StOk.mem S) (b2 (x 9 (xs (4 * i + 1)).toNatClampNeg ≠ -1)) (c_X3_down l hl D ct a x n hn hn10 (xs (4 * i + 1)))
  have MM := c_X4_down l D ct b y n hnM hn10 (xs (4 * i + 1))
  rcases S with ⟨hoc, hT, hr, hA, hRE⟩ | ⟨E, hE, hoc, hT, h0, hB9, hRE⟩
  · skip
    rw [hoc] at M
    rw [if_pos hT, if_pos hT] at MM
    refine q_aload_n (pc2 := 373) C 3 dL_law_372 rfl rfl rfl ?_
    refine q_aload_n (pc2 := 374) C 4 dL_law_373 rfl rfl rfl ?_
    refine q_iload (pc2 := 376) C 0 dL_law_374 rfl rfl ?_
    refine q_iconst (v := 1) (pc2 := 377) C dL_law_376 (by decide) rfl ?_
    refine q_iadd (v := nI (4 * i + 1)) (pc2 := 378) C dL_law_377 (nI_add (4 * i) 1) rfl ?_
    refine q_sld (pc2 := 379) C hX hbl hbA (4 * i + 1) rfl (by omega) (by omega) dL_law_378 rfl ?_
    refine q_aload_n (pc2 := 380) C 1 dL_law_379 rfl rfl rfl ?_
    refine q_xH (pc2 := 383) (As := [.ref (a 30), .int (xs (4 * i + 1)), .ref o]) (st := []) (st2 := [.int 0]) (w2 := wL ct a b o (vp_updL g 0 ((if (b2 (x 9 (xs (4 * i + 1)).toNatClampNeg ≠ -1)) = 0 then (0 : Int64) else 1))) (set2 x 9 (upd (x 9) (xs (4 * i + 1)).toNatClampNeg (-1))) y) (c2 := cells) (s2 := slots) C M (vx_cwSW 3 C.w gL_law_L_down rfl rfl rfl (by decide +kernel) ⟨Nat.le_of_ble_eq_true rfl, Nat.le_of_ble_eq_true rfl⟩) [0, 1, 2, 3, 4, 5, 6, 7, 8, 9, 10, 11, 12, 13, 14, 15, 16, 17, 18, 19, 20, 21, 22, 23, 24, 25, 48] [26, 27, 28, 29, 30, 31, 32, 33, 34, 35, 36, 37, 38, 39, 40, 41, 42, 43, 44, 45, 46, 47] [22, 23, 24, 25, 26, 27, 28, 29, 30, 31, 32, 33, 34, 35, 36, 37, 38, 39, 40, 41, 42, 43, 44, 45, 46, 47, 0, 1, 2, 3, 4, 5, 6, 7, 8, 9, 10, 11, 12, 13, 14, 15, 16, 17, 18, 19, 20, 21, 48] (wL_CH ct a b o g x y) (wL_RH ct a b o g x y) (by decide) (by decide) (by decide) (wL_2H ct a b o g x y (vp_updL g 0 ((if (b2 (x 9 (xs (4 * i + 1)).toNatClampNeg ≠ -1)) = 0 then (0 : Int64) else 1))) (set2 x 9 (upd (x 9) (xs (4 * i + 1)).toNatClampNeg (-1)))) (by decide) dL_law_380 rfl rfl (Nat.le_of_ble_eq_true rfl) ⟨by show cells + 0 ≤ 1088; omega, by show slots + 0 ≤ 8873; omega⟩ rfl rfl rfl rfl ?_
    refine q_istore (lv' := [(5, .int 0), (4, .int (nI (4 * i))), (3, .ref o), (2, .ref (b 30)), (1, .ref (a 30)), (0, .ref sb)]) (pc2 := 385) C dL_law_383 (by decide) rfl rfl ?_
    refine q_aload_n (pc2 := 386) C 3 dL_law_385 rfl rfl rfl ?_
    refine q_aload_n (pc2 := 387) C 5 dL_law_386 rfl rfl rfl ?_
    refine q_iload (pc2 := 389) C 1 dL_law_387 rfl rfl ?_
    refine q_iconst (v := 1) (pc2 := 390) C dL_law_389 (by decide) rfl ?_
    refine q_iadd (v := nI (4 * i + 1)) (pc2 := 391) C dL_law_390 (nI_add (4 * i) 1) rfl ?_
    refine q_sld (pc2 := 392) C hX hbl hbA (4 * i + 1) rfl (by omega) (by omega) dL_law_391 rfl ?_
    refine q_cV (pc2 := 395) (As := [.int (xs (4 * i + 1))]) (b := b 30) (q0 := 0) (st := []) (st2 := [.int (b2 (y 7 (xs (4 * i + 1)).toNatClampNeg ≠ -1))]) (w2 := wL ct a b o (vp_updL g 0 ((if (b2 (x 9 (xs (4 * i + 1)).toNatClampNeg ≠ -1)) = 0 then (0 : Int64) else 1))) (set2 x 9 (upd (x 9) (xs (4 * i + 1)).toNatClampNeg (-1))) (set2 (set2 y 27 (fun _ => T1 (inR (xs (4 * i + 1)) 0 (y 4 0 - 1)))) 7 (upd (y 7) (xs (4 * i + 1)).toNatClampNeg (-1)))) (c2 := cells) (s2 := slots) C MM (cwV 1 C.w gL_law_X4_down rfl rfl rfl (by decide +kernel) ⟨Nat.le_of_ble_eq_true rfl, Nat.le_of_ble_eq_true rfl⟩) (wM_g0 ct b y) rfl [26, 27, 28, 29, 30, 31, 32, 33, 34, 35, 36, 37, 38, 39, 40, 41, 42, 43, 44, 45, 46, 47] [0, 1, 2, 3, 4, 5, 6, 7, 8, 9, 10, 11, 12, 13, 14, 15, 16, 17, 18, 19, 20, 21, 22, 23, 24, 25, 48] [0, 1, 2, 3, 4, 5, 6, 7, 8, 9, 10, 11, 12, 13, 14, 15, 16, 17, 18, 19, 20, 21, 22, 23, 24, 25, 27, 28, 29, 30, 31, 32, 33, 34, 35, 36, 37, 38, 39, 40, 41, 42, 43, 44, 45, 46, 47, 48, 26] (wL_CM ct a b o (vp_updL g 0 ((if (b2 (x 9 (xs (4 * i + 1)).toNatClampNeg ≠ -1)) = 0 then (0 : Int64) else 1))) (set2 x 9 (upd (x 9) (xs (4 * i + 1)).toNatClampNeg (-1))) y) (wL_RM ct a b o (vp_updL g 0 ((if (b2 (x 9 (xs (4 * i + 1)).toNatClampNeg ≠ -1)) = 0 then (0 : Int64) else 1))) (set2 x 9 (upd (x 9) (xs (4 * i + 1)).toNatClampNeg (-1))) y) (by decide) (by decide) (by decide) (wL_2M ct a b o (vp_updL g 0 ((if (b2 (x 9 (xs (4 * i + 1)).toNatClampNeg ≠ -1)) = 0 then (0 : Int64) else 1))) (set2 x 9 (upd (x 9) (xs (4 * i + 1)).toNatClampNeg (-1))) y (set2 (set2 y 27 (fun _ => T1 (inR (xs (4 * i + 1)) 0 (y 4 0 - 1)))) 7 (upd (y 7) (xs (4 * i + 1)).toNatClampNeg (-1)))) (by decide) dL_law_392 rfl rfl (Nat.le_of_ble_eq_true rfl) ⟨by show cells + 0 ≤ 1088; omega, by show slots + 0 ≤ 8873; omega⟩ rfl rfl rfl rfl ?_
    refine q_istore (lv' := [(6, .int (b2 (y 7 (xs (4 * i + 1)).toNatClampNeg ≠ -1))), (5, .int 0), (4, .int (nI (4 * i))), (3, .ref o), (2, .ref (b 30)), (1, .ref (a 30)), (0, .ref sb)]) (pc2 := 397) C dL_law_395 (by decide) rfl rfl ?_
    refine q_aload_n (pc2 := 398) C 4 dL_law_397 rfl rfl rfl ?_
    refine q_cV (pc2 := 401) (As := []) (b := b 30) (q0 := 0) (st := []) (st2 := [.int ((set2 (set2 y 27 (fun _ => T1 (inR (xs (4 * i + 1)) 0 (y 4 0 - 1)))) 7 (upd (y 7) (xs (4 * i + 1)).toNatClampNeg (-1))) 27 0)]) (w2 := wL ct a b o (vp_updL g 0 ((if (b2 (x 9 (xs (4 * i + 1)).toNatClampNeg ≠ -1)) = 0 then (0 : Int64) else 1))) (set2 x 9 (upd (x 9) (xs (4 * i + 1)).toNatClampNeg (-1))) (set2 (set2 y 27 (fun _ => T1 (inR (xs (4 * i + 1)) 0 (y 4 0 - 1)))) 7 (upd (y 7) (xs (4 * i + 1)).toNatClampNeg (-1)))) (c2 := cells) (s2 := slots) C (c_X4_thrown l D ct b (set2 (set2 y 27 (fun _ => T1 (inR (xs (4 * i + 1)) 0 (y 4 0 - 1)))) 7 (upd (y 7) (xs (4 * i + 1)).toNatClampNeg (-1)))) (cwV 0 C.w gL_law_X4_thrown rfl rfl rfl (by decide +kernel) ⟨Nat.le_of_ble_eq_true rfl, Nat.le_of_ble_eq_true rfl⟩) (wM_g0 ct b (set2 (set2 y 27 (fun _ => T1 (inR (xs (4 * i + 1)) 0 (y 4 0 - 1)))) 7 (upd (y 7) (xs (4 * i + 1)).toNatClampNeg (-1)))) rfl [26, 27, 28, 29, 30, 31, 32, 33, 34, 35, 36, 37, 38, 39, 40, 41, 42, 43, 44, 45, 46, 47] [0, 1, 2, 3, 4, 5, 6, 7, 8, 9, 10, 11, 12, 13, 14, 15, 16, 17, 18, 19, 20, 21, 22, 23, 24, 25, 48] [0, 1, 2, 3, 4, 5, 6, 7, 8, 9, 10, 11, 12, 13, 14, 15, 16, 17, 18, 19, 20, 21, 22, 23, 24, 25, 27, 28, 29, 30, 31, 32, 33, 34, 35, 36, 37, 38, 39, 40, 41, 42, 43, 44, 45, 46, 47, 48, 26] (wL_CM ct a b o (vp_updL g 0 ((if (b2 (x 9 (xs (4 * i + 1)).toNatClampNeg ≠ -1)) = 0 then (0 : Int64) else 1))) (set2 x 9 (upd (x 9) (xs (4 * i + 1)).toNatClampNeg (-1))) (set2 (set2 y 27 (fun _ => T1 (inR (xs (4 * i + 1)) 0 (y 4 0 - 1)))) 7 (upd (y 7) (xs (4 * i + 1)).toNatClampNeg (-1)))) (wL_RM ct a b o (vp_updL g 0 ((if (b2 (x 9 (xs (4 * i + 1)).toNatClampNeg ≠ -1)) = 0 then (0 : Int64) else 1))) (set2 x 9 (upd (x 9) (xs (4 * i + 1)).toNatClampNeg (-1))) (set2 (set2 y 27 (fun _ => T1 (inR (xs (4 * i + 1)) 0 (y 4 0 - 1)))) 7 (upd (y 7) (xs (4 * i + 1)).toNatClampNeg (-1)))) (by decide) (by decide) (by decide) (wL_2M ct a b o (vp_updL g 0 ((if (b2 (x 9 (xs (4 * i + 1)).toNatClampNeg ≠ -1)) = 0 then (0 : Int64) else 1))) (set2 x 9 (upd (x 9) (xs (4 * i + 1)).toNatClampNeg (-1))) (set2 (set2 y 27 (fun _ => T1 (inR (xs (4 * i + 1)) 0 (y 4 0 - 1)))) 7 (upd (y 7) (xs (4 * i + 1)).toNatClampNeg (-1))) (set2 (set2 y 27 (fun _ => T1 (inR (xs (4 * i + 1)) 0 (y 4 0 - 1)))) 7 (upd (y 7) (xs (4 * i + 1)).toNatClampNeg (-1)))) (by decide) dL_law_398 rfl rfl (Nat.le_of_ble_eq_true rfl) ⟨by show cells + 0 ≤ 1088; omega, by show slots + 0 ≤ 8873; omega⟩ rfl rfl rfl rfl ?_
    refine q_iload (pc2 := 403) C 1 dL_law_401 rfl rfl ?_
    refine q_icmp_eq (tgt := 408) (pc2 := 406) C dL_law_403 (by decide) rfl (fun _ => ?_) (fun h9 => absurd (hA.trans hT) h9)
    refine q_iload (pc2 := 410) C 1 dL_law_408 rfl rfl ?_
    refine q_if_ne (tgt := 432) (pc2 := 413) C dL_law_410 (by decide) rfl (fun h9 => absurd rfl h9) (fun _ => ?_)
    refine q_aload_n (pc2 := 414) C 3 dL_law_413 rfl rfl rfl ?_
    refine q_iconst (v := 0) (pc2 := 415) C dL_law_414 (by decide) rfl ?_
    refine q_lald (pc2 := 416) C 0 (wL_g48 ct a b o (vp_updL g 0 ((if (b2 (x 9 (xs (4 * i + 1)).toNatClampNeg ≠ -1)) = 0 then (0 : Int64) else 1))) (set2 x 9 (upd (x 9) (xs (4 * i + 1)).toNatClampNeg (-1))) (set2 (set2 y 27 (fun _ => T1 (inR (xs (4 * i + 1)) 0 (y 4 0 - 1)))) 7 (upd (y 7) (xs (4 * i + 1)).toNatClampNeg (-1)))) rfl rfl (by decide) (by decide) dL_law_415 rfl ?_
    refine q_iload (pc2 := 418) C 0 dL_law_416 rfl rfl ?_
    refine q_if_eq (tgt := 425) (pc2 := 421) C dL_law_418 (by decide) rfl (fun hz => ?_) (fun hz => ?_)
    · skip
      refine q_lconst (v := 0) (pc2 := 426) C dL_law_425 (by decide) rfl ?_
      refine q_lcmp_eq (pc2 := 427) C ((if_pos rfl).trans (if_pos (hr.trans hz))) dL_law_426 rfl ?_
      refine q_if_eq (tgt := 432) (pc2 := 430) C dL_law_427 (by decide) rfl (fun _ => ?_) (fun h9 => absurd rfl h9)
      refine q_goto (pc2 := 1473) C dL_law_432 (by decide) ?_
      refine q_widen (Nat.le_add_right cells 1) (Nat.le_add_right slots 6) ?_
      refine q_lv (lv' := [(4, .int (nI (4 * i))), (3, .ref o), (2, .ref (b 30)), (1, .ref (a 30)), (0, .ref sb)]) [2, 3, 4, 5, 6] rfl ?_
      exact kk _ _ _ (RE.mono (by omega) hRE)
    · skip
      refine q_lconst (v := 1) (pc2 := 422) C dL_law_421 (by decide) rfl ?_
      refine q_goto (pc2 := 426) C dL_law_422 (by decide) ?_
      refine q_lcmp_eq (pc2 := 427) C ((if_pos rfl).trans (if_neg (fun z => hz (hr.symm.trans z)))) dL_law_426 rfl ?_
      refine q_if_eq (tgt := 432) (pc2 := 430) C dL_law_427 (by decide) rfl (fun _ => ?_) (fun h9 => absurd rfl h9)
      refine q_goto (pc2 := 1473) C dL_law_432 (by decide) ?_
      refine q_widen (Nat.le_add_right cells 1) (Nat.le_add_right slots 6) ?_
      refine q_lv (lv' := [(4, .int (nI (4 * i))), (3, .ref o), (2, .ref (b 30)), (1, .ref (a 30)), (0, .ref sb)]) [2, 3, 4, 5, 6] rfl ?_
      exact kk _ _ _ (RE.mono (by omega) hRE)
  · skip
    rw [hoc] at M
    rw [if_neg h0, if_neg h0] at MM
    refine q_aload_n (pc2 := 373) C 3 dL_law_372 rfl rfl rfl ?_
    refine q_aload_n (pc2 := 374) C 4 dL_law_373 rfl rfl rfl ?_
    refine q_iload (pc2 := 376) C 0 dL_law_374 rfl rfl ?_
    refine q_iconst (v := 1) (pc2 := 377) C dL_law_376 (by decide) rfl ?_
    refine q_iadd (v := nI (4 * i + 1)) (pc2 := 378) C dL_law_377 (nI_add (4 * i) 1) rfl ?_
    refine q_sld (pc2 := 379) C hX hbl hbA (4 * i + 1) rfl (by omega) (by omega) dL_law_378 rfl ?_
    refine q_aload_n (pc2 := 380) C 1 dL_law_379 rfl rfl rfl ?_
    refine q_xH (pc2 := 383) (As := [.ref (a 30), .int (xs (4 * i + 1)), .ref o]) (st := []) (st2 := [.int (hcod [eI] (some E))]) (w2 := wL ct a b o (g) (x) y) (c2 := (cells + 1)) (s2 := (slots + 6)) C M (vx_cwSW 3 C.w gL_law_L_down rfl rfl rfl (by decide +kernel) ⟨Nat.le_of_ble_eq_true rfl, Nat.le_of_ble_eq_true rfl⟩) [0, 1, 2, 3, 4, 5, 6, 7, 8, 9, 10, 11, 12, 13, 14, 15, 16, 17, 18, 19, 20, 21, 22, 23, 24, 25, 48] [26, 27, 28, 29, 30, 31, 32, 33, 34, 35, 36, 37, 38, 39, 40, 41, 42, 43, 44, 45, 46, 47] [22, 23, 24, 25, 26, 27, 28, 29, 30, 31, 32, 33, 34, 35, 36, 37, 38, 39, 40, 41, 42, 43, 44, 45, 46, 47, 0, 1, 2, 3, 4, 5, 6, 7, 8, 9, 10, 11, 12, 13, 14, 15, 16, 17, 18, 19, 20, 21, 48] (wL_CH ct a b o g x y) (wL_RH ct a b o g x y) (by decide) (by decide) (by decide) (wL_2H ct a b o g x y (g) (x)) (by decide) dL_law_380 rfl rfl (Nat.le_of_ble_eq_true rfl) ⟨by show cells + 1 ≤ 1088; omega, by show slots + 6 ≤ 8873; omega⟩ rfl rfl rfl rfl ?_
    refine q_istore (lv' := [(5, .int (hcod [eI] (some E))), (4, .int (nI (4 * i))), (3, .ref o), (2, .ref (b 30)), (1, .ref (a 30)), (0, .ref sb)]) (pc2 := 385) C dL_law_383 (by decide) rfl rfl ?_
    refine q_aload_n (pc2 := 386) C 3 dL_law_385 rfl rfl rfl ?_
    refine q_aload_n (pc2 := 387) C 5 dL_law_386 rfl rfl rfl ?_
    refine q_iload (pc2 := 389) C 1 dL_law_387 rfl rfl ?_
    refine q_iconst (v := 1) (pc2 := 390) C dL_law_389 (by decide) rfl ?_
    refine q_iadd (v := nI (4 * i + 1)) (pc2 := 391) C dL_law_390 (nI_add (4 * i) 1) rfl ?_
    refine q_sld (pc2 := 392) C hX hbl hbA (4 * i + 1) rfl (by omega) (by omega) dL_law_391 rfl ?_
    refine q_cV (pc2 := 395) (As := [.int (xs (4 * i + 1))]) (b := b 30) (q0 := 0) (st := []) (st2 := [.int 0]) (w2 := wL ct a b o (g) (x) (set2 y 27 (fun _ => T1 (inR (xs (4 * i + 1)) 0 (y 4 0 - 1))))) (c2 := (cells + 1)) (s2 := (slots + 6)) C MM (cwV 1 C.w gL_law_X4_down rfl rfl rfl (by decide +kernel) ⟨Nat.le_of_ble_eq_true rfl, Nat.le_of_ble_eq_true rfl⟩) (wM_g0 ct b y) rfl [26, 27, 28, 29, 30, 31, 32, 33, 34, 35, 36, 37, 38, 39, 40, 41, 42, 43, 44, 45, 46, 47] [0, 1, 2, 3, 4, 5, 6, 7, 8, 9, 10, 11, 12, 13, 14, 15, 16, 17, 18, 19, 20, 21, 22, 23, 24, 25, 48] [0, 1, 2, 3, 4, 5, 6, 7, 8, 9, 10, 11, 12, 13, 14, 15, 16, 17, 18, 19, 20, 21, 22, 23, 24, 25, 27, 28, 29, 30, 31, 32, 33, 34, 35, 36, 37, 38, 39, 40, 41, 42, 43, 44, 45, 46, 47, 48, 26] (wL_CM ct a b o (g) (x) y) (wL_RM ct a b o (g) (x) y) (by decide) (by decide) (by decide) (wL_2M ct a b o (g) (x) y (set2 y 27 (fun _ => T1 (inR (xs (4 * i + 1)) 0 (y 4 0 - 1))))) (by decide) dL_law_392 rfl rfl (Nat.le_of_ble_eq_true rfl) ⟨by show (cells + 1) + 0 ≤ 1088; omega, by show (slots + 6) + 0 ≤ 8873; omega⟩ rfl rfl rfl rfl ?_
    refine q_istore (lv' := [(6, .int 0), (5, .int (hcod [eI] (some E))), (4, .int (nI (4 * i))), (3, .ref o), (2, .ref (b 30)), (1, .ref (a 30)), (0, .ref sb)]) (pc2 := 397) C dL_law_395 (by decide) rfl rfl ?_
    refine q_aload_n (pc2 := 398) C 4 dL_law_397 rfl rfl rfl ?_
    refine q_cV (pc2 := 401) (As := []) (b := b 30) (q0 := 0) (st := []) (st2 := [.int ((set2 y 27 (fun _ => T1 (inR (xs (4 * i + 1)) 0 (y 4 0 - 1)))) 27 0)]) (w2 := wL ct a b o (g) (x) (set2 y 27 (fun _ => T1 (inR (xs (4 * i + 1)) 0 (y 4 0 - 1))))) (c2 := (cells + 1)) (s2 := (slots + 6)) C (c_X4_thrown l D ct b (set2 y 27 (fun _ => T1 (inR (xs (4 * i + 1)) 0 (y 4 0 - 1))))) (cwV 0 C.w gL_law_X4_thrown rfl rfl rfl (by decide +kernel) ⟨Nat.le_of_ble_eq_true rfl, Nat.le_of_ble_eq_true rfl⟩) (wM_g0 ct b (set2 y 27 (fun _ => T1 (inR (xs (4 * i + 1)) 0 (y 4 0 - 1))))) rfl [26, 27, 28, 29, 30, 31, 32, 33, 34, 35, 36, 37, 38, 39, 40, 41, 42, 43, 44, 45, 46, 47] [0, 1, 2, 3, 4, 5, 6, 7, 8, 9, 10, 11, 12, 13, 14, 15, 16, 17, 18, 19, 20, 21, 22, 23, 24, 25, 48] [0, 1, 2, 3, 4, 5, 6, 7, 8, 9, 10, 11, 12, 13, 14, 15, 16, 17, 18, 19, 20, 21, 22, 23, 24, 25, 27, 28, 29, 30, 31, 32, 33, 34, 35, 36, 37, 38, 39, 40, 41, 42, 43, 44, 45, 46, 47, 48, 26] (wL_CM ct a b o (g) (x) (set2 y 27 (fun _ => T1 (inR (xs (4 * i + 1)) 0 (y 4 0 - 1))))) (wL_RM ct a b o (g) (x) (set2 y 27 (fun _ => T1 (inR (xs (4 * i + 1)) 0 (y 4 0 - 1))))) (by decide) (by decide) (by decide) (wL_2M ct a b o (g) (x) (set2 y 27 (fun _ => T1 (inR (xs (4 * i + 1)) 0 (y 4 0 - 1)))) (set2 y 27 (fun _ => T1 (inR (xs (4 * i + 1)) 0 (y 4 0 - 1))))) (by decide) dL_law_398 rfl rfl (Nat.le_of_ble_eq_true rfl) ⟨by show (cells + 1) + 0 ≤ 1088; omega, by show (slots + 6) + 0 ≤ 8873; omega⟩ rfl rfl rfl rfl ?_
    refine q_iload (pc2 := 403) C 1 dL_law_401 rfl rfl ?_
    refine q_icmp_eq (tgt := 408) (pc2 := 406) C dL_law_403 (by decide) rfl (fun _ => ?_) (fun h9 => absurd (hB9.trans hT) h9)
    refine q_iload (pc2 := 410) C 1 dL_law_408 rfl rfl ?_
    refine q_if_ne (tgt := 432) (pc2 := 413) C dL_law_410 (by decide) rfl (fun _ => ?_) (fun h9 => absurd (Decidable.not_not.mp h9) (by rw [← hT]; exact h0))
    refine q_goto (pc2 := 1473) C dL_law_432 (by decide) ?_
    refine q_lv (lv' := [(4, .int (nI (4 * i))), (3, .ref o), (2, .ref (b 30)), (1, .ref (a 30)), (0, .ref sb)]) [2, 3, 4, 5, 6] rfl ?_
    exact kk g x _ (RE.mono (by omega) hRE)

set_option maxHeartbeats 4000000 in
set_option maxRecDepth 100000 in
theorem lc_gap (l : Launch) (hl : l.stackTraces = false) {p : Program} {e : Env} {s : State} {m : MethodId} {args : Array Value} {below : List Frame} {meth : Method} {c : Code} {D : va_G} {ct : Nat → ClassId} {A : Nat → Prop} {Q : State → Prop} (C : Cx p s m args c meth cL_law 7 (some .boolean) wsL_law RL D ct A) {sb L : Nat} {xs : Nat → Int32} (hX : va_X sb L xs s s.heap) (hbl : sb < s.heap.size) (hbA : ¬ A sb) (hL : L ≤ 2048) {a b : Nat → Nat} {o : Nat} {g : Nat → Int64} {x y : Nat → Nat → Int32} {N : Nat} (hN : N + 50 < 2 ^ 29) (hR : RE N x y) {i : Nat} (hi : 4 * i + 4 ≤ L) {cells slots : Nat} (hc : cells + 1 ≤ 1088) (hs : slots + 6 ≤ 8873)
    (kk : ∀ (g' : Nat → Int64) (x' y' : Nat → Nat → Int32), RE (N + 50) x' y' → Cf p l e room_1 s m args below meth c D A 7 (cells + 1) (slots + 6) Q 1473 [(4, .int (nI (4 * i))), (3, .ref o), (2, .ref (b 30)), (1, .ref (a 30)), (0, .ref sb)] [] (wL ct a b o g' x' y')) : Cf p l e room_1 s m args below meth c D A 7 cells slots Q 640 [(4, .int (nI (4 * i))), (3, .ref o), (2, .ref (b 30)), (1, .ref (a 30)), (0, .ref sb)] [] (wL ct a b o g x y) := by
  obtain ⟨n, h, q, bb, t, ht, r⟩ := hR
  have S := st_gap hN r ht (xs (4 * i + 1))
  obtain ⟨hn10, hlt, hq8, hbq, hn, hnM, hh, hhM, hq, hqM, hb, hbM, hti, hTM, e1, e2, e3, e5, e6, e7, e11, e17, e18, e19, e20, hbars, hlen, hkind, hlow, hhigh, hfst, hplc, hnam, hcur, hrul, hbeg⟩ := id r
  have hfd := fdk r
  have hok : ∀ k, k < 10 → wOk y k := fun k hk => TM_ok hTM (by omega) k hk
  have hBM : ∀ s, s < 2 → 0 ≤ y 1 s := fun s hs => by obtain ⟨k, hk, e⟩ := hbars s hs; rw [e]; exact nI_pos' (by omega)
  have hB : ∀ s, s < 2 → 0 ≤ x 5 s := fun s hs => by rw [e5]; exact hBM s hs
  obtain ⟨kb, hkb4, hkb⟩ := hbars h hlt
  have hkbX : x 5 h = nI kb := by rw [e5]; exact hkb
  have M := c_L_gap l D ct a o g x (x) (xs (4 * i + 1)) (if (1 ≤ (xs (4 * i + 1)) ∧ (xs (4 * i + 1)) ≤ 100) then none else some eA) (StOk.mem S) (gapf (fun k => cntH x (nI k)) (xs (4 * i + 1))) (c_X3_gap l hl D ct a x  (xs (4 * i + 1)))
  have MM := c_X4_gap l D ct b y n hnM hn10 (xs (4 * i + 1))
  rcases S with ⟨hoc, hT, hr, hA, hRE⟩ | ⟨E, hE, hoc, hT, h0, hB9, hRE⟩
  · skip
    rw [hoc] at M
    rw [if_pos hT, if_pos hT] at MM
    refine q_aload_n (pc2 := 641) C 3 dL_law_640 rfl rfl rfl ?_
    refine q_aload_n (pc2 := 642) C 4 dL_law_641 rfl rfl rfl ?_
    refine q_iload (pc2 := 644) C 0 dL_law_642 rfl rfl ?_
    refine q_iconst (v := 1) (pc2 := 645) C dL_law_644 (by decide) rfl ?_
    refine q_iadd (v := nI (4 * i + 1)) (pc2 := 646) C dL_law_645 (nI_add (4 * i) 1) rfl ?_
    refine q_sld (pc2 := 647) C hX hbl hbA (4 * i + 1) rfl (by omega) (by omega) dL_law_646 rfl ?_
    refine q_aload_n (pc2 := 648) C 1 dL_law_647 rfl rfl rfl ?_
    refine q_xH (pc2 := 651) (As := [.ref (a 30), .int (xs (4 * i + 1)), .ref o]) (st := []) (st2 := [.int 0]) (w2 := wL ct a b o (vp_updL g 0 ((gapf (fun k => cntH x (nI k)) (xs (4 * i + 1))).toInt64)) (x) y) (c2 := cells) (s2 := slots) C M (vx_cwSW 3 C.w gL_law_L_gap rfl rfl rfl (by decide +kernel) ⟨Nat.le_of_ble_eq_true rfl, Nat.le_of_ble_eq_true rfl⟩) [0, 1, 2, 3, 4, 5, 6, 7, 8, 9, 10, 11, 12, 13, 14, 15, 16, 17, 18, 19, 20, 21, 22, 23, 24, 25, 48] [26, 27, 28, 29, 30, 31, 32, 33, 34, 35, 36, 37, 38, 39, 40, 41, 42, 43, 44, 45, 46, 47] [22, 23, 24, 25, 26, 27, 28, 29, 30, 31, 32, 33, 34, 35, 36, 37, 38, 39, 40, 41, 42, 43, 44, 45, 46, 47, 0, 1, 2, 3, 4, 5, 6, 7, 8, 9, 10, 11, 12, 13, 14, 15, 16, 17, 18, 19, 20, 21, 48] (wL_CH ct a b o g x y) (wL_RH ct a b o g x y) (by decide) (by decide) (by decide) (wL_2H ct a b o g x y (vp_updL g 0 ((gapf (fun k => cntH x (nI k)) (xs (4 * i + 1))).toInt64)) (x)) (by decide) dL_law_648 rfl rfl (Nat.le_of_ble_eq_true rfl) ⟨by show cells + 0 ≤ 1088; omega, by show slots + 0 ≤ 8873; omega⟩ rfl rfl rfl rfl ?_
    refine q_istore (lv' := [(5, .int 0), (4, .int (nI (4 * i))), (3, .ref o), (2, .ref (b 30)), (1, .ref (a 30)), (0, .ref sb)]) (pc2 := 653) C dL_law_651 (by decide) rfl rfl ?_
    refine q_aload_n (pc2 := 654) C 3 dL_law_653 rfl rfl rfl ?_
    refine q_aload_n (pc2 := 655) C 5 dL_law_654 rfl rfl rfl ?_
    refine q_iload (pc2 := 657) C 1 dL_law_655 rfl rfl ?_
    refine q_iconst (v := 1) (pc2 := 658) C dL_law_657 (by decide) rfl ?_
    refine q_iadd (v := nI (4 * i + 1)) (pc2 := 659) C dL_law_658 (nI_add (4 * i) 1) rfl ?_
    refine q_sld (pc2 := 660) C hX hbl hbA (4 * i + 1) rfl (by omega) (by omega) dL_law_659 rfl ?_
    refine q_cV (pc2 := 663) (As := [.int (xs (4 * i + 1))]) (b := b 30) (q0 := 0) (st := []) (st2 := [.int (gapf (fun k => atM (set2 y 27 (fun _ => T1 (inR (xs (4 * i + 1)) 1 100))) n (nI k)) (xs (4 * i + 1)))]) (w2 := wL ct a b o (vp_updL g 0 ((gapf (fun k => cntH x (nI k)) (xs (4 * i + 1))).toInt64)) (x) (set2 y 27 (fun _ => T1 (inR (xs (4 * i + 1)) 1 100)))) (c2 := cells) (s2 := slots) C MM (cwV 1 C.w gL_law_X4_gap rfl rfl rfl (by decide +kernel) ⟨Nat.le_of_ble_eq_true rfl, Nat.le_of_ble_eq_true rfl⟩) (wM_g0 ct b y) rfl [26, 27, 28, 29, 30, 31, 32, 33, 34, 35, 36, 37, 38, 39, 40, 41, 42, 43, 44, 45, 46, 47] [0, 1, 2, 3, 4, 5, 6, 7, 8, 9, 10, 11, 12, 13, 14, 15, 16, 17, 18, 19, 20, 21, 22, 23, 24, 25, 48] [0, 1, 2, 3, 4, 5, 6, 7, 8, 9, 10, 11, 12, 13, 14, 15, 16, 17, 18, 19, 20, 21, 22, 23, 24, 25, 27, 28, 29, 30, 31, 32, 33, 34, 35, 36, 37, 38, 39, 40, 41, 42, 43, 44, 45, 46, 47, 48, 26] (wL_CM ct a b o (vp_updL g 0 ((gapf (fun k => cntH x (nI k)) (xs (4 * i + 1))).toInt64)) (x) y) (wL_RM ct a b o (vp_updL g 0 ((gapf (fun k => cntH x (nI k)) (xs (4 * i + 1))).toInt64)) (x) y) (by decide) (by decide) (by decide) (wL_2M ct a b o (vp_updL g 0 ((gapf (fun k => cntH x (nI k)) (xs (4 * i + 1))).toInt64)) (x) y (set2 y 27 (fun _ => T1 (inR (xs (4 * i + 1)) 1 100)))) (by decide) dL_law_660 rfl rfl (Nat.le_of_ble_eq_true rfl) ⟨by show cells + 0 ≤ 1088; omega, by show slots + 0 ≤ 8873; omega⟩ rfl rfl rfl rfl ?_
    refine q_istore (lv' := [(6, .int (gapf (fun k => atM (set2 y 27 (fun _ => T1 (inR (xs (4 * i + 1)) 1 100))) n (nI k)) (xs (4 * i + 1)))), (5, .int 0), (4, .int (nI (4 * i))), (3, .ref o), (2, .ref (b 30)), (1, .ref (a 30)), (0, .ref sb)]) (pc2 := 665) C dL_law_663 (by decide) rfl rfl ?_
    refine q_aload_n (pc2 := 666) C 4 dL_law_665 rfl rfl rfl ?_
    refine q_cV (pc2 := 669) (As := []) (b := b 30) (q0 := 0) (st := []) (st2 := [.int ((set2 y 27 (fun _ => T1 (inR (xs (4 * i + 1)) 1 100))) 27 0)]) (w2 := wL ct a b o (vp_updL g 0 ((gapf (fun k => cntH x (nI k)) (xs (4 * i + 1))).toInt64)) (x) (set2 y 27 (fun _ => T1 (inR (xs (4 * i + 1)) 1 100)))) (c2 := cells) (s2 := slots) C (c_X4_thrown l D ct b (set2 y 27 (fun _ => T1 (inR (xs (4 * i + 1)) 1 100)))) (cwV 0 C.w gL_law_X4_thrown rfl rfl rfl (by decide +kernel) ⟨Nat.le_of_ble_eq_true rfl, Nat.le_of_ble_eq_true rfl⟩) (wM_g0 ct b (set2 y 27 (fun _ => T1 (inR (xs (4 * i + 1)) 1 100)))) rfl [26, 27, 28, 29, 30, 31, 32, 33, 34, 35, 36, 37, 38, 39, 40, 41, 42, 43, 44, 45, 46, 47] [0, 1, 2, 3, 4, 5, 6, 7, 8, 9, 10, 11, 12, 13, 14, 15, 16, 17, 18, 19, 20, 21, 22, 23, 24, 25, 48] [0, 1, 2, 3, 4, 5, 6, 7, 8, 9, 10, 11, 12, 13, 14, 15, 16, 17, 18, 19, 20, 21, 22, 23, 24, 25, 27, 28, 29, 30, 31, 32, 33, 34, 35, 36, 37, 38, 39, 40, 41, 42, 43, 44, 45, 46, 47, 48, 26] (wL_CM ct a b o (vp_updL g 0 ((gapf (fun k => cntH x (nI k)) (xs (4 * i + 1))).toInt64)) (x) (set2 y 27 (fun _ => T1 (inR (xs (4 * i + 1)) 1 100)))) (wL_RM ct a b o (vp_updL g 0 ((gapf (fun k => cntH x (nI k)) (xs (4 * i + 1))).toInt64)) (x) (set2 y 27 (fun _ => T1 (inR (xs (4 * i + 1)) 1 100)))) (by decide) (by decide) (by decide) (wL_2M ct a b o (vp_updL g 0 ((gapf (fun k => cntH x (nI k)) (xs (4 * i + 1))).toInt64)) (x) (set2 y 27 (fun _ => T1 (inR (xs (4 * i + 1)) 1 100))) (set2 y 27 (fun _ => T1 (inR (xs (4 * i + 1)) 1 100)))) (by decide) dL_law_666 rfl rfl (Nat.le_of_ble_eq_true rfl) ⟨by show cells + 0 ≤ 1088; omega, by show slots + 0 ≤ 8873; omega⟩ rfl rfl rfl rfl ?_
    refine q_iload (pc2 := 671) C 1 dL_law_669 rfl rfl ?_
    refine q_icmp_eq (tgt := 676) (pc2 := 674) C dL_law_671 (by decide) rfl (fun _ => ?_) (fun h9 => absurd (hA.trans hT) h9)
    refine q_iload (pc2 := 678) C 1 dL_law_676 rfl rfl ?_
    refine q_if_ne (tgt := 693) (pc2 := 681) C dL_law_678 (by decide) rfl (fun h9 => absurd rfl h9) (fun _ => ?_)
    refine q_aload_n (pc2 := 682) C 3 dL_law_681 rfl rfl rfl ?_
    refine q_iconst (v := 0) (pc2 := 683) C dL_law_682 (by decide) rfl ?_
    refine q_lald (pc2 := 684) C 0 (wL_g48 ct a b o (vp_updL g 0 ((gapf (fun k => cntH x (nI k)) (xs (4 * i + 1))).toInt64)) (x) (set2 y 27 (fun _ => T1 (inR (xs (4 * i + 1)) 1 100)))) rfl rfl (by decide) (by decide) dL_law_683 rfl ?_
    refine q_iload (pc2 := 686) C 0 dL_law_684 rfl rfl ?_
    refine q_i2l (pc2 := 687) C dL_law_686 rfl rfl ?_
    refine q_lcmp_eq (pc2 := 688) C (by rw [← hr]; exact if_pos rfl) dL_law_687 rfl ?_
    refine q_if_eq (tgt := 693) (pc2 := 691) C dL_law_688 (by decide) rfl (fun _ => ?_) (fun h9 => absurd rfl h9)
    refine q_goto (pc2 := 1473) C dL_law_693 (by decide) ?_
    refine q_widen (Nat.le_add_right cells 1) (Nat.le_add_right slots 6) ?_
    refine q_lv (lv' := [(4, .int (nI (4 * i))), (3, .ref o), (2, .ref (b 30)), (1, .ref (a 30)), (0, .ref sb)]) [2, 3, 4, 5, 6] rfl ?_
    exact kk _ _ _ (RE.mono (by omega) hRE)
  · skip
    rw [hoc] at M
    rw [if_neg h0, if_neg h0] at MM
    refine q_aload_n (pc2 := 641) C 3 dL_law_640 rfl rfl rfl ?_
    refine q_aload_n (pc2 := 642) C 4 dL_law_641 rfl rfl rfl ?_
    refine q_iload (pc2 := 644) C 0 dL_law_642 rfl rfl ?_
    refine q_iconst (v := 1) (pc2 := 645) C dL_law_644 (by decide) rfl ?_
    refine q_iadd (v := nI (4 * i + 1)) (pc2 := 646) C dL_law_645 (nI_add (4 * i) 1) rfl ?_
    refine q_sld (pc2 := 647) C hX hbl hbA (4 * i + 1) rfl (by omega) (by omega) dL_law_646 rfl ?_
    refine q_aload_n (pc2 := 648) C 1 dL_law_647 rfl rfl rfl ?_
    refine q_xH (pc2 := 651) (As := [.ref (a 30), .int (xs (4 * i + 1)), .ref o]) (st := []) (st2 := [.int (hcod [eA] (some E))]) (w2 := wL ct a b o (g) (x) y) (c2 := (cells + 1)) (s2 := (slots + 6)) C M (vx_cwSW 3 C.w gL_law_L_gap rfl rfl rfl (by decide +kernel) ⟨Nat.le_of_ble_eq_true rfl, Nat.le_of_ble_eq_true rfl⟩) [0, 1, 2, 3, 4, 5, 6, 7, 8, 9, 10, 11, 12, 13, 14, 15, 16, 17, 18, 19, 20, 21, 22, 23, 24, 25, 48] [26, 27, 28, 29, 30, 31, 32, 33, 34, 35, 36, 37, 38, 39, 40, 41, 42, 43, 44, 45, 46, 47] [22, 23, 24, 25, 26, 27, 28, 29, 30, 31, 32, 33, 34, 35, 36, 37, 38, 39, 40, 41, 42, 43, 44, 45, 46, 47, 0, 1, 2, 3, 4, 5, 6, 7, 8, 9, 10, 11, 12, 13, 14, 15, 16, 17, 18, 19, 20, 21, 48] (wL_CH ct a b o g x y) (wL_RH ct a b o g x y) (by decide) (by decide) (by decide) (wL_2H ct a b o g x y (g) (x)) (by decide) dL_law_648 rfl rfl (Nat.le_of_ble_eq_true rfl) ⟨by show cells + 1 ≤ 1088; omega, by show slots + 6 ≤ 8873; omega⟩ rfl rfl rfl rfl ?_
    refine q_istore (lv' := [(5, .int (hcod [eA] (some E))), (4, .int (nI (4 * i))), (3, .ref o), (2, .ref (b 30)), (1, .ref (a 30)), (0, .ref sb)]) (pc2 := 653) C dL_law_651 (by decide) rfl rfl ?_
    refine q_aload_n (pc2 := 654) C 3 dL_law_653 rfl rfl rfl ?_
    refine q_aload_n (pc2 := 655) C 5 dL_law_654 rfl rfl rfl ?_
    refine q_iload (pc2 := 657) C 1 dL_law_655 rfl rfl ?_
    refine q_iconst (v := 1) (pc2 := 658) C dL_law_657 (by decide) rfl ?_
    refine q_iadd (v := nI (4 * i + 1)) (pc2 := 659) C dL_law_658 (nI_add (4 * i) 1) rfl ?_
    refine q_sld (pc2 := 660) C hX hbl hbA (4 * i + 1) rfl (by omega) (by omega) dL_law_659 rfl ?_
    refine q_cV (pc2 := 663) (As := [.int (xs (4 * i + 1))]) (b := b 30) (q0 := 0) (st := []) (st2 := [.int 0]) (w2 := wL ct a b o (g) (x) (set2 y 27 (fun _ => T1 (inR (xs (4 * i + 1)) 1 100)))) (c2 := (cells + 1)) (s2 := (slots + 6)) C MM (cwV 1 C.w gL_law_X4_gap rfl rfl rfl (by decide +kernel) ⟨Nat.le_of_ble_eq_true rfl, Nat.le_of_ble_eq_true rfl⟩) (wM_g0 ct b y) rfl [26, 27, 28, 29, 30, 31, 32, 33, 34, 35, 36, 37, 38, 39, 40, 41, 42, 43, 44, 45, 46, 47] [0, 1, 2, 3, 4, 5, 6, 7, 8, 9, 10, 11, 12, 13, 14, 15, 16, 17, 18, 19, 20, 21, 22, 23, 24, 25, 48] [0, 1, 2, 3, 4, 5, 6, 7, 8, 9, 10, 11, 12, 13, 14, 15, 16, 17, 18, 19, 20, 21, 22, 23, 24, 25, 27, 28, 29, 30, 31, 32, 33, 34, 35, 36, 37, 38, 39, 40, 41, 42, 43, 44, 45, 46, 47, 48, 26] (wL_CM ct a b o (g) (x) y) (wL_RM ct a b o (g) (x) y) (by decide) (by decide) (by decide) (wL_2M ct a b o (g) (x) y (set2 y 27 (fun _ => T1 (inR (xs (4 * i + 1)) 1 100)))) (by decide) dL_law_660 rfl rfl (Nat.le_of_ble_eq_true rfl) ⟨by show (cells + 1) + 0 ≤ 1088; omega, by show (slots + 6) + 0 ≤ 8873; omega⟩ rfl rfl rfl rfl ?_
    refine q_istore (lv' := [(6, .int 0), (5, .int (hcod [eA] (some E))), (4, .int (nI (4 * i))), (3, .ref o), (2, .ref (b 30)), (1, .ref (a 30)), (0, .ref sb)]) (pc2 := 665) C dL_law_663 (by decide) rfl rfl ?_
    refine q_aload_n (pc2 := 666) C 4 dL_law_665 rfl rfl rfl ?_
    refine q_cV (pc2 := 669) (As := []) (b := b 30) (q0 := 0) (st := []) (st2 := [.int ((set2 y 27 (fun _ => T1 (inR (xs (4 * i + 1)) 1 100))) 27 0)]) (w2 := wL ct a b o (g) (x) (set2 y 27 (fun _ => T1 (inR (xs (4 * i + 1)) 1 100)))) (c2 := (cells + 1)) (s2 := (slots + 6)) C (c_X4_thrown l D ct b (set2 y 27 (fun _ => T1 (inR (xs (4 * i + 1)) 1 100)))) (cwV 0 C.w gL_law_X4_thrown rfl rfl rfl (by decide +kernel) ⟨Nat.le_of_ble_eq_true rfl, Nat.le_of_ble_eq_true rfl⟩) (wM_g0 ct b (set2 y 27 (fun _ => T1 (inR (xs (4 * i + 1)) 1 100)))) rfl [26, 27, 28, 29, 30, 31, 32, 33, 34, 35, 36, 37, 38, 39, 40, 41, 42, 43, 44, 45, 46, 47] [0, 1, 2, 3, 4, 5, 6, 7, 8, 9, 10, 11, 12, 13, 14, 15, 16, 17, 18, 19, 20, 21, 22, 23, 24, 25, 48] [0, 1, 2, 3, 4, 5, 6, 7, 8, 9, 10, 11, 12, 13, 14, 15, 16, 17, 18, 19, 20, 21, 22, 23, 24, 25, 27, 28, 29, 30, 31, 32, 33, 34, 35, 36, 37, 38, 39, 40, 41, 42, 43, 44, 45, 46, 47, 48, 26] (wL_CM ct a b o (g) (x) (set2 y 27 (fun _ => T1 (inR (xs (4 * i + 1)) 1 100)))) (wL_RM ct a b o (g) (x) (set2 y 27 (fun _ => T1 (inR (xs (4 * i + 1)) 1 100)))) (by decide) (by decide) (by decide) (wL_2M ct a b o (g) (x) (set2 y 27 (fun _ => T1 (inR (xs (4 * i + 1)) 1 100))) (set2 y 27 (fun _ => T1 (inR (xs (4 * i + 1)) 1 100)))) (by decide) dL_law_666 rfl rfl (Nat.le_of_ble_eq_true rfl) ⟨by show (cells + 1) + 0 ≤ 1088; omega, by show (slots + 6) + 0 ≤ 8873; omega⟩ rfl rfl rfl rfl ?_
    refine q_iload (pc2 := 671) C 1 dL_law_669 rfl rfl ?_
    refine q_icmp_eq (tgt := 676) (pc2 := 674) C dL_law_671 (by decide) rfl (fun _ => ?_) (fun h9 => absurd (hB9.trans hT) h9)
    refine q_iload (pc2 := 678) C 1 dL_law_676 rfl rfl ?_
    refine q_if_ne (tgt := 693) (pc2 := 681) C dL_law_678 (by decide) rfl (fun _ => ?_) (fun h9 => absurd (Decidable.not_not.mp h9) (by rw [← hT]; exact h0))
    refine q_goto (pc2 := 1473) C dL_law_693 (by decide) ?_
    refine q_lv (lv' := [(4, .int (nI (4 * i))), (3, .ref o), (2, .ref (b 30)), (1, .ref (a 30)), (0, .ref sb)]) [2, 3, 4, 5, 6] rfl ?_
    exact kk g x _ (RE.mono (by omega) hRE)
