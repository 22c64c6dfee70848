/-! plays: a level named -/
set_option maxHeartbeats 4000000 in
set_option maxRecDepth 100000 in
theorem c_L_plays_1 (l : Launch) (D : va_G) (ct : Nat → ClassId) (hl : l.stackTraces = false) (a : Nat → Nat) (x : Nat → Nat → Int32) (fc fb fp fq fn fl : Nat → Int32) (y : Int32) (M : Nat) (hM4 : M ≤ 10000) (r0 : RE M x fc fb fp fq fn fl) : qM l yL_plays wsL_plays ({ frames := 9, cells := 2, slots := 12, locals := 162 }) D ct [.ref (a 30), .int (nI 1), .int y, .ref (a 40), .ref (a 42), .ref (a 43), .ref (a 44), .ref (a 45)] (wT ct a x fc fb fp fq fn fl) (pR ct a (M + 50)) 2 12 := by
  refine q_start (ret := some .boolean) (lv := [(0, .ref (a 30)), (1, .int (nI 1)), (2, .int y), (3, .ref (a 40)), (4, .ref (a 42)), (5, .ref (a 43)), (6, .ref (a 44)), (7, .ref (a 45))]) (by decide +kernel) rfl (Nat.le_of_ble_eq_true rfl) rfl ?_
  intro p e s m args below meth c A Q C hQ hnm
  obtain ⟨n, h, q, b, t, kb, K, S, F, V, ht, r⟩ := r0
  obtain ⟨rh, rl, rr, rp, rc, rs, hbq⟩ := id r
  obtain ⟨hlt, hx4, hc0, hkbs, hlen⟩ := id rh
  obtain ⟨hn5, hx0, hc3, hlow, hall, hhigh⟩ := id rl
  obtain ⟨hq4, hx16, hc4, hcue, hfd, hnam, hnaz⟩ := id rc
  obtain ⟨hx22, hc5, hx21, hc7, hc6, hx23, hfl, hlvr, hlev⟩ := id rs
  obtain ⟨hkb2, hx5, hck⟩ := hkbs h hlt
  have hK : ∀ k, k < n → fp k = nI (K k) ∧ K k < 4 := fun k hk => ⟨(hlow k hk).2.1, (hlow k hk).1⟩
  have hb4 : b ≤ 4 := by omega
  have htB : t < 2 ^ 29 := by omega
  have hA : ∀ i, i < n → Cf p l e ({ frames := 9, cells := 2, slots := 12, locals := 162 }) s m args below meth c D A 15 0 0 Q 49 [(9, .int (nI 1)), (8, .int (nI i)), (0, .ref (a 30)), (1, .int (nI 1)), (2, .int y), (3, .ref (a 40)), (4, .ref (a 42)), (5, .ref (a 43)), (6, .ref (a 44)), (7, .ref (a 45))] [] (wT ct a x fc fb fp fq fn fl) := by
    intro i hi
    refine q_iload_n (pc2 := 50) C 3 dL_plays_49 rfl rfl rfl ?_
    refine q_if_ne (tgt := 277) (pc2 := 53) C dL_plays_50 (by decide) rfl (fun _ => ?_) (fun h9 => absurd h9 (by decide))
    refine q_iload_n (pc2 := 278) C 3 dL_plays_277 rfl rfl rfl ?_
    refine q_iconst (v := nI 1) (pc2 := 279) C dL_plays_278 (by decide) rfl ?_
    refine q_icmp_ne (tgt := 431) (pc2 := 282) C dL_plays_279 (by decide) rfl (fun h9 => absurd (by decide) h9) (fun _ => ?_)
    refine q_iload_n (pc2 := 283) C 4 dL_plays_282 rfl rfl rfl ?_
    refine q_iconst (v := nI 3) (pc2 := 284) C dL_plays_283 (by decide) rfl ?_
    refine q_ishr (v := (y >>> (nI 3 &&& 31))) (pc2 := 285) C dL_plays_284 (rfl) rfl ?_
    refine q_aload_n (pc2 := 286) C 5 dL_plays_285 rfl rfl rfl ?_
    refine q_iconst (v := nI 4) (pc2 := 287) C dL_plays_286 (by decide) rfl ?_
    refine q_iald (q0 := 26) (f := fc) (pc2 := 288) C 4 (wT_g0 ct a x fc fb fp fq fn fl) rfl (rfl) (by decide) (by decide) dL_plays_287 rfl ?_
    refine q_eqi (y := nI q) (hc4) ?_
    refine q_iconst (v := nI 1) (pc2 := 289) C dL_plays_288 (by decide) rfl ?_
    refine q_iadd (v := nI (q + 1)) (pc2 := 290) C dL_plays_289 (nI_add q 1) rfl ?_
    refine q_some (pc2 := 293) C (v := (y >>> (nI 3 &&& 31))) (q + 1) (by omega) (by omega) (va_cwS 2 C.w gL_plays_L_some rfl rfl rfl (by decide +kernel) ⟨Nat.le_of_ble_eq_true rfl, Nat.le_of_ble_eq_true rfl⟩) dL_plays_290 rfl ⟨Nat.le_of_ble_eq_true rfl, Nat.le_of_ble_eq_true rfl⟩ (Nat.le_of_ble_eq_true rfl) (fun m290 hm290 => ?_)
    refine q_istore (lv' := [(10, .int (nI m290)), (9, .int (nI 1)), (8, .int (nI i)), (0, .ref (a 30)), (1, .int (nI 1)), (2, .int y), (3, .ref (a 40)), (4, .ref (a 42)), (5, .ref (a 43)), (6, .ref (a 44)), (7, .ref (a 45))]) (pc2 := 295) C dL_plays_293 (by decide) rfl rfl ?_
    have hj334 : ∀ lv0 : Int32, (lv0 = -1 ∨ ∃ m9, m9 ≤ 101 ∧ lv0 = nI m9) → Cf p l e ({ frames := 9, cells := 2, slots := 12, locals := 162 }) s m args below meth c D A 15 0 0 Q 334 [(10, .int (nI m290)), (9, .int (nI 1)), (8, .int (nI i)), (0, .ref (a 30)), (1, .int (nI 1)), (2, .int y), (3, .ref (a 40)), (4, .ref (a 42)), (5, .ref (a 43)), (6, .ref (a 44)), (7, .ref (a 45))] [.int lv0] (wT ct a x fc fb fp fq fn fl) := by
      intro lv0 hlv0
      refine q_istore (lv' := [(11, .int lv0), (10, .int (nI m290)), (9, .int (nI 1)), (8, .int (nI i)), (0, .ref (a 30)), (1, .int (nI 1)), (2, .int y), (3, .ref (a 40)), (4, .ref (a 42)), (5, .ref (a 43)), (6, .ref (a 44)), (7, .ref (a 45))]) (pc2 := 336) C dL_plays_334 (by decide) rfl rfl ?_
      refine q_iload (pc2 := 338) C 2 dL_plays_336 rfl rfl ?_
      refine q_if_eq (tgt := 353) (pc2 := 341) C dL_plays_338 (by decide) rfl (fun h9 => absurd h9 (by decide)) (fun _ => ?_)
      refine q_iload (pc2 := 343) C 1 dL_plays_341 rfl rfl ?_
      refine q_aload_n (pc2 := 344) C 7 dL_plays_343 rfl rfl rfl ?_
      refine q_iconst (v := nI 4) (pc2 := 345) C dL_plays_344 (by decide) rfl ?_
      refine q_iald (q0 := 26) (f := fc) (pc2 := 346) C 4 (wT_g0 ct a x fc fb fp fq fn fl) rfl (rfl) (by decide) (by decide) dL_plays_345 rfl ?_
      refine q_eqi (y := nI q) (hc4) ?_
      refine q_icmp_ge (tgt := 353) (pc2 := 349) C dL_plays_346 (by decide) rfl (fun c346 => ?_) (fun c346 => ?_)
      · skip
        have k346 : q ≤ m290 := (nI_leI (a := q) (b := m290) (by omega) (by omega)).mp c346
        refine q_iconst (v := nI 0) (pc2 := 354) C dL_plays_353 (by decide) rfl ?_
        refine q_istore (lv' := [(9, .int (nI 0)), (11, .int lv0), (10, .int (nI m290)), (8, .int (nI i)), (0, .ref (a 30)), (1, .int (nI 1)), (2, .int y), (3, .ref (a 40)), (4, .ref (a 42)), (5, .ref (a 43)), (6, .ref (a 44)), (7, .ref (a 45))]) (pc2 := 356) C dL_plays_354 (by decide) rfl rfl ?_
        refine q_iload (pc2 := 358) C 0 dL_plays_356 rfl rfl ?_
        refine q_if_ne (tgt := 366) (pc2 := 361) C dL_plays_358 (by decide) rfl (fun h9 => absurd (by decide) h9) (fun _ => ?_)
        refine q_bipush (v := (-101)) (pc2 := 363) C dL_plays_361 (by decide) rfl ?_
        refine q_goto (pc2 := 388) C dL_plays_363 (by decide) ?_
        refine q_istore (lv' := [(12, .int (-101)), (9, .int (nI 0)), (11, .int lv0), (10, .int (nI m290)), (8, .int (nI i)), (0, .ref (a 30)), (1, .int (nI 1)), (2, .int y), (3, .ref (a 40)), (4, .ref (a 42)), (5, .ref (a 43)), (6, .ref (a 44)), (7, .ref (a 45))]) (pc2 := 390) C dL_plays_388 (by decide) rfl rfl ?_
        refine q_iload (pc2 := 392) C 0 dL_plays_390 rfl rfl ?_
        refine q_bipush (v := (-2)) (pc2 := 394) C dL_plays_392 (by decide) rfl ?_
        refine q_icmp_le (tgt := 409) (pc2 := 397) C dL_plays_394 (by decide) rfl (fun _ => ?_) (fun h9 => absurd (by decide) h9)
        refine q_aload_n (pc2 := 410) C 5 dL_plays_409 rfl rfl rfl ?_
        refine q_iconst (v := nI 1) (pc2 := 411) C dL_plays_410 (by decide) rfl ?_
        refine q_iload (pc2 := 413) C 3 dL_plays_411 rfl rfl ?_
        refine q_iload (pc2 := 415) C 4 dL_plays_413 rfl rfl ?_
        refine q_iload (pc2 := 417) C 2 dL_plays_415 rfl rfl ?_
        have hM := c_X3_name l hl D ct a x n hx0 (by omega) q hx16 (by omega) (nI m290) (nI i) lv0
        rw [hx0, hx16, nI_clamp (show m290 < 2 ^ 31 by omega)] at hM
        rw [nI_clamp (show i < 2 ^ 31 by omega)] at hM
        refine q_Hno_wT (pc2 := 420) (As := [.ref (a 30), .int (nI 1), .int (nI m290), .int (nI i), .int lv0]) (st := []) (st2 := [.int (-101)]) (c2 := 1) (s2 := 6) C (c_L_set1 l D ct a x _ (nI m290) (nI i) lv0 _ _ hM) (by rw [if_neg (fun z : 0 ≤ nI m290 ∧ nI m290 < nI q => absurd z.2 (nI_nlt (by omega) (by omega)))]) (by decide +kernel) (vx_cwSW 5 C.w gL_plays_L_set rfl rfl rfl (by decide +kernel) ⟨Nat.le_of_ble_eq_true rfl, Nat.le_of_ble_eq_true rfl⟩) dL_plays_417 rfl rfl (Nat.le_of_ble_eq_true rfl) ⟨Nat.le_of_ble_eq_true rfl, Nat.le_of_ble_eq_true rfl⟩ rfl rfl (hcd3I _) rfl rfl ?_
        refine q_iload (pc2 := 422) C 0 dL_plays_420 rfl rfl ?_
        refine q_icmp_ne (tgt := 429) (pc2 := 425) C dL_plays_422 (by decide) rfl (fun h9 => absurd (by decide) h9) (fun _ => ?_)
        refine q_iconst (v := nI 1) (pc2 := 426) C dL_plays_425 (by decide) rfl ?_
        refine q_goto (pc2 := 430) C dL_plays_426 (by decide) ?_
        exact q_zret C hQ rfl (rfl) (by omega) (by omega) dL_plays_430 ⟨rfl, _, _, _, _, _, _, _, rfl, (RE.mono (Nat.le_add_right M 50) ⟨n, h, q, b, t, kb, K, S, F, V, ht, r⟩)⟩
      · skip
        have k346 : m290 < q := (nI_ltI (a := m290) (b := q) (by omega) (by omega)).mp (Int32.not_le.mp c346)
        refine q_iconst (v := nI 1) (pc2 := 350) C dL_plays_349 (by decide) rfl ?_
        refine q_goto (pc2 := 354) C dL_plays_350 (by decide) ?_
        refine q_istore (lv' := [(9, .int (nI 1)), (11, .int lv0), (10, .int (nI m290)), (8, .int (nI i)), (0, .ref (a 30)), (1, .int (nI 1)), (2, .int y), (3, .ref (a 40)), (4, .ref (a 42)), (5, .ref (a 43)), (6, .ref (a 44)), (7, .ref (a 45))]) (pc2 := 356) C dL_plays_354 (by decide) rfl rfl ?_
        refine q_iload (pc2 := 358) C 0 dL_plays_356 rfl rfl ?_
        refine q_if_ne (tgt := 366) (pc2 := 361) C dL_plays_358 (by decide) rfl (fun _ => ?_) (fun h9 => absurd h9 (by decide))
        refine q_iload (pc2 := 368) C 1 dL_plays_366 rfl rfl ?_
        refine q_bipush (v := nI 100) (pc2 := 370) C dL_plays_368 (by decide) rfl ?_
        refine q_icmp_le (tgt := 378) (pc2 := 373) C dL_plays_370 (by decide) rfl (fun c370 => ?_) (fun c370 => ?_)
        · skip
          have hlv1 : lv0 = -1 ∨ ∃ m9, m9 ≤ 100 ∧ lv0 = nI m9 := by
            rcases hlv0 with w | ⟨m9, hm9, w⟩
            · exact Or.inl w
            · rw [w] at c370; have h9 := (nI_leI (b := 100) (by omega) (by omega)).mp c370; exact Or.inr ⟨m9, h9, w⟩
          have hlv2 : -1 ≤ lv0 ∧ lv0 ≤ 100 := ⟨by rcases hlv1 with w | ⟨m9, hm9, w⟩; rw [w]; exact Int32.le_refl _; rw [w]; exact Int32.le_trans (by decide) (nI_pos' (by omega)), c370⟩
          obtain ⟨hnm1, hnm2⟩ := hnam m290 (by omega) i (by omega)
          have hp9 : ¬ fn ((5 * m290) + i) ≤ -2 := by
            rcases hnm2 with w | ⟨m9, hm9, w⟩
            · rw [w]; decide
            · rw [w]; exact fun z => nI_pos (by omega) (Int32.lt_of_le_of_lt z (by decide))
          refine q_aload (pc2 := 380) C 10 dL_plays_378 rfl rfl ?_
          refine q_iconst (v := nI 5) (pc2 := 381) C dL_plays_380 (by decide) rfl ?_
          refine q_iload (pc2 := 383) C 2 dL_plays_381 rfl rfl ?_
          refine q_imul (v := nI (5 * m290)) (pc2 := 384) C dL_plays_383 (pk_mul 5 m290) rfl ?_
          refine q_iload (pc2 := 386) C 3 dL_plays_384 rfl rfl ?_
          refine q_iadd (v := nI ((5 * m290) + i)) (pc2 := 387) C dL_plays_386 (nI_add (5 * m290) i) rfl ?_
          refine q_iald (q0 := 30) (f := fn) (pc2 := 388) C ((5 * m290) + i) (wT_g4 ct a x fc fb fp fq fn fl) rfl (rfl) (by omega) (by decide) dL_plays_387 rfl ?_
          refine q_istore (lv' := [(12, .int (fn ((5 * m290) + i))), (9, .int (nI 1)), (11, .int lv0), (10, .int (nI m290)), (8, .int (nI i)), (0, .ref (a 30)), (1, .int (nI 1)), (2, .int y), (3, .ref (a 40)), (4, .ref (a 42)), (5, .ref (a 43)), (6, .ref (a 44)), (7, .ref (a 45))]) (pc2 := 390) C dL_plays_388 (by decide) rfl rfl ?_
          refine q_iload (pc2 := 392) C 0 dL_plays_390 rfl rfl ?_
          refine q_bipush (v := (-2)) (pc2 := 394) C dL_plays_392 (by decide) rfl ?_
          refine q_icmp_le (tgt := 409) (pc2 := 397) C dL_plays_394 (by decide) rfl (fun h9 => absurd h9 (hp9)) (fun _ => ?_)
          refine q_aload (pc2 := 399) C 11 dL_plays_397 rfl rfl ?_
          refine q_iconst (v := nI 5) (pc2 := 400) C dL_plays_399 (by decide) rfl ?_
          refine q_iload (pc2 := 402) C 3 dL_plays_400 rfl rfl ?_
          refine q_imul (v := nI (5 * m290)) (pc2 := 403) C dL_plays_402 (pk_mul 5 m290) rfl ?_
          refine q_iload (pc2 := 405) C 4 dL_plays_403 rfl rfl ?_
          refine q_iadd (v := nI ((5 * m290) + i)) (pc2 := 406) C dL_plays_405 (nI_add (5 * m290) i) rfl ?_
          refine q_iload (pc2 := 408) C 2 dL_plays_406 rfl rfl ?_
          refine q_iast (q0 := 30) (f := fn) (ws' := (wT ct a x fc fb fp fq (upd fn ((5 * m290) + i) lv0) fl)) (pc2 := 409) C ((5 * m290) + i) (wT_g4 ct a x fc fb fp fq fn fl) rfl (rfl) (by omega) (by decide) (wT_a4 ct a x fc fb fp fq fn fl (upd fn ((5 * m290) + i) lv0)) dL_plays_408 rfl ?_
          refine q_aload_n (pc2 := 410) C 5 dL_plays_409 rfl rfl rfl ?_
          refine q_iconst (v := nI 1) (pc2 := 411) C dL_plays_410 (by decide) rfl ?_
          refine q_iload (pc2 := 413) C 3 dL_plays_411 rfl rfl ?_
          refine q_iload (pc2 := 415) C 4 dL_plays_413 rfl rfl ?_
          refine q_iload (pc2 := 417) C 2 dL_plays_415 rfl rfl ?_
          have hM := c_X3_name l hl D ct a x n hx0 (by omega) q hx16 (by omega) (nI m290) (nI i) lv0
          rw [hx0, hx16, nI_clamp (show m290 < 2 ^ 31 by omega)] at hM
          rw [nI_clamp (show i < 2 ^ 31 by omega)] at hM
          refine q_Hok_wT (pc2 := 420) (As := [.ref (a 30), .int (nI 1), .int (nI m290), .int (nI i), .int lv0]) (st := []) (st2 := [.int (x 20 (10 * m290 + i))]) (x' := (set2 x 20 (upd (x 20) (10 * m290 + i) lv0))) C (c_L_set1 l D ct a x _ (nI m290) (nI i) lv0 _ _ hM) (by rw [if_pos (show 0 ≤ nI m290 ∧ nI m290 < nI q from ⟨nI_pos' (by omega), nI_lt (by omega) (by omega)⟩), if_pos (show 0 ≤ nI i ∧ nI i < nI n from ⟨nI_pos' (by omega), nI_lt hi (by omega)⟩), if_pos hlv2]) (vx_cwSW 5 C.w gL_plays_L_set rfl rfl rfl (by decide +kernel) ⟨Nat.le_of_ble_eq_true rfl, Nat.le_of_ble_eq_true rfl⟩) dL_plays_417 rfl rfl (Nat.le_of_ble_eq_true rfl) ⟨Nat.zero_le _, Nat.zero_le _⟩ rfl rfl ?_
          refine q_iload (pc2 := 422) C 0 dL_plays_420 rfl rfl ?_
          refine q_icmp_ne (tgt := 429) (pc2 := 425) C dL_plays_422 (by decide) rfl (fun h9 => absurd (hnm1) h9) (fun _ => ?_)
          refine q_iconst (v := nI 1) (pc2 := 426) C dL_plays_425 (by decide) rfl ?_
          refine q_goto (pc2 := 430) C dL_plays_426 (by decide) ?_
          exact q_zret C hQ rfl (rfl) (Nat.zero_le _) (Nat.zero_le _) dL_plays_430 ⟨rfl, _, _, _, _, _, _, _, rfl, ⟨n, h, q, b, t, kb, K, S, F, V, Nat.le_trans ht (Nat.le_add_right M 50), st_name r (by omega) hi hlv1⟩⟩
        · skip
          refine q_bipush (v := (-102)) (pc2 := 375) C dL_plays_373 (by decide) rfl ?_
          refine q_goto (pc2 := 388) C dL_plays_375 (by decide) ?_
          refine q_istore (lv' := [(12, .int (-102)), (9, .int (nI 1)), (11, .int lv0), (10, .int (nI m290)), (8, .int (nI i)), (0, .ref (a 30)), (1, .int (nI 1)), (2, .int y), (3, .ref (a 40)), (4, .ref (a 42)), (5, .ref (a 43)), (6, .ref (a 44)), (7, .ref (a 45))]) (pc2 := 390) C dL_plays_388 (by decide) rfl rfl ?_
          refine q_iload (pc2 := 392) C 0 dL_plays_390 rfl rfl ?_
          refine q_bipush (v := (-2)) (pc2 := 394) C dL_plays_392 (by decide) rfl ?_
          refine q_icmp_le (tgt := 409) (pc2 := 397) C dL_plays_394 (by decide) rfl (fun _ => ?_) (fun h9 => absurd (by decide) h9)
          refine q_aload_n (pc2 := 410) C 5 dL_plays_409 rfl rfl rfl ?_
          refine q_iconst (v := nI 1) (pc2 := 411) C dL_plays_410 (by decide) rfl ?_
          refine q_iload (pc2 := 413) C 3 dL_plays_411 rfl rfl ?_
          refine q_iload (pc2 := 415) C 4 dL_plays_413 rfl rfl ?_
          refine q_iload (pc2 := 417) C 2 dL_plays_415 rfl rfl ?_
          have hM := c_X3_name l hl D ct a x n hx0 (by omega) q hx16 (by omega) (nI m290) (nI i) lv0
          rw [hx0, hx16, nI_clamp (show m290 < 2 ^ 31 by omega)] at hM
          rw [nI_clamp (show i < 2 ^ 31 by omega)] at hM
          refine q_Hno_wT (pc2 := 420) (As := [.ref (a 30), .int (nI 1), .int (nI m290), .int (nI i), .int lv0]) (st := []) (st2 := [.int (-102)]) (c2 := 1) (s2 := 6) C (c_L_set1 l D ct a x _ (nI m290) (nI i) lv0 _ _ hM) (by rw [if_pos (show 0 ≤ nI m290 ∧ nI m290 < nI q from ⟨nI_pos' (by omega), nI_lt (by omega) (by omega)⟩), if_pos (show 0 ≤ nI i ∧ nI i < nI n from ⟨nI_pos' (by omega), nI_lt hi (by omega)⟩), if_neg (fun z : -1 ≤ lv0 ∧ lv0 ≤ 100 => c370 z.2)]) (by decide +kernel) (vx_cwSW 5 C.w gL_plays_L_set rfl rfl rfl (by decide +kernel) ⟨Nat.le_of_ble_eq_true rfl, Nat.le_of_ble_eq_true rfl⟩) dL_plays_417 rfl rfl (Nat.le_of_ble_eq_true rfl) ⟨Nat.le_of_ble_eq_true rfl, Nat.le_of_ble_eq_true rfl⟩ rfl rfl (hcd3A _) rfl rfl ?_
          refine q_iload (pc2 := 422) C 0 dL_plays_420 rfl rfl ?_
          refine q_icmp_ne (tgt := 429) (pc2 := 425) C dL_plays_422 (by decide) rfl (fun h9 => absurd (by decide) h9) (fun _ => ?_)
          refine q_iconst (v := nI 1) (pc2 := 426) C dL_plays_425 (by decide) rfl ?_
          refine q_goto (pc2 := 430) C dL_plays_426 (by decide) ?_
          exact q_zret C hQ rfl (rfl) (by omega) (by omega) dL_plays_430 ⟨rfl, _, _, _, _, _, _, _, rfl, (RE.mono (Nat.le_add_right M 50) ⟨n, h, q, b, t, kb, K, S, F, V, ht, r⟩)⟩
    refine q_iload_n (pc2 := 296) C 5 dL_plays_295 rfl rfl rfl ?_
    refine q_iconst (v := nI 5) (pc2 := 297) C dL_plays_296 (by decide) rfl ?_
    refine q_ishr (v := (y >>> (nI 5 &&& 31))) (pc2 := 298) C dL_plays_297 (rfl) rfl ?_
    refine q_bipush (v := nI 40) (pc2 := 300) C dL_plays_298 (by decide) rfl ?_
    refine q_some (pc2 := 303) C (v := (y >>> (nI 5 &&& 31))) 40 (by omega) (by omega) (va_cwS 2 C.w gL_plays_L_some rfl rfl rfl (by decide +kernel) ⟨Nat.le_of_ble_eq_true rfl, Nat.le_of_ble_eq_true rfl⟩) dL_plays_300 rfl ⟨Nat.le_of_ble_eq_true rfl, Nat.le_of_ble_eq_true rfl⟩ (Nat.le_of_ble_eq_true rfl) (fun m300 hm300 => ?_)
    refine q_if_ne (tgt := 311) (pc2 := 306) C dL_plays_303 (by decide) rfl (fun c303 => ?_) (fun c303 => ?_)
    · skip
      have k303 : m300 ≠ 0 := fun z => c303 ((nI_eq (a := m300) (b := 0) (by omega) (by omega)).mpr z)
      refine q_iload_n (pc2 := 312) C 5 dL_plays_311 rfl rfl rfl ?_
      refine q_iconst (v := nI 5) (pc2 := 313) C dL_plays_312 (by decide) rfl ?_
      refine q_ishr (v := (y >>> (nI 5 &&& 31))) (pc2 := 314) C dL_plays_313 (rfl) rfl ?_
      refine q_iconst (v := nI 4) (pc2 := 315) C dL_plays_314 (by decide) rfl ?_
      refine q_some (pc2 := 318) C (v := (y >>> (nI 5 &&& 31))) 4 (by omega) (by omega) (va_cwS 2 C.w gL_plays_L_some rfl rfl rfl (by decide +kernel) ⟨Nat.le_of_ble_eq_true rfl, Nat.le_of_ble_eq_true rfl⟩) dL_plays_315 rfl ⟨Nat.le_of_ble_eq_true rfl, Nat.le_of_ble_eq_true rfl⟩ (Nat.le_of_ble_eq_true rfl) (fun m315 hm315 => ?_)
      refine q_if_ne (tgt := 325) (pc2 := 321) C dL_plays_318 (by decide) rfl (fun c318 => ?_) (fun c318 => ?_)
      · skip
        have k318 : m315 ≠ 0 := fun z => c318 ((nI_eq (a := m315) (b := 0) (by omega) (by omega)).mpr z)
        refine q_iload_n (pc2 := 326) C 5 dL_plays_325 rfl rfl rfl ?_
        refine q_bipush (v := nI 6) (pc2 := 328) C dL_plays_326 (by decide) rfl ?_
        refine q_ishr (v := (y >>> (nI 6 &&& 31))) (pc2 := 329) C dL_plays_328 (rfl) rfl ?_
        refine q_bipush (v := nI 101) (pc2 := 331) C dL_plays_329 (by decide) rfl ?_
        refine q_some (pc2 := 334) C (v := (y >>> (nI 6 &&& 31))) 101 (by omega) (by omega) (va_cwS 2 C.w gL_plays_L_some rfl rfl rfl (by decide +kernel) ⟨Nat.le_of_ble_eq_true rfl, Nat.le_of_ble_eq_true rfl⟩) dL_plays_331 rfl ⟨Nat.le_of_ble_eq_true rfl, Nat.le_of_ble_eq_true rfl⟩ (Nat.le_of_ble_eq_true rfl) (fun m331 hm331 => ?_)
        exact hj334 (nI m331) (Or.inr ⟨m331, by omega, rfl⟩)
      · skip
        have k318 : m315 = 0 := (nI_eq (a := m315) (b := 0) (by omega) (by omega)).mp (c318)
        refine q_iconst (v := (-1)) (pc2 := 322) C dL_plays_321 (by decide) rfl ?_
        refine q_goto (pc2 := 334) C dL_plays_322 (by decide) ?_
        exact hj334 (-1) (Or.inl rfl)
    · skip
      have k303 : m300 = 0 := (nI_eq (a := m300) (b := 0) (by omega) (by omega)).mp (c303)
      refine q_bipush (v := nI 101) (pc2 := 308) C dL_plays_306 (by decide) rfl ?_
      refine q_goto (pc2 := 334) C dL_plays_308 (by decide) ?_
      exact hj334 (nI 101) (Or.inr ⟨101, by omega, rfl⟩)
  have hB : ∀ v : Int32, ¬ (0 ≤ v ∧ v < nI n) → Cf p l e ({ frames := 9, cells := 2, slots := 12, locals := 162 }) s m args below meth c D A 15 0 0 Q 49 [(9, .int (nI 0)), (8, .int v), (0, .ref (a 30)), (1, .int (nI 1)), (2, .int y), (3, .ref (a 40)), (4, .ref (a 42)), (5, .ref (a 43)), (6, .ref (a 44)), (7, .ref (a 45))] [] (wT ct a x fc fb fp fq fn fl) := by
    intro v hv
    refine q_iload_n (pc2 := 50) C 3 dL_plays_49 rfl rfl rfl ?_
    refine q_if_ne (tgt := 277) (pc2 := 53) C dL_plays_50 (by decide) rfl (fun _ => ?_) (fun h9 => absurd h9 (by decide))
    refine q_iload_n (pc2 := 278) C 3 dL_plays_277 rfl rfl rfl ?_
    refine q_iconst (v := nI 1) (pc2 := 279) C dL_plays_278 (by decide) rfl ?_
    refine q_icmp_ne (tgt := 431) (pc2 := 282) C dL_plays_279 (by decide) rfl (fun h9 => absurd (by decide) h9) (fun _ => ?_)
    refine q_iload_n (pc2 := 283) C 4 dL_plays_282 rfl rfl rfl ?_
    refine q_iconst (v := nI 3) (pc2 := 284) C dL_plays_283 (by decide) rfl ?_
    refine q_ishr (v := (y >>> (nI 3 &&& 31))) (pc2 := 285) C dL_plays_284 (rfl) rfl ?_
    refine q_aload_n (pc2 := 286) C 5 dL_plays_285 rfl rfl rfl ?_
    refine q_iconst (v := nI 4) (pc2 := 287) C dL_plays_286 (by decide) rfl ?_
    refine q_iald (q0 := 26) (f := fc) (pc2 := 288) C 4 (wT_g0 ct a x fc fb fp fq fn fl) rfl (rfl) (by decide) (by decide) dL_plays_287 rfl ?_
    refine q_eqi (y := nI q) (hc4) ?_
    refine q_iconst (v := nI 1) (pc2 := 289) C dL_plays_288 (by decide) rfl ?_
    refine q_iadd (v := nI (q + 1)) (pc2 := 290) C dL_plays_289 (nI_add q 1) rfl ?_
    refine q_some (pc2 := 293) C (v := (y >>> (nI 3 &&& 31))) (q + 1) (by omega) (by omega) (va_cwS 2 C.w gL_plays_L_some rfl rfl rfl (by decide +kernel) ⟨Nat.le_of_ble_eq_true rfl, Nat.le_of_ble_eq_true rfl⟩) dL_plays_290 rfl ⟨Nat.le_of_ble_eq_true rfl, Nat.le_of_ble_eq_true rfl⟩ (Nat.le_of_ble_eq_true rfl) (fun m290 hm290 => ?_)
    refine q_istore (lv' := [(10, .int (nI m290)), (9, .int (nI 0)), (8, .int v), (0, .ref (a 30)), (1, .int (nI 1)), (2, .int y), (3, .ref (a 40)), (4, .ref (a 42)), (5, .ref (a 43)), (6, .ref (a 44)), (7, .ref (a 45))]) (pc2 := 295) C dL_plays_293 (by decide) rfl rfl ?_
    have hj334 : ∀ lv0 : Int32, (lv0 = -1 ∨ ∃ m9, m9 ≤ 101 ∧ lv0 = nI m9) → Cf p l e ({ frames := 9, cells := 2, slots := 12, locals := 162 }) s m args below meth c D A 15 0 0 Q 334 [(10, .int (nI m290)), (9, .int (nI 0)), (8, .int v), (0, .ref (a 30)), (1, .int (nI 1)), (2, .int y), (3, .ref (a 40)), (4, .ref (a 42)), (5, .ref (a 43)), (6, .ref (a 44)), (7, .ref (a 45))] [.int lv0] (wT ct a x fc fb fp fq fn fl) := by
      intro lv0 hlv0
      refine q_istore (lv' := [(11, .int lv0), (10, .int (nI m290)), (9, .int (nI 0)), (8, .int v), (0, .ref (a 30)), (1, .int (nI 1)), (2, .int y), (3, .ref (a 40)), (4, .ref (a 42)), (5, .ref (a 43)), (6, .ref (a 44)), (7, .ref (a 45))]) (pc2 := 336) C dL_plays_334 (by decide) rfl rfl ?_
      refine q_iload (pc2 := 338) C 2 dL_plays_336 rfl rfl ?_
      refine q_if_eq (tgt := 353) (pc2 := 341) C dL_plays_338 (by decide) rfl (fun _ => ?_) (fun h9 => absurd (by decide) h9)
      refine q_iconst (v := nI 0) (pc2 := 354) C dL_plays_353 (by decide) rfl ?_
      refine q_istore (lv' := [(9, .int (nI 0)), (11, .int lv0), (10, .int (nI m290)), (8, .int v), (0, .ref (a 30)), (1, .int (nI 1)), (2, .int y), (3, .ref (a 40)), (4, .ref (a 42)), (5, .ref (a 43)), (6, .ref (a 44)), (7, .ref (a 45))]) (pc2 := 356) C dL_plays_354 (by decide) rfl rfl ?_
      refine q_iload (pc2 := 358) C 0 dL_plays_356 rfl rfl ?_
      refine q_if_ne (tgt := 366) (pc2 := 361) C dL_plays_358 (by decide) rfl (fun h9 => absurd (by decide) h9) (fun _ => ?_)
      refine q_bipush (v := (-101)) (pc2 := 363) C dL_plays_361 (by decide) rfl ?_
      refine q_goto (pc2 := 388) C dL_plays_363 (by decide) ?_
      refine q_istore (lv' := [(12, .int (-101)), (9, .int (nI 0)), (11, .int lv0), (10, .int (nI m290)), (8, .int v), (0, .ref (a 30)), (1, .int (nI 1)), (2, .int y), (3, .ref (a 40)), (4, .ref (a 42)), (5, .ref (a 43)), (6, .ref (a 44)), (7, .ref (a 45))]) (pc2 := 390) C dL_plays_388 (by decide) rfl rfl ?_
      refine q_iload (pc2 := 392) C 0 dL_plays_390 rfl rfl ?_
      refine q_bipush (v := (-2)) (pc2 := 394) C dL_plays_392 (by decide) rfl ?_
      refine q_icmp_le (tgt := 409) (pc2 := 397) C dL_plays_394 (by decide) rfl (fun _ => ?_) (fun h9 => absurd (by decide) h9)
      refine q_aload_n (pc2 := 410) C 5 dL_plays_409 rfl rfl rfl ?_
      refine q_iconst (v := nI 1) (pc2 := 411) C dL_plays_410 (by decide) rfl ?_
      refine q_iload (pc2 := 413) C 3 dL_plays_411 rfl rfl ?_
      refine q_iload (pc2 := 415) C 4 dL_plays_413 rfl rfl ?_
      refine q_iload (pc2 := 417) C 2 dL_plays_415 rfl rfl ?_
      have hM := c_X3_name l hl D ct a x n hx0 (by omega) q hx16 (by omega) (nI m290) (v) lv0
      rw [hx0, hx16, nI_clamp (show m290 < 2 ^ 31 by omega)] at hM
      refine q_Hno_wT (pc2 := 420) (As := [.ref (a 30), .int (nI 1), .int (nI m290), .int v, .int lv0]) (st := []) (st2 := [.int (-101)]) (c2 := 1) (s2 := 6) C (c_L_set1 l D ct a x _ (nI m290) (v) lv0 _ _ hM) (by by_cases z9 : 0 ≤ nI m290 ∧ nI m290 < nI q; rw [if_pos z9, if_neg hv]; rw [if_neg z9]) (by decide +kernel) (vx_cwSW 5 C.w gL_plays_L_set rfl rfl rfl (by decide +kernel) ⟨Nat.le_of_ble_eq_true rfl, Nat.le_of_ble_eq_true rfl⟩) dL_plays_417 rfl rfl (Nat.le_of_ble_eq_true rfl) ⟨Nat.le_of_ble_eq_true rfl, Nat.le_of_ble_eq_true rfl⟩ rfl rfl (hcd3I _) rfl rfl ?_
      refine q_iload (pc2 := 422) C 0 dL_plays_420 rfl rfl ?_
      refine q_icmp_ne (tgt := 429) (pc2 := 425) C dL_plays_422 (by decide) rfl (fun h9 => absurd (by decide) h9) (fun _ => ?_)
      refine q_iconst (v := nI 1) (pc2 := 426) C dL_plays_425 (by decide) rfl ?_
      refine q_goto (pc2 := 430) C dL_plays_426 (by decide) ?_
      exact q_zret C hQ rfl (rfl) (by omega) (by omega) dL_plays_430 ⟨rfl, _, _, _, _, _, _, _, rfl, (RE.mono (Nat.le_add_right M 50) ⟨n, h, q, b, t, kb, K, S, F, V, ht, r⟩)⟩
    refine q_iload_n (pc2 := 296) C 5 dL_plays_295 rfl rfl rfl ?_
    refine q_iconst (v := nI 5) (pc2 := 297) C dL_plays_296 (by decide) rfl ?_
    refine q_ishr (v := (y >>> (nI 5 &&& 31))) (pc2 := 298) C dL_plays_297 (rfl) rfl ?_
    refine q_bipush (v := nI 40) (pc2 := 300) C dL_plays_298 (by decide) rfl ?_
    refine q_some (pc2 := 303) C (v := (y >>> (nI 5 &&& 31))) 40 (by omega) (by omega) (va_cwS 2 C.w gL_plays_L_some rfl rfl rfl (by decide +kernel) ⟨Nat.le_of_ble_eq_true rfl, Nat.le_of_ble_eq_true rfl⟩) dL_plays_300 rfl ⟨Nat.le_of_ble_eq_true rfl, Nat.le_of_ble_eq_true rfl⟩ (Nat.le_of_ble_eq_true rfl) (fun m300 hm300 => ?_)
    refine q_if_ne (tgt := 311) (pc2 := 306) C dL_plays_303 (by decide) rfl (fun c303 => ?_) (fun c303 => ?_)
    · skip
      have k303 : m300 ≠ 0 := fun z => c303 ((nI_eq (a := m300) (b := 0) (by omega) (by omega)).mpr z)
      refine q_iload_n (pc2 := 312) C 5 dL_plays_311 rfl rfl rfl ?_
      refine q_iconst (v := nI 5) (pc2 := 313) C dL_plays_312 (by decide) rfl ?_
      refine q_ishr (v := (y >>> (nI 5 &&& 31))) (pc2 := 314) C dL_plays_313 (rfl) rfl ?_
      refine q_iconst (v := nI 4) (pc2 := 315) C dL_plays_314 (by decide) rfl ?_
      refine q_some (pc2 := 318) C (v := (y >>> (nI 5 &&& 31))) 4 (by omega) (by omega) (va_cwS 2 C.w gL_plays_L_some rfl rfl rfl (by decide +kernel) ⟨Nat.le_of_ble_eq_true rfl, Nat.le_of_ble_eq_true rfl⟩) dL_plays_315 rfl ⟨Nat.le_of_ble_eq_true rfl, Nat.le_of_ble_eq_true rfl⟩ (Nat.le_of_ble_eq_true rfl) (fun m315 hm315 => ?_)
      refine q_if_ne (tgt := 325) (pc2 := 321) C dL_plays_318 (by decide) rfl (fun c318 => ?_) (fun c318 => ?_)
      · skip
        have k318 : m315 ≠ 0 := fun z => c318 ((nI_eq (a := m315) (b := 0) (by omega) (by omega)).mpr z)
        refine q_iload_n (pc2 := 326) C 5 dL_plays_325 rfl rfl rfl ?_
        refine q_bipush (v := nI 6) (pc2 := 328) C dL_plays_326 (by decide) rfl ?_
        refine q_ishr (v := (y >>> (nI 6 &&& 31))) (pc2 := 329) C dL_plays_328 (rfl) rfl ?_
        refine q_bipush (v := nI 101) (pc2 := 331) C dL_plays_329 (by decide) rfl ?_
        refine q_some (pc2 := 334) C (v := (y >>> (nI 6 &&& 31))) 101 (by omega) (by omega) (va_cwS 2 C.w gL_plays_L_some rfl rfl rfl (by decide +kernel) ⟨Nat.le_of_ble_eq_true rfl, Nat.le_of_ble_eq_true rfl⟩) dL_plays_331 rfl ⟨Nat.le_of_ble_eq_true rfl, Nat.le_of_ble_eq_true rfl⟩ (Nat.le_of_ble_eq_true rfl) (fun m331 hm331 => ?_)
        exact hj334 (nI m331) (Or.inr ⟨m331, by omega, rfl⟩)
      · skip
        have k318 : m315 = 0 := (nI_eq (a := m315) (b := 0) (by omega) (by omega)).mp (c318)
        refine q_iconst (v := (-1)) (pc2 := 322) C dL_plays_321 (by decide) rfl ?_
        refine q_goto (pc2 := 334) C dL_plays_322 (by decide) ?_
        exact hj334 (-1) (Or.inl rfl)
    · skip
      have k303 : m300 = 0 := (nI_eq (a := m300) (b := 0) (by omega) (by omega)).mp (c303)
      refine q_bipush (v := nI 101) (pc2 := 308) C dL_plays_306 (by decide) rfl ?_
      refine q_goto (pc2 := 334) C dL_plays_308 (by decide) ?_
      exact hj334 (nI 101) (Or.inr ⟨101, by omega, rfl⟩)
  refine q_iload_n (pc2 := 1) C 2 dL_plays_0 rfl rfl rfl ?_
  refine q_aload_n (pc2 := 2) C 3 dL_plays_1 rfl rfl rfl ?_
  refine q_iconst (v := nI 3) (pc2 := 3) C dL_plays_2 (by decide) rfl ?_
  refine q_iald (q0 := 26) (f := fc) (pc2 := 4) C 3 (wT_g0 ct a x fc fb fp fq fn fl) rfl (rfl) (by decide) (by decide) dL_plays_3 rfl ?_
  refine q_eqi (y := nI n) (hc3) ?_
  refine q_iconst (v := nI 1) (pc2 := 5) C dL_plays_4 (by decide) rfl ?_
  refine q_iadd (v := nI (n + 1)) (pc2 := 6) C dL_plays_5 (nI_add n 1) rfl ?_
  refine q_some (pc2 := 9) C (v := y) (n + 1) (by omega) (by omega) (va_cwS 2 C.w gL_plays_L_some rfl rfl rfl (by decide +kernel) ⟨Nat.le_of_ble_eq_true rfl, Nat.le_of_ble_eq_true rfl⟩) dL_plays_6 rfl ⟨Nat.le_of_ble_eq_true rfl, Nat.le_of_ble_eq_true rfl⟩ (Nat.le_of_ble_eq_true rfl) (fun m6 hm6 => ?_)
  have hj26 : ∀ e1 : Nat, (e1 ≤ 1) → Cf p l e ({ frames := 9, cells := 2, slots := 12, locals := 162 }) s m args below meth c D A 15 0 0 Q 26 [(0, .ref (a 30)), (1, .int (nI 1)), (2, .int y), (3, .ref (a 40)), (4, .ref (a 42)), (5, .ref (a 43)), (6, .ref (a 44)), (7, .ref (a 45))] [.int (nI e1), .int (nI m6)] (wT ct a x fc fb fp fq fn fl) := by
    intro e1 he1
    rcases pick_lamp hn5 hm6 he1 with ⟨i, hi, ei⟩ | hv
    · skip
      refine q_isub (v := nI i) (pc2 := 27) C dL_plays_26 (ei) rfl ?_
      refine q_istore (lv' := [(8, .int (nI i)), (0, .ref (a 30)), (1, .int (nI 1)), (2, .int y), (3, .ref (a 40)), (4, .ref (a 42)), (5, .ref (a 43)), (6, .ref (a 44)), (7, .ref (a 45))]) (pc2 := 29) C dL_plays_27 (by decide) rfl rfl ?_
      refine q_iload (pc2 := 31) C 0 dL_plays_29 rfl rfl ?_
      refine q_if_lt (tgt := 46) (pc2 := 34) C dL_plays_31 (by decide) rfl (fun h9 => absurd h9 (nI_nlt (a := i) (b := 0) (by omega) (by omega))) (fun _ => ?_)
      refine q_iload (pc2 := 36) C 0 dL_plays_34 rfl rfl ?_
      refine q_aload_n (pc2 := 37) C 4 dL_plays_36 rfl rfl rfl ?_
      refine q_iconst (v := nI 3) (pc2 := 38) C dL_plays_37 (by decide) rfl ?_
      refine q_iald (q0 := 26) (f := fc) (pc2 := 39) C 3 (wT_g0 ct a x fc fb fp fq fn fl) rfl (rfl) (by decide) (by decide) dL_plays_38 rfl ?_
      refine q_eqi (y := nI n) (hc3) ?_
      refine q_icmp_ge (tgt := 46) (pc2 := 42) C dL_plays_39 (by decide) rfl (fun h9 => absurd h9 (nI_ge (a := i) (b := n) (by omega) (by omega))) (fun _ => ?_)
      refine q_iconst (v := nI 1) (pc2 := 43) C dL_plays_42 (by decide) rfl ?_
      refine q_goto (pc2 := 47) C dL_plays_43 (by decide) ?_
      refine q_istore (lv' := [(9, .int (nI 1)), (8, .int (nI i)), (0, .ref (a 30)), (1, .int (nI 1)), (2, .int y), (3, .ref (a 40)), (4, .ref (a 42)), (5, .ref (a 43)), (6, .ref (a 44)), (7, .ref (a 45))]) (pc2 := 49) C dL_plays_47 (by decide) rfl rfl ?_
      exact hA i hi
    · skip
      refine q_isub (v := (nI m6 - nI e1)) (pc2 := 27) C dL_plays_26 (rfl) rfl ?_
      refine q_istore (lv' := [(8, .int (nI m6 - nI e1)), (0, .ref (a 30)), (1, .int (nI 1)), (2, .int y), (3, .ref (a 40)), (4, .ref (a 42)), (5, .ref (a 43)), (6, .ref (a 44)), (7, .ref (a 45))]) (pc2 := 29) C dL_plays_27 (by decide) rfl rfl ?_
      refine q_iload (pc2 := 31) C 0 dL_plays_29 rfl rfl ?_
      refine q_if_lt (tgt := 46) (pc2 := 34) C dL_plays_31 (by decide) rfl (fun c31 => ?_) (fun c31 => ?_)
      · skip
        refine q_iconst (v := nI 0) (pc2 := 47) C dL_plays_46 (by decide) rfl ?_
        refine q_istore (lv' := [(9, .int (nI 0)), (8, .int (nI m6 - nI e1)), (0, .ref (a 30)), (1, .int (nI 1)), (2, .int y), (3, .ref (a 40)), (4, .ref (a 42)), (5, .ref (a 43)), (6, .ref (a 44)), (7, .ref (a 45))]) (pc2 := 49) C dL_plays_47 (by decide) rfl rfl ?_
        exact hB _ hv
      · skip
        refine q_iload (pc2 := 36) C 0 dL_plays_34 rfl rfl ?_
        refine q_aload_n (pc2 := 37) C 4 dL_plays_36 rfl rfl rfl ?_
        refine q_iconst (v := nI 3) (pc2 := 38) C dL_plays_37 (by decide) rfl ?_
        refine q_iald (q0 := 26) (f := fc) (pc2 := 39) C 3 (wT_g0 ct a x fc fb fp fq fn fl) rfl (rfl) (by decide) (by decide) dL_plays_38 rfl ?_
        refine q_eqi (y := nI n) (hc3) ?_
        refine q_icmp_ge (tgt := 46) (pc2 := 42) C dL_plays_39 (by decide) rfl (fun _ => ?_) (fun h9 => absurd (Int32.not_lt.mp (fun z9 => hv ⟨Int32.not_lt.mp c31, z9⟩)) h9)
        refine q_iconst (v := nI 0) (pc2 := 47) C dL_plays_46 (by decide) rfl ?_
        refine q_istore (lv' := [(9, .int (nI 0)), (8, .int (nI m6 - nI e1)), (0, .ref (a 30)), (1, .int (nI 1)), (2, .int y), (3, .ref (a 40)), (4, .ref (a 42)), (5, .ref (a 43)), (6, .ref (a 44)), (7, .ref (a 45))]) (pc2 := 49) C dL_plays_47 (by decide) rfl rfl ?_
        exact hB _ hv
  refine q_iload_n (pc2 := 10) C 2 dL_plays_9 rfl rfl rfl ?_
  refine q_bipush (v := nI 11) (pc2 := 12) C dL_plays_10 (by decide) rfl ?_
  refine q_ishr (v := (y >>> (nI 11 &&& 31))) (pc2 := 13) C dL_plays_12 (rfl) rfl ?_
  refine q_bipush (v := nI 19) (pc2 := 15) C dL_plays_13 (by decide) rfl ?_
  refine q_some (pc2 := 18) C (v := (y >>> (nI 11 &&& 31))) 19 (by omega) (by omega) (va_cwS 2 C.w gL_plays_L_some rfl rfl rfl (by decide +kernel) ⟨Nat.le_of_ble_eq_true rfl, Nat.le_of_ble_eq_true rfl⟩) dL_plays_15 rfl ⟨Nat.le_of_ble_eq_true rfl, Nat.le_of_ble_eq_true rfl⟩ (Nat.le_of_ble_eq_true rfl) (fun m15 hm15 => ?_)
  refine q_if_ne (tgt := 25) (pc2 := 21) C dL_plays_18 (by decide) rfl (fun c18 => ?_) (fun c18 => ?_)
  · skip
    have k18 : m15 ≠ 0 := fun z => c18 ((nI_eq (a := m15) (b := 0) (by omega) (by omega)).mpr z)
    refine q_iconst (v := nI 0) (pc2 := 26) C dL_plays_25 (by decide) rfl ?_
    exact hj26 0 (by omega)
  · skip
    have k18 : m15 = 0 := (nI_eq (a := m15) (b := 0) (by omega) (by omega)).mp (c18)
    refine q_iconst (v := nI 1) (pc2 := 22) C dL_plays_21 (by decide) rfl ?_
    refine q_goto (pc2 := 26) C dL_plays_22 (by decide) ?_
    exact hj26 1 (by omega)

