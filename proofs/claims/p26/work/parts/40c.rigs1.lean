/-! rigs: a lamp -/
set_option maxHeartbeats 4000000 in
set_option maxRecDepth 100000 in
theorem c_L_rigs_1 (l : Launch) (D : va_G) (ct : Nat → ClassId) (hl : l.stackTraces = false) (a : Nat → Nat) (x : Nat → Nat → Int32) (fc fb fp fq fn fl : Nat → Int32) (y : Int32) (M : Nat) (r0 : RE M x fc fb fp fq fn fl) : qM l yL_rigs wsL_rigs ({ frames := 9, cells := 2, slots := 12, locals := 160 }) D ct [.ref (a 30), .int (nI 1), .int y, .ref (a 40), .ref (a 41), .ref (a 42)] (wT ct a x fc fb fp fq fn fl) (pR ct a (M + 50)) 2 12 := by
  refine q_start (ret := some .boolean) (lv := [(0, .ref (a 30)), (1, .int (nI 1)), (2, .int y), (3, .ref (a 40)), (4, .ref (a 41)), (5, .ref (a 42))]) (by decide +kernel) rfl (Nat.le_of_ble_eq_true rfl) rfl ?_
  intro p e s m args below meth c A Q C hQ hnm
  obtain ⟨n, h, q, b, t, kb, K, S, F, V, ht, r⟩ := r0
  obtain ⟨rh, rl, rr, rp, rc, rs, hbq⟩ := id r
  obtain ⟨hlt, hx4, hc0, hkbs, hlen⟩ := id rh
  obtain ⟨hn5, hx0, hc3, hlow, hall, hhigh⟩ := id rl
  obtain ⟨hq4, hx16, hc4, hcue, hfd, hnam, hnaz⟩ := id rc
  obtain ⟨hx22, hc5, hx21, hc7, hc6, hx23, hfl, hlvr, hlev⟩ := id rs
  obtain ⟨hkb2, hx5, hck⟩ := hkbs h hlt
  have hK : ∀ k, k < n → fp k = nI (K k) ∧ K k < 4 := fun k hk => ⟨(hlow k hk).2.1, (hlow k hk).1⟩
  have hb4 : b ≤ 4 := by omega
  have hG : ∀ v z : Int32, Cf p l e ({ frames := 9, cells := 2, slots := 12, locals := 160 }) s m args below meth c D A 14 0 0 Q 49 [(7, .int z), (6, .int v), (0, .ref (a 30)), (1, .int (nI 1)), (2, .int y), (3, .ref (a 40)), (4, .ref (a 41)), (5, .ref (a 42))] [] (wT ct a x fc fb fp fq fn fl) := by
    intro v z
    refine q_iload_n (pc2 := 50) C 3 dL_rigs_49 rfl rfl rfl ?_
    refine q_if_ne (tgt := 267) (pc2 := 53) C dL_rigs_50 (by decide) rfl (fun _ => ?_) (fun h9 => absurd h9 (by decide))
    refine q_iload_n (pc2 := 268) C 3 dL_rigs_267 rfl rfl rfl ?_
    refine q_iconst (v := nI 1) (pc2 := 269) C dL_rigs_268 (by decide) rfl ?_
    refine q_icmp_ne (tgt := 448) (pc2 := 272) C dL_rigs_269 (by decide) rfl (fun h9 => absurd (by decide) h9) (fun _ => ?_)
    have hj292 : ∀ kd : Nat, (kd ≤ 4) → Cf p l e ({ frames := 9, cells := 2, slots := 12, locals := 160 }) s m args below meth c D A 14 0 0 Q 292 [(7, .int z), (6, .int v), (0, .ref (a 30)), (1, .int (nI 1)), (2, .int y), (3, .ref (a 40)), (4, .ref (a 41)), (5, .ref (a 42))] [.int (nI kd)] (wT ct a x fc fb fp fq fn fl) := by
      intro kd hkd
      refine q_istore (lv' := [(8, .int (nI kd)), (7, .int z), (6, .int v), (0, .ref (a 30)), (1, .int (nI 1)), (2, .int y), (3, .ref (a 40)), (4, .ref (a 41)), (5, .ref (a 42))]) (pc2 := 294) C dL_rigs_292 (by decide) rfl rfl ?_
      have hj318 : ∀ co : Nat, (co ≤ 21) → Cf p l e ({ frames := 9, cells := 2, slots := 12, locals := 160 }) s m args below meth c D A 14 0 0 Q 318 [(8, .int (nI kd)), (7, .int z), (6, .int v), (0, .ref (a 30)), (1, .int (nI 1)), (2, .int y), (3, .ref (a 40)), (4, .ref (a 41)), (5, .ref (a 42))] [.int (nI co)] (wT ct a x fc fb fp fq fn fl) := by
        intro co hco
        refine q_istore (lv' := [(9, .int (nI co)), (8, .int (nI kd)), (7, .int z), (6, .int v), (0, .ref (a 30)), (1, .int (nI 1)), (2, .int y), (3, .ref (a 40)), (4, .ref (a 41)), (5, .ref (a 42))]) (pc2 := 320) C dL_rigs_318 (by decide) rfl rfl ?_
        refine q_iload (pc2 := 322) C 1 dL_rigs_320 rfl rfl ?_
        refine q_iconst (v := nI 4) (pc2 := 323) C dL_rigs_322 (by decide) rfl ?_
        refine q_icmp_ge (tgt := 337) (pc2 := 326) C dL_rigs_323 (by decide) rfl (fun c323 => ?_) (fun c323 => ?_)
        · skip
          have k323 : 4 ≤ kd := (nI_leI (a := 4) (b := kd) (by omega) (by omega)).mp c323
          refine q_iconst (v := nI 0) (pc2 := 338) C dL_rigs_337 (by decide) rfl ?_
          refine q_istore (lv' := [(10, .int (nI 0)), (9, .int (nI co)), (8, .int (nI kd)), (7, .int z), (6, .int v), (0, .ref (a 30)), (1, .int (nI 1)), (2, .int y), (3, .ref (a 40)), (4, .ref (a 41)), (5, .ref (a 42))]) (pc2 := 340) C dL_rigs_338 (by decide) rfl rfl ?_
          refine q_iload (pc2 := 342) C 0 dL_rigs_340 rfl rfl ?_
          refine q_if_eq (tgt := 354) (pc2 := 345) C dL_rigs_342 (by decide) rfl (fun _ => ?_) (fun h9 => absurd (by decide) h9)
          refine q_iload (pc2 := 356) C 0 dL_rigs_354 rfl rfl ?_
          refine q_if_eq (tgt := 414) (pc2 := 359) C dL_rigs_356 (by decide) rfl (fun _ => ?_) (fun h9 => absurd (by decide) h9)
          refine q_aload_n (pc2 := 415) C 5 dL_rigs_414 rfl rfl rfl ?_
          refine q_iconst (v := nI 0) (pc2 := 416) C dL_rigs_415 (by decide) rfl ?_
          refine q_iload (pc2 := 418) C 2 dL_rigs_416 rfl rfl ?_
          refine q_iload (pc2 := 420) C 1 dL_rigs_418 rfl rfl ?_
          refine q_iconst (v := nI 0) (pc2 := 421) C dL_rigs_420 (by decide) rfl ?_
          have hM := c_X3_lamp l hl D ct a x n hx0 (by omega) (nI kd) (nI co)
          refine q_Hno_wT (pc2 := 424) (As := [.ref (a 30), .int (nI 0), .int (nI kd), .int (nI co), .int (nI 0)]) (st := []) (st2 := [.int (-101)]) (c2 := 1) (s2 := 6) C (c_L_made0 l D ct a x _ (nI kd) (nI co) (nI 0) _ _ hM) (by rw [if_neg (fun z : 0 ≤ nI kd ∧ nI kd ≤ 3 => absurd z.2 (nI_ge (b := kd) (a := 3) (by omega) (by omega)))]) (by decide +kernel) (vx_cwSW 5 C.w gL_rigs_L_made rfl rfl rfl (by decide +kernel) ⟨Nat.le_of_ble_eq_true rfl, Nat.le_of_ble_eq_true rfl⟩) dL_rigs_421 rfl rfl (Nat.le_of_ble_eq_true rfl) ⟨Nat.le_of_ble_eq_true rfl, Nat.le_of_ble_eq_true rfl⟩ rfl rfl (hcd2A _) rfl rfl ?_
          refine q_iload (pc2 := 426) C 0 dL_rigs_424 rfl rfl ?_
          refine q_if_eq (tgt := 437) (pc2 := 429) C dL_rigs_426 (by decide) rfl (fun _ => ?_) (fun h9 => absurd (by decide) h9)
          refine q_bipush (v := (-101)) (pc2 := 439) C dL_rigs_437 (by decide) rfl ?_
          refine q_icmp_ne (tgt := 446) (pc2 := 442) C dL_rigs_439 (by decide) rfl (fun h9 => absurd (by decide) h9) (fun _ => ?_)
          refine q_iconst (v := nI 1) (pc2 := 443) C dL_rigs_442 (by decide) rfl ?_
          refine q_goto (pc2 := 447) C dL_rigs_443 (by decide) ?_
          exact q_zret C hQ rfl (rfl) (by omega) (by omega) dL_rigs_447 ⟨rfl, _, _, _, _, _, _, _, rfl, (RE.mono (Nat.le_add_right M 50) ⟨n, h, q, b, t, kb, K, S, F, V, ht, r⟩)⟩
        · skip
          have k323 : kd < 4 := (nI_ltI (a := kd) (b := 4) (by omega) (by omega)).mp (Int32.not_le.mp c323)
          refine q_iload (pc2 := 328) C 0 dL_rigs_326 rfl rfl ?_
          refine q_bipush (v := nI 21) (pc2 := 330) C dL_rigs_328 (by decide) rfl ?_
          refine q_icmp_ge (tgt := 337) (pc2 := 333) C dL_rigs_330 (by decide) rfl (fun c330 => ?_) (fun c330 => ?_)
          · skip
            have k330 : 21 ≤ co := (nI_leI (a := 21) (b := co) (by omega) (by omega)).mp c330
            refine q_iconst (v := nI 0) (pc2 := 338) C dL_rigs_337 (by decide) rfl ?_
            refine q_istore (lv' := [(10, .int (nI 0)), (9, .int (nI co)), (8, .int (nI kd)), (7, .int z), (6, .int v), (0, .ref (a 30)), (1, .int (nI 1)), (2, .int y), (3, .ref (a 40)), (4, .ref (a 41)), (5, .ref (a 42))]) (pc2 := 340) C dL_rigs_338 (by decide) rfl rfl ?_
            refine q_iload (pc2 := 342) C 0 dL_rigs_340 rfl rfl ?_
            refine q_if_eq (tgt := 354) (pc2 := 345) C dL_rigs_342 (by decide) rfl (fun _ => ?_) (fun h9 => absurd (by decide) h9)
            refine q_iload (pc2 := 356) C 0 dL_rigs_354 rfl rfl ?_
            refine q_if_eq (tgt := 414) (pc2 := 359) C dL_rigs_356 (by decide) rfl (fun _ => ?_) (fun h9 => absurd (by decide) h9)
            refine q_aload_n (pc2 := 415) C 5 dL_rigs_414 rfl rfl rfl ?_
            refine q_iconst (v := nI 0) (pc2 := 416) C dL_rigs_415 (by decide) rfl ?_
            refine q_iload (pc2 := 418) C 2 dL_rigs_416 rfl rfl ?_
            refine q_iload (pc2 := 420) C 1 dL_rigs_418 rfl rfl ?_
            refine q_iconst (v := nI 0) (pc2 := 421) C dL_rigs_420 (by decide) rfl ?_
            have hM := c_X3_lamp l hl D ct a x n hx0 (by omega) (nI kd) (nI co)
            refine q_Hno_wT (pc2 := 424) (As := [.ref (a 30), .int (nI 0), .int (nI kd), .int (nI co), .int (nI 0)]) (st := []) (st2 := [.int (-101)]) (c2 := 1) (s2 := 6) C (c_L_made0 l D ct a x _ (nI kd) (nI co) (nI 0) _ _ hM) (by rw [if_pos (show 0 ≤ nI kd ∧ nI kd ≤ 3 from ⟨nI_pos' (by omega), nI_le (b := 3) (by omega) (by omega)⟩), if_neg (fun z : 0 ≤ nI co ∧ nI co ≤ 20 => absurd z.2 (nI_ge (b := co) (a := 20) (by omega) (by omega)))]) (by decide +kernel) (vx_cwSW 5 C.w gL_rigs_L_made rfl rfl rfl (by decide +kernel) ⟨Nat.le_of_ble_eq_true rfl, Nat.le_of_ble_eq_true rfl⟩) dL_rigs_421 rfl rfl (Nat.le_of_ble_eq_true rfl) ⟨Nat.le_of_ble_eq_true rfl, Nat.le_of_ble_eq_true rfl⟩ rfl rfl (hcd2A _) rfl rfl ?_
            refine q_iload (pc2 := 426) C 0 dL_rigs_424 rfl rfl ?_
            refine q_if_eq (tgt := 437) (pc2 := 429) C dL_rigs_426 (by decide) rfl (fun _ => ?_) (fun h9 => absurd (by decide) h9)
            refine q_bipush (v := (-101)) (pc2 := 439) C dL_rigs_437 (by decide) rfl ?_
            refine q_icmp_ne (tgt := 446) (pc2 := 442) C dL_rigs_439 (by decide) rfl (fun h9 => absurd (by decide) h9) (fun _ => ?_)
            refine q_iconst (v := nI 1) (pc2 := 443) C dL_rigs_442 (by decide) rfl ?_
            refine q_goto (pc2 := 447) C dL_rigs_443 (by decide) ?_
            exact q_zret C hQ rfl (rfl) (by omega) (by omega) dL_rigs_447 ⟨rfl, _, _, _, _, _, _, _, rfl, (RE.mono (Nat.le_add_right M 50) ⟨n, h, q, b, t, kb, K, S, F, V, ht, r⟩)⟩
          · skip
            have k330 : co < 21 := (nI_ltI (a := co) (b := 21) (by omega) (by omega)).mp (Int32.not_le.mp c330)
            refine q_iconst (v := nI 1) (pc2 := 334) C dL_rigs_333 (by decide) rfl ?_
            refine q_goto (pc2 := 338) C dL_rigs_334 (by decide) ?_
            refine q_istore (lv' := [(10, .int (nI 1)), (9, .int (nI co)), (8, .int (nI kd)), (7, .int z), (6, .int v), (0, .ref (a 30)), (1, .int (nI 1)), (2, .int y), (3, .ref (a 40)), (4, .ref (a 41)), (5, .ref (a 42))]) (pc2 := 340) C dL_rigs_338 (by decide) rfl rfl ?_
            refine q_iload (pc2 := 342) C 0 dL_rigs_340 rfl rfl ?_
            refine q_if_eq (tgt := 354) (pc2 := 345) C dL_rigs_342 (by decide) rfl (fun h9 => absurd h9 (by decide)) (fun _ => ?_)
            refine q_aload_n (pc2 := 346) C 8 dL_rigs_345 rfl rfl rfl ?_
            refine q_iconst (v := nI 3) (pc2 := 347) C dL_rigs_346 (by decide) rfl ?_
            refine q_iald (q0 := 26) (f := fc) (pc2 := 348) C 3 (wT_g0 ct a x fc fb fp fq fn fl) rfl (rfl) (by decide) (by decide) dL_rigs_347 rfl ?_
            refine q_eqi (y := nI n) (hc3) ?_
            refine q_iconst (v := nI 5) (pc2 := 349) C dL_rigs_348 (by decide) rfl ?_
            refine q_icmp_ne (tgt := 354) (pc2 := 352) C dL_rigs_349 (by decide) rfl (fun c349 => ?_) (fun c349 => ?_)
            · skip
              have k349 : n ≠ 5 := fun z => c349 ((nI_eq (a := n) (b := 5) (by omega) (by omega)).mpr z)
              refine q_iload (pc2 := 356) C 0 dL_rigs_354 rfl rfl ?_
              refine q_if_eq (tgt := 414) (pc2 := 359) C dL_rigs_356 (by decide) rfl (fun h9 => absurd h9 (by decide)) (fun _ => ?_)
              refine q_aload (pc2 := 361) C 10 dL_rigs_359 rfl rfl ?_
              refine q_aload_n (pc2 := 362) C 8 dL_rigs_361 rfl rfl rfl ?_
              refine q_iconst (v := nI 3) (pc2 := 363) C dL_rigs_362 (by decide) rfl ?_
              refine q_iald (q0 := 26) (f := fc) (pc2 := 364) C 3 (wT_g0 ct a x fc fb fp fq fn fl) rfl (rfl) (by decide) (by decide) dL_rigs_363 rfl ?_
              refine q_eqi (y := nI n) (hc3) ?_
              refine q_iload (pc2 := 366) C 2 dL_rigs_364 rfl rfl ?_
              refine q_iast (q0 := 28) (f := fp) (ws' := (wT ct a x fc fb (upd fp n (nI kd)) fq fn fl)) (pc2 := 367) C n (wT_g2 ct a x fc fb fp fq fn fl) rfl (rfl) (by omega) (by decide) (wT_a2 ct a x fc fb fp fq fn fl (upd fp n (nI kd))) dL_rigs_366 rfl ?_
              refine q_aload (pc2 := 369) C 10 dL_rigs_367 rfl rfl ?_
              refine q_iconst (v := nI 5) (pc2 := 370) C dL_rigs_369 (by decide) rfl ?_
              refine q_aload_n (pc2 := 371) C 8 dL_rigs_370 rfl rfl rfl ?_
              refine q_iconst (v := nI 3) (pc2 := 372) C dL_rigs_371 (by decide) rfl ?_
              refine q_iald (q0 := 26) (f := fc) (pc2 := 373) C 3 (wT_g0 ct a x fc fb (upd fp n (nI kd)) fq fn fl) rfl (rfl) (by decide) (by decide) dL_rigs_372 rfl ?_
              refine q_eqi (y := nI n) (hc3) ?_
              refine q_iadd (v := nI (5 + n)) (pc2 := 374) C dL_rigs_373 (nI_add 5 n) rfl ?_
              refine q_iload (pc2 := 376) C 1 dL_rigs_374 rfl rfl ?_
              refine q_iast (q0 := 28) (f := (upd fp n (nI kd))) (ws' := (wT ct a x fc fb (upd (upd fp n (nI kd)) (5 + n) (nI co)) fq fn fl)) (pc2 := 377) C (5 + n) (wT_g2 ct a x fc fb (upd fp n (nI kd)) fq fn fl) rfl (rfl) (by omega) (by decide) (wT_a2 ct a x fc fb (upd fp n (nI kd)) fq fn fl (upd (upd fp n (nI kd)) (5 + n) (nI co))) dL_rigs_376 rfl ?_
              refine q_aload (pc2 := 379) C 10 dL_rigs_377 rfl rfl ?_
              refine q_bipush (v := nI 10) (pc2 := 381) C dL_rigs_379 (by decide) rfl ?_
              refine q_aload_n (pc2 := 382) C 8 dL_rigs_381 rfl rfl rfl ?_
              refine q_iconst (v := nI 3) (pc2 := 383) C dL_rigs_382 (by decide) rfl ?_
              refine q_iald (q0 := 26) (f := fc) (pc2 := 384) C 3 (wT_g0 ct a x fc fb (upd (upd fp n (nI kd)) (5 + n) (nI co)) fq fn fl) rfl (rfl) (by decide) (by decide) dL_rigs_383 rfl ?_
              refine q_eqi (y := nI n) (hc3) ?_
              refine q_iadd (v := nI (10 + n)) (pc2 := 385) C dL_rigs_384 (nI_add 10 n) rfl ?_
              refine q_iconst (v := (-1)) (pc2 := 386) C dL_rigs_385 (by decide) rfl ?_
              refine q_iast (q0 := 28) (f := (upd (upd fp n (nI kd)) (5 + n) (nI co))) (ws' := (wT ct a x fc fb (upd (upd (upd fp n (nI kd)) (5 + n) (nI co)) (10 + n) (-1)) fq fn fl)) (pc2 := 387) C (10 + n) (wT_g2 ct a x fc fb (upd (upd fp n (nI kd)) (5 + n) (nI co)) fq fn fl) rfl (rfl) (by omega) (by decide) (wT_a2 ct a x fc fb (upd (upd fp n (nI kd)) (5 + n) (nI co)) fq fn fl (upd (upd (upd fp n (nI kd)) (5 + n) (nI co)) (10 + n) (-1))) dL_rigs_386 rfl ?_
              refine q_aload (pc2 := 389) C 10 dL_rigs_387 rfl rfl ?_
              refine q_bipush (v := nI 20) (pc2 := 391) C dL_rigs_389 (by decide) rfl ?_
              refine q_aload_n (pc2 := 392) C 8 dL_rigs_391 rfl rfl rfl ?_
              refine q_iconst (v := nI 3) (pc2 := 393) C dL_rigs_392 (by decide) rfl ?_
              refine q_iald (q0 := 26) (f := fc) (pc2 := 394) C 3 (wT_g0 ct a x fc fb (upd (upd (upd fp n (nI kd)) (5 + n) (nI co)) (10 + n) (-1)) fq fn fl) rfl (rfl) (by decide) (by decide) dL_rigs_393 rfl ?_
              refine q_eqi (y := nI n) (hc3) ?_
              refine q_iadd (v := nI (20 + n)) (pc2 := 395) C dL_rigs_394 (nI_add 20 n) rfl ?_
              refine q_iconst (v := (-1)) (pc2 := 396) C dL_rigs_395 (by decide) rfl ?_
              refine q_iast (q0 := 28) (f := (upd (upd (upd fp n (nI kd)) (5 + n) (nI co)) (10 + n) (-1))) (ws' := (wT ct a x fc fb (upd (upd (upd (upd fp n (nI kd)) (5 + n) (nI co)) (10 + n) (-1)) (20 + n) (-1)) fq fn fl)) (pc2 := 397) C (20 + n) (wT_g2 ct a x fc fb (upd (upd (upd fp n (nI kd)) (5 + n) (nI co)) (10 + n) (-1)) fq fn fl) rfl (rfl) (by omega) (by decide) (wT_a2 ct a x fc fb (upd (upd (upd fp n (nI kd)) (5 + n) (nI co)) (10 + n) (-1)) fq fn fl (upd (upd (upd (upd fp n (nI kd)) (5 + n) (nI co)) (10 + n) (-1)) (20 + n) (-1))) dL_rigs_396 rfl ?_
              refine q_aload (pc2 := 399) C 10 dL_rigs_397 rfl rfl ?_
              refine q_bipush (v := nI 25) (pc2 := 401) C dL_rigs_399 (by decide) rfl ?_
              refine q_aload_n (pc2 := 402) C 8 dL_rigs_401 rfl rfl rfl ?_
              refine q_iconst (v := nI 3) (pc2 := 403) C dL_rigs_402 (by decide) rfl ?_
              refine q_iald (q0 := 26) (f := fc) (pc2 := 404) C 3 (wT_g0 ct a x fc fb (upd (upd (upd (upd fp n (nI kd)) (5 + n) (nI co)) (10 + n) (-1)) (20 + n) (-1)) fq fn fl) rfl (rfl) (by decide) (by decide) dL_rigs_403 rfl ?_
              refine q_eqi (y := nI n) (hc3) ?_
              refine q_iadd (v := nI (25 + n)) (pc2 := 405) C dL_rigs_404 (nI_add 25 n) rfl ?_
              refine q_iconst (v := (-1)) (pc2 := 406) C dL_rigs_405 (by decide) rfl ?_
              refine q_iast (q0 := 28) (f := (upd (upd (upd (upd fp n (nI kd)) (5 + n) (nI co)) (10 + n) (-1)) (20 + n) (-1))) (ws' := (wT ct a x fc fb (upd (upd (upd (upd (upd fp n (nI kd)) (5 + n) (nI co)) (10 + n) (-1)) (20 + n) (-1)) (25 + n) (-1)) fq fn fl)) (pc2 := 407) C (25 + n) (wT_g2 ct a x fc fb (upd (upd (upd (upd fp n (nI kd)) (5 + n) (nI co)) (10 + n) (-1)) (20 + n) (-1)) fq fn fl) rfl (rfl) (by omega) (by decide) (wT_a2 ct a x fc fb (upd (upd (upd (upd fp n (nI kd)) (5 + n) (nI co)) (10 + n) (-1)) (20 + n) (-1)) fq fn fl (upd (upd (upd (upd (upd fp n (nI kd)) (5 + n) (nI co)) (10 + n) (-1)) (20 + n) (-1)) (25 + n) (-1))) dL_rigs_406 rfl ?_
              refine q_aload_n (pc2 := 408) C 8 dL_rigs_407 rfl rfl rfl ?_
              refine q_iconst (v := nI 3) (pc2 := 409) C dL_rigs_408 (by decide) rfl ?_
              refine q_dup2 (pc2 := 410) C dL_rigs_409 rfl rfl rfl ?_
              refine q_iald (q0 := 26) (f := fc) (pc2 := 411) C 3 (wT_g0 ct a x fc fb (upd (upd (upd (upd (upd fp n (nI kd)) (5 + n) (nI co)) (10 + n) (-1)) (20 + n) (-1)) (25 + n) (-1)) fq fn fl) rfl (rfl) (by decide) (by decide) dL_rigs_410 rfl ?_
              refine q_eqi (y := nI n) (hc3) ?_
              refine q_iconst (v := nI 1) (pc2 := 412) C dL_rigs_411 (by decide) rfl ?_
              refine q_iadd (v := nI (n + 1)) (pc2 := 413) C dL_rigs_412 (nI_add n 1) rfl ?_
              refine q_iast (q0 := 26) (f := fc) (ws' := (wT ct a x (upd fc 3 (nI (n + 1))) fb (upd (upd (upd (upd (upd fp n (nI kd)) (5 + n) (nI co)) (10 + n) (-1)) (20 + n) (-1)) (25 + n) (-1)) fq fn fl)) (pc2 := 414) C 3 (wT_g0 ct a x fc fb (upd (upd (upd (upd (upd fp n (nI kd)) (5 + n) (nI co)) (10 + n) (-1)) (20 + n) (-1)) (25 + n) (-1)) fq fn fl) rfl (rfl) (by decide) (by decide) (wT_a0 ct a x fc fb (upd (upd (upd (upd (upd fp n (nI kd)) (5 + n) (nI co)) (10 + n) (-1)) (20 + n) (-1)) (25 + n) (-1)) fq fn fl (upd fc 3 (nI (n + 1)))) dL_rigs_413 rfl ?_
              refine q_aload_n (pc2 := 415) C 5 dL_rigs_414 rfl rfl rfl ?_
              refine q_iconst (v := nI 0) (pc2 := 416) C dL_rigs_415 (by decide) rfl ?_
              refine q_iload (pc2 := 418) C 2 dL_rigs_416 rfl rfl ?_
              refine q_iload (pc2 := 420) C 1 dL_rigs_418 rfl rfl ?_
              refine q_iconst (v := nI 0) (pc2 := 421) C dL_rigs_420 (by decide) rfl ?_
              have hM := c_X3_lamp l hl D ct a x n hx0 (by omega) (nI kd) (nI co)
              rw [hx0] at hM
              refine q_Hok_wT (pc2 := 424) (As := [.ref (a 30), .int (nI 0), .int (nI kd), .int (nI co), .int (nI 0)]) (st := []) (st2 := [.int (nI n)]) (x' := (set2 (set2 (set2 (set2 (set2 x 0 (fun _ => nI n + 1)) 1 (upd (x 1) n (nI co))) 8 (upd (x 8) n (wgh (nI kd)))) 13 (upd (x 13) n (wdX (nI kd)))) 15 (upd (x 15) n (drw (nI kd))))) C (c_L_made0 l D ct a x _ (nI kd) (nI co) (nI 0) _ _ hM) (by rw [if_pos (show 0 ≤ nI kd ∧ nI kd ≤ 3 from ⟨nI_pos' (by omega), nI_le (b := 3) (by omega) (by omega)⟩), if_pos (show 0 ≤ nI co ∧ nI co ≤ 20 from ⟨nI_pos' (by omega), nI_le (b := 20) (by omega) (by omega)⟩), if_pos (show nI n < 10 from nI_lt (b := 10) (by omega) (by omega))]) (vx_cwSW 5 C.w gL_rigs_L_made rfl rfl rfl (by decide +kernel) ⟨Nat.le_of_ble_eq_true rfl, Nat.le_of_ble_eq_true rfl⟩) dL_rigs_421 rfl rfl (Nat.le_of_ble_eq_true rfl) ⟨Nat.zero_le _, Nat.zero_le _⟩ rfl rfl ?_
              refine q_iload (pc2 := 426) C 0 dL_rigs_424 rfl rfl ?_
              refine q_if_eq (tgt := 437) (pc2 := 429) C dL_rigs_426 (by decide) rfl (fun h9 => absurd h9 (by decide)) (fun _ => ?_)
              refine q_aload_n (pc2 := 430) C 8 dL_rigs_429 rfl rfl rfl ?_
              refine q_iconst (v := nI 3) (pc2 := 431) C dL_rigs_430 (by decide) rfl ?_
              refine q_iald (q0 := 26) (f := (upd fc 3 (nI (n + 1)))) (pc2 := 432) C 3 (wT_g0 ct a (set2 (set2 (set2 (set2 (set2 x 0 (fun _ => nI n + 1)) 1 (upd (x 1) n (nI co))) 8 (upd (x 8) n (wgh (nI kd)))) 13 (upd (x 13) n (wdX (nI kd)))) 15 (upd (x 15) n (drw (nI kd)))) (upd fc 3 (nI (n + 1))) fb (upd (upd (upd (upd (upd fp n (nI kd)) (5 + n) (nI co)) (10 + n) (-1)) (20 + n) (-1)) (25 + n) (-1)) fq fn fl) rfl (rfl) (by decide) (by decide) dL_rigs_431 rfl ?_
              refine q_eqi (y := nI (n + 1)) (upd_s) ?_
              refine q_iconst (v := nI 1) (pc2 := 433) C dL_rigs_432 (by decide) rfl ?_
              refine q_isub (v := nI n) (pc2 := 434) C dL_rigs_433 (nI_pred n) rfl ?_
              refine q_goto (pc2 := 439) C dL_rigs_434 (by decide) ?_
              refine q_icmp_ne (tgt := 446) (pc2 := 442) C dL_rigs_439 (by decide) rfl (fun h9 => absurd (rfl) h9) (fun _ => ?_)
              refine q_iconst (v := nI 1) (pc2 := 443) C dL_rigs_442 (by decide) rfl ?_
              refine q_goto (pc2 := 447) C dL_rigs_443 (by decide) ?_
              exact q_zret C hQ rfl (rfl) (Nat.zero_le _) (Nat.zero_le _) dL_rigs_447 ⟨rfl, _, _, _, _, _, _, _, rfl, ⟨n + 1, h, q, b, t, kb, _, S, F, V, Nat.le_trans ht (Nat.le_add_right M 50), (by have hh := st_lamp r (kd := kd) (co := co) (by omega) (by omega) (by omega); rw [hx0] at hh; exact hh)⟩⟩
            · skip
              have k349 : n = 5 := (nI_eq (a := n) (b := 5) (by omega) (by omega)).mp (c349)
              refine q_iconst (v := nI 1) (pc2 := 353) C dL_rigs_352 (by decide) rfl ?_
              exact q_zret C hQ rfl (rfl) (Nat.zero_le _) (Nat.zero_le _) dL_rigs_353 ⟨rfl, _, _, _, _, _, _, _, rfl, (RE.mono (Nat.le_add_right M 50) ⟨n, h, q, b, t, kb, K, S, F, V, ht, r⟩)⟩
      refine q_iload_n (pc2 := 295) C 5 dL_rigs_294 rfl rfl rfl ?_
      refine q_iconst (v := nI 5) (pc2 := 296) C dL_rigs_295 (by decide) rfl ?_
      refine q_ishr (v := (y >>> (nI 5 &&& 31))) (pc2 := 297) C dL_rigs_296 (rfl) rfl ?_
      refine q_bipush (v := nI 40) (pc2 := 299) C dL_rigs_297 (by decide) rfl ?_
      refine q_some (pc2 := 302) C (v := (y >>> (nI 5 &&& 31))) 40 (by omega) (by omega) (va_cwS 2 C.w gL_rigs_L_some rfl rfl rfl (by decide +kernel) ⟨Nat.le_of_ble_eq_true rfl, Nat.le_of_ble_eq_true rfl⟩) dL_rigs_299 rfl ⟨Nat.le_of_ble_eq_true rfl, Nat.le_of_ble_eq_true rfl⟩ (Nat.le_of_ble_eq_true rfl) (fun m299 hm299 => ?_)
      refine q_if_ne (tgt := 310) (pc2 := 305) C dL_rigs_302 (by decide) rfl (fun c302 => ?_) (fun c302 => ?_)
      · skip
        have k302 : m299 ≠ 0 := fun z => c302 ((nI_eq (a := m299) (b := 0) (by omega) (by omega)).mpr z)
        refine q_iload_n (pc2 := 311) C 5 dL_rigs_310 rfl rfl rfl ?_
        refine q_iconst (v := nI 5) (pc2 := 312) C dL_rigs_311 (by decide) rfl ?_
        refine q_ishr (v := (y >>> (nI 5 &&& 31))) (pc2 := 313) C dL_rigs_312 (rfl) rfl ?_
        refine q_bipush (v := nI 21) (pc2 := 315) C dL_rigs_313 (by decide) rfl ?_
        refine q_some (pc2 := 318) C (v := (y >>> (nI 5 &&& 31))) 21 (by omega) (by omega) (va_cwS 2 C.w gL_rigs_L_some rfl rfl rfl (by decide +kernel) ⟨Nat.le_of_ble_eq_true rfl, Nat.le_of_ble_eq_true rfl⟩) dL_rigs_315 rfl ⟨Nat.le_of_ble_eq_true rfl, Nat.le_of_ble_eq_true rfl⟩ (Nat.le_of_ble_eq_true rfl) (fun m315 hm315 => ?_)
        exact hj318 m315 (by omega)
      · skip
        have k302 : m299 = 0 := (nI_eq (a := m299) (b := 0) (by omega) (by omega)).mp (c302)
        refine q_bipush (v := nI 21) (pc2 := 307) C dL_rigs_305 (by decide) rfl ?_
        refine q_goto (pc2 := 318) C dL_rigs_307 (by decide) ?_
        exact hj318 21 (by omega)
    refine q_iload_n (pc2 := 273) C 4 dL_rigs_272 rfl rfl rfl ?_
    refine q_bipush (v := nI 40) (pc2 := 275) C dL_rigs_273 (by decide) rfl ?_
    refine q_some (pc2 := 278) C (v := y) 40 (by omega) (by omega) (va_cwS 2 C.w gL_rigs_L_some rfl rfl rfl (by decide +kernel) ⟨Nat.le_of_ble_eq_true rfl, Nat.le_of_ble_eq_true rfl⟩) dL_rigs_275 rfl ⟨Nat.le_of_ble_eq_true rfl, Nat.le_of_ble_eq_true rfl⟩ (Nat.le_of_ble_eq_true rfl) (fun m275 hm275 => ?_)
    refine q_if_ne (tgt := 285) (pc2 := 281) C dL_rigs_278 (by decide) rfl (fun c278 => ?_) (fun c278 => ?_)
    · skip
      have k278 : m275 ≠ 0 := fun z => c278 ((nI_eq (a := m275) (b := 0) (by omega) (by omega)).mpr z)
      refine q_iload_n (pc2 := 286) C 4 dL_rigs_285 rfl rfl rfl ?_
      refine q_iconst (v := nI 2) (pc2 := 287) C dL_rigs_286 (by decide) rfl ?_
      refine q_ishr (v := (y >>> (nI 2 &&& 31))) (pc2 := 288) C dL_rigs_287 (rfl) rfl ?_
      refine q_iconst (v := nI 4) (pc2 := 289) C dL_rigs_288 (by decide) rfl ?_
      refine q_some (pc2 := 292) C (v := (y >>> (nI 2 &&& 31))) 4 (by omega) (by omega) (va_cwS 2 C.w gL_rigs_L_some rfl rfl rfl (by decide +kernel) ⟨Nat.le_of_ble_eq_true rfl, Nat.le_of_ble_eq_true rfl⟩) dL_rigs_289 rfl ⟨Nat.le_of_ble_eq_true rfl, Nat.le_of_ble_eq_true rfl⟩ (Nat.le_of_ble_eq_true rfl) (fun m289 hm289 => ?_)
      exact hj292 m289 (by omega)
    · skip
      have k278 : m275 = 0 := (nI_eq (a := m275) (b := 0) (by omega) (by omega)).mp (c278)
      refine q_iconst (v := nI 4) (pc2 := 282) C dL_rigs_281 (by decide) rfl ?_
      refine q_goto (pc2 := 292) C dL_rigs_282 (by decide) ?_
      exact hj292 4 (by omega)
  refine q_iload_n (pc2 := 1) C 2 dL_rigs_0 rfl rfl rfl ?_
  refine q_aload_n (pc2 := 2) C 3 dL_rigs_1 rfl rfl rfl ?_
  refine q_iconst (v := nI 3) (pc2 := 3) C dL_rigs_2 (by decide) rfl ?_
  refine q_iald (q0 := 26) (f := fc) (pc2 := 4) C 3 (wT_g0 ct a x fc fb fp fq fn fl) rfl (rfl) (by decide) (by decide) dL_rigs_3 rfl ?_
  refine q_eqi (y := nI n) (hc3) ?_
  refine q_iconst (v := nI 1) (pc2 := 5) C dL_rigs_4 (by decide) rfl ?_
  refine q_iadd (v := nI (n + 1)) (pc2 := 6) C dL_rigs_5 (nI_add n 1) rfl ?_
  refine q_some (pc2 := 9) C (v := y) (n + 1) (by omega) (by omega) (va_cwS 2 C.w gL_rigs_L_some rfl rfl rfl (by decide +kernel) ⟨Nat.le_of_ble_eq_true rfl, Nat.le_of_ble_eq_true rfl⟩) dL_rigs_6 rfl ⟨Nat.le_of_ble_eq_true rfl, Nat.le_of_ble_eq_true rfl⟩ (Nat.le_of_ble_eq_true rfl) (fun m6 hm6 => ?_)
  have hj26 : ∀ e1 : Nat, (e1 ≤ 1) → Cf p l e ({ frames := 9, cells := 2, slots := 12, locals := 160 }) s m args below meth c D A 14 0 0 Q 26 [(0, .ref (a 30)), (1, .int (nI 1)), (2, .int y), (3, .ref (a 40)), (4, .ref (a 41)), (5, .ref (a 42))] [.int (nI e1), .int (nI m6)] (wT ct a x fc fb fp fq fn fl) := by
    intro e1 he1
    rcases pick_lamp hn5 hm6 he1 with ⟨i, hi, ei⟩ | hv
    · skip
      refine q_isub (v := nI i) (pc2 := 27) C dL_rigs_26 (ei) rfl ?_
      refine q_istore (lv' := [(6, .int (nI i)), (0, .ref (a 30)), (1, .int (nI 1)), (2, .int y), (3, .ref (a 40)), (4, .ref (a 41)), (5, .ref (a 42))]) (pc2 := 29) C dL_rigs_27 (by decide) rfl rfl ?_
      refine q_iload (pc2 := 31) C 0 dL_rigs_29 rfl rfl ?_
      refine q_if_lt (tgt := 46) (pc2 := 34) C dL_rigs_31 (by decide) rfl (fun h9 => absurd h9 (nI_nlt (a := i) (b := 0) (by omega) (by omega))) (fun _ => ?_)
      refine q_iload (pc2 := 36) C 0 dL_rigs_34 rfl rfl ?_
      refine q_aload_n (pc2 := 37) C 4 dL_rigs_36 rfl rfl rfl ?_
      refine q_iconst (v := nI 3) (pc2 := 38) C dL_rigs_37 (by decide) rfl ?_
      refine q_iald (q0 := 26) (f := fc) (pc2 := 39) C 3 (wT_g0 ct a x fc fb fp fq fn fl) rfl (rfl) (by decide) (by decide) dL_rigs_38 rfl ?_
      refine q_eqi (y := nI n) (hc3) ?_
      refine q_icmp_ge (tgt := 46) (pc2 := 42) C dL_rigs_39 (by decide) rfl (fun h9 => absurd h9 (nI_ge (a := i) (b := n) (by omega) (by omega))) (fun _ => ?_)
      refine q_iconst (v := nI 1) (pc2 := 43) C dL_rigs_42 (by decide) rfl ?_
      refine q_goto (pc2 := 47) C dL_rigs_43 (by decide) ?_
      refine q_istore (lv' := [(7, .int (nI 1)), (6, .int (nI i)), (0, .ref (a 30)), (1, .int (nI 1)), (2, .int y), (3, .ref (a 40)), (4, .ref (a 41)), (5, .ref (a 42))]) (pc2 := 49) C dL_rigs_47 (by decide) rfl rfl ?_
      exact hG _ _
    · skip
      refine q_isub (v := (nI m6 - nI e1)) (pc2 := 27) C dL_rigs_26 (rfl) rfl ?_
      refine q_istore (lv' := [(6, .int (nI m6 - nI e1)), (0, .ref (a 30)), (1, .int (nI 1)), (2, .int y), (3, .ref (a 40)), (4, .ref (a 41)), (5, .ref (a 42))]) (pc2 := 29) C dL_rigs_27 (by decide) rfl rfl ?_
      refine q_iload (pc2 := 31) C 0 dL_rigs_29 rfl rfl ?_
      refine q_if_lt (tgt := 46) (pc2 := 34) C dL_rigs_31 (by decide) rfl (fun c31 => ?_) (fun c31 => ?_)
      · skip
        refine q_iconst (v := nI 0) (pc2 := 47) C dL_rigs_46 (by decide) rfl ?_
        refine q_istore (lv' := [(7, .int (nI 0)), (6, .int (nI m6 - nI e1)), (0, .ref (a 30)), (1, .int (nI 1)), (2, .int y), (3, .ref (a 40)), (4, .ref (a 41)), (5, .ref (a 42))]) (pc2 := 49) C dL_rigs_47 (by decide) rfl rfl ?_
        exact hG _ _
      · skip
        refine q_iload (pc2 := 36) C 0 dL_rigs_34 rfl rfl ?_
        refine q_aload_n (pc2 := 37) C 4 dL_rigs_36 rfl rfl rfl ?_
        refine q_iconst (v := nI 3) (pc2 := 38) C dL_rigs_37 (by decide) rfl ?_
        refine q_iald (q0 := 26) (f := fc) (pc2 := 39) C 3 (wT_g0 ct a x fc fb fp fq fn fl) rfl (rfl) (by decide) (by decide) dL_rigs_38 rfl ?_
        refine q_eqi (y := nI n) (hc3) ?_
        refine q_icmp_ge (tgt := 46) (pc2 := 42) C dL_rigs_39 (by decide) rfl (fun _ => ?_) (fun h9 => absurd (Int32.not_lt.mp (fun z9 => hv ⟨Int32.not_lt.mp c31, z9⟩)) h9)
        refine q_iconst (v := nI 0) (pc2 := 47) C dL_rigs_46 (by decide) rfl ?_
        refine q_istore (lv' := [(7, .int (nI 0)), (6, .int (nI m6 - nI e1)), (0, .ref (a 30)), (1, .int (nI 1)), (2, .int y), (3, .ref (a 40)), (4, .ref (a 41)), (5, .ref (a 42))]) (pc2 := 49) C dL_rigs_47 (by decide) rfl rfl ?_
        exact hG _ _
  refine q_iload_n (pc2 := 10) C 2 dL_rigs_9 rfl rfl rfl ?_
  refine q_bipush (v := nI 11) (pc2 := 12) C dL_rigs_10 (by decide) rfl ?_
  refine q_ishr (v := (y >>> (nI 11 &&& 31))) (pc2 := 13) C dL_rigs_12 (rfl) rfl ?_
  refine q_bipush (v := nI 19) (pc2 := 15) C dL_rigs_13 (by decide) rfl ?_
  refine q_some (pc2 := 18) C (v := (y >>> (nI 11 &&& 31))) 19 (by omega) (by omega) (va_cwS 2 C.w gL_rigs_L_some rfl rfl rfl (by decide +kernel) ⟨Nat.le_of_ble_eq_true rfl, Nat.le_of_ble_eq_true rfl⟩) dL_rigs_15 rfl ⟨Nat.le_of_ble_eq_true rfl, Nat.le_of_ble_eq_true rfl⟩ (Nat.le_of_ble_eq_true rfl) (fun m15 hm15 => ?_)
  refine q_if_ne (tgt := 25) (pc2 := 21) C dL_rigs_18 (by decide) rfl (fun c18 => ?_) (fun c18 => ?_)
  · skip
    have k18 : m15 ≠ 0 := fun z => c18 ((nI_eq (a := m15) (b := 0) (by omega) (by omega)).mpr z)
    refine q_iconst (v := nI 0) (pc2 := 26) C dL_rigs_25 (by decide) rfl ?_
    exact hj26 0 (by omega)
  · skip
    have k18 : m15 = 0 := (nI_eq (a := m15) (b := 0) (by omega) (by omega)).mp (c18)
    refine q_iconst (v := nI 1) (pc2 := 22) C dL_rigs_21 (by decide) rfl ?_
    refine q_goto (pc2 := 26) C dL_rigs_22 (by decide) ?_
    exact hj26 1 (by omega)

