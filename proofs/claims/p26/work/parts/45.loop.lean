/-! the law's loop: a hundred choices -/
set_option maxHeartbeats 8000000 in
set_option maxRecDepth 100000 in
theorem lw_loop (l : Launch) (hl : l.stackTraces = false) {p : Program} {e : Env} {s : State} {m : MethodId} {args : Array Value} {below : List Frame} {meth : Method} {c : Code} {D : va_G} {ct : Nat → ClassId} {A : Nat → Prop} {Q : State → Prop} (C : Cx p s m args c meth cL_law 13 (some .boolean) wsL_law RL D ct A) {sb L0 : Nat} {xs : Nat → Int32} (hX : va_X sb L0 xs s s.heap) (hbl : sb < s.heap.size) (hbA : ¬ A sb) (hL : L0 ≤ 260) {a : Nat → Nat} (kend : ∀ (cells slots : Nat) (lv : List (Nat × Value)) (ws : va_W), cells ≤ 676308 → slots ≤ 7072545 → Cf p l e room_1 s m args below meth c D A 13 cells slots Q 361 lv [] ws) : ∀ (k i : Nat) (x : Nat → Nat → Int32) (fc fb fp fq fn fl : Nat → Int32), i + k = 100 → RE (50 * i) x fc fb fp fq fn fl → Cf p l e room_1 s m args below meth c D A 13 (32 + 12 * i) (420 + 76 * i) Q 67 [(8, .int (nI i)), (7, .ref (a 45)), (6, .ref (a 44)), (5, .ref (a 43)), (4, .ref (a 42)), (3, .ref (a 41)), (2, .ref (a 40)), (1, .ref (a 30)), (0, .ref sb)] [] (wT ct a x fc fb fp fq fn fl) := by
  intro k
  induction k with
  | zero =>
    intro i x fc fb fp fq fn fl hik r0
    refine q_iload (pc2 := 69) C 0 dL_law_67 rfl rfl ?_
    refine q_bipush (v := nI 100) (pc2 := 71) C dL_law_69 (by decide) rfl ?_
    refine q_icmp_ge (tgt := 361) (pc2 := 74) C dL_law_71 (by decide) rfl (fun _ => ?_) (fun h9 => absurd (nI_le (a := 100) (b := i) (by omega) (by omega)) h9)
    exact kend _ _ _ _ (by omega) (by omega)
  | succ k ih =>
    intro i x fc fb fp fq fn fl hik r0
    refine q_iload (pc2 := 69) C 0 dL_law_67 rfl rfl ?_
    refine q_bipush (v := nI 100) (pc2 := 71) C dL_law_69 (by decide) rfl ?_
    refine q_icmp_ge (tgt := 361) (pc2 := 74) C dL_law_71 (by decide) rfl (fun h9 => absurd h9 (nI_ge (a := i) (b := 100) (by omega) (by omega))) (fun _ => ?_)
    have hj90 : ∀ v9 : Int32, (True) → Cf p l e room_1 s m args below meth c D A 13 (32 + 12 * i) (420 + 76 * i) Q 90 [(8, .int (nI i)), (7, .ref (a 45)), (6, .ref (a 44)), (5, .ref (a 43)), (4, .ref (a 42)), (3, .ref (a 41)), (2, .ref (a 40)), (1, .ref (a 30)), (0, .ref sb)] [.int v9] (wT ct a x fc fb fp fq fn fl) := by
      intro v9 hv9
      refine q_istore (lv' := [(9, .int v9), (8, .int (nI i)), (7, .ref (a 45)), (6, .ref (a 44)), (5, .ref (a 43)), (4, .ref (a 42)), (3, .ref (a 41)), (2, .ref (a 40)), (1, .ref (a 30)), (0, .ref sb)]) (pc2 := 92) C dL_law_90 (by decide) rfl rfl ?_
      have hj96 : ∀ y9 : Int32, (True) → Cf p l e room_1 s m args below meth c D A 13 (32 + 12 * i) (420 + 76 * i) Q 96 [(9, .int v9), (8, .int (nI i)), (7, .ref (a 45)), (6, .ref (a 44)), (5, .ref (a 43)), (4, .ref (a 42)), (3, .ref (a 41)), (2, .ref (a 40)), (1, .ref (a 30)), (0, .ref sb)] [.int y9] (wT ct a x fc fb fp fq fn fl) := by
        intro y9 hy9
        refine q_istore (lv' := [(10, .int y9), (9, .int v9), (8, .int (nI i)), (7, .ref (a 45)), (6, .ref (a 44)), (5, .ref (a 43)), (4, .ref (a 42)), (3, .ref (a 41)), (2, .ref (a 40)), (1, .ref (a 30)), (0, .ref sb)]) (pc2 := 98) C dL_law_96 (by decide) rfl rfl ?_
        refine q_iload (pc2 := 100) C 1 dL_law_98 rfl rfl ?_
        refine q_bipush (v := nI 24) (pc2 := 102) C dL_law_100 (by decide) rfl ?_
        refine q_some (pc2 := 105) C (v := v9) 24 (by omega) (by omega) (va_cwS 2 C.w gL_law_L_some rfl rfl rfl (by decide +kernel) ⟨Nat.le_of_ble_eq_true rfl, Nat.le_of_ble_eq_true rfl⟩) dL_law_102 rfl ⟨(show (32 + 12 * i) ≤ 676308 by omega), (show (420 + 76 * i) ≤ 7072545 by omega)⟩ (Nat.le_of_ble_eq_true rfl) (fun m102 hm102 => ?_)
        refine q_istore (lv' := [(11, .int (nI m102)), (10, .int y9), (9, .int v9), (8, .int (nI i)), (7, .ref (a 45)), (6, .ref (a 44)), (5, .ref (a 43)), (4, .ref (a 42)), (3, .ref (a 41)), (2, .ref (a 40)), (1, .ref (a 30)), (0, .ref sb)]) (pc2 := 107) C dL_law_105 (by decide) rfl rfl ?_
        have hj332 : ∀ (x1 : Nat → Nat → Int32) (fc1 fb1 fp1 fq1 fn1 fl1 : Nat → Int32), RE (50 * i + 50) x1 fc1 fb1 fp1 fq1 fn1 fl1 → Cf p l e room_1 s m args below meth c D A 13 ((32 + 12 * i) + 2) ((420 + 76 * i) + 12) Q 332 [(11, .int (nI m102)), (10, .int y9), (9, .int v9), (8, .int (nI i)), (7, .ref (a 45)), (6, .ref (a 44)), (5, .ref (a 43)), (4, .ref (a 42)), (3, .ref (a 41)), (2, .ref (a 40)), (1, .ref (a 30)), (0, .ref sb)] [.int (nI 1)] (wT ct a x1 fc1 fb1 fp1 fq1 fn1 fl1) := by
          intro x1 fc1 fb1 fp1 fq1 fn1 fl1 hr1
          refine q_istore (lv' := [(12, .int (nI 1)), (11, .int (nI m102)), (10, .int y9), (9, .int v9), (8, .int (nI i)), (7, .ref (a 45)), (6, .ref (a 44)), (5, .ref (a 43)), (4, .ref (a 42)), (3, .ref (a 41)), (2, .ref (a 40)), (1, .ref (a 30)), (0, .ref sb)]) (pc2 := 334) C dL_law_332 (by decide) rfl rfl ?_
          refine q_iload (pc2 := 336) C 0 dL_law_334 rfl rfl ?_
          refine q_if_eq (tgt := 353) (pc2 := 339) C dL_law_336 (by decide) rfl (fun h9 => absurd h9 (by decide)) (fun _ => ?_)
          refine q_aload_n (pc2 := 340) C 11 dL_law_339 rfl rfl rfl ?_
          refine q_iload (pc2 := 342) C 2 dL_law_340 rfl rfl ?_
          refine q_aload_n (pc2 := 343) C 10 dL_law_342 rfl rfl rfl ?_
          refine q_aload (pc2 := 345) C 8 dL_law_343 rfl rfl ?_
          refine q_aload (pc2 := 347) C 5 dL_law_345 rfl rfl ?_
          refine q_TD (pc2 := 350) (As := [.ref (a 30), .int y9, .ref (a 40), .ref (a 42), .ref (a 45)]) (st := []) (st2 := [.int (nI 1)]) (c2 := (((32 + 12 * i) + 2) + 10)) (s2 := (((420 + 76 * i) + 12) + 64)) C (c_L_asks l D ct hl a x1 fc1 fb1 fp1 fq1 fn1 fl1 y9 (50 * i + 50) (by omega) hr1) (va_cwS 5 C.w gL_law_L_asks rfl rfl rfl (by decide +kernel) ⟨Nat.le_of_ble_eq_true rfl, Nat.le_of_ble_eq_true rfl⟩) dL_law_347 rfl rfl (Nat.le_of_ble_eq_true rfl) ⟨(show (((32 + 12 * i) + 2) + 10) ≤ 676308 by omega), (show (((420 + 76 * i) + 12) + 64) ≤ 7072545 by omega)⟩ rfl rfl rfl rfl ?_
          refine q_if_ne (tgt := 355) (pc2 := 353) C dL_law_350 (by decide) rfl (fun _ => ?_) (fun h9 => absurd h9 (by decide))
          refine q_iinc (v := nI (i + 1)) (lv' := [(8, .int (nI (i + 1))), (12, .int (nI 1)), (11, .int (nI m102)), (10, .int y9), (9, .int v9), (7, .ref (a 45)), (6, .ref (a 44)), (5, .ref (a 43)), (4, .ref (a 42)), (3, .ref (a 41)), (2, .ref (a 40)), (1, .ref (a 30)), (0, .ref sb)]) (pc2 := 358) C 4 dL_law_355 rfl (show nI i + Int32.ofInt 1 = nI (i + 1) by rw [show Int32.ofInt 1 = nI 1 from by decide]; exact nI_add i 1) (by decide) rfl rfl ?_
          refine q_goto (pc2 := 67) C dL_law_358 (by decide) ?_
          refine q_lv (lv' := [(8, .int (nI (i + 1))), (7, .ref (a 45)), (6, .ref (a 44)), (5, .ref (a 43)), (4, .ref (a 42)), (3, .ref (a 41)), (2, .ref (a 40)), (1, .ref (a 30)), (0, .ref sb)]) [0, 5, 6, 7, 8, 9, 10, 11, 12] rfl ?_
          refine q_widen (c2 := 32 + 12 * (i + 1)) (s2 := 420 + 76 * (i + 1)) (by omega) (by omega) ?_
          exact ih (i + 1) x1 fc1 fb1 fp1 fq1 fn1 fl1 (by omega) (RE.mono (by omega) hr1)
        refine q_iload (pc2 := 109) C 3 dL_law_107 rfl rfl ?_
        refine q_iconst (v := nI 5) (pc2 := 110) C dL_law_109 (by decide) rfl ?_
        refine q_icmp_ge (tgt := 127) (pc2 := 113) C dL_law_110 (by decide) rfl (fun c110 => ?_) (fun c110 => ?_)
        · skip
          have k110 : 5 ≤ i := (nI_leI (a := 5) (b := i) (by omega) (by omega)).mp c110
          refine q_iload (pc2 := 129) C 3 dL_law_127 rfl rfl ?_
          refine q_bipush (v := nI 9) (pc2 := 131) C dL_law_129 (by decide) rfl ?_
          refine q_icmp_ge (tgt := 148) (pc2 := 134) C dL_law_131 (by decide) rfl (fun c131 => ?_) (fun c131 => ?_)
          · skip
            have k131 : 9 ≤ i := (nI_leI (a := 9) (b := i) (by omega) (by omega)).mp c131
            refine q_iload (pc2 := 150) C 3 dL_law_148 rfl rfl ?_
            refine q_bipush (v := nI 13) (pc2 := 152) C dL_law_150 (by decide) rfl ?_
            refine q_icmp_ge (tgt := 174) (pc2 := 155) C dL_law_152 (by decide) rfl (fun c152 => ?_) (fun c152 => ?_)
            · skip
              have k152 : 13 ≤ i := (nI_leI (a := 13) (b := i) (by omega) (by omega)).mp c152
              refine q_iload (pc2 := 176) C 3 dL_law_174 rfl rfl ?_
              refine q_bipush (v := nI 20) (pc2 := 178) C dL_law_176 (by decide) rfl ?_
              refine q_icmp_ge (tgt := 200) (pc2 := 181) C dL_law_178 (by decide) rfl (fun c178 => ?_) (fun c178 => ?_)
              · skip
                have k178 : 20 ≤ i := (nI_leI (a := 20) (b := i) (by omega) (by omega)).mp c178
                refine q_iload (pc2 := 202) C 3 dL_law_200 rfl rfl ?_
                refine q_bipush (v := nI 24) (pc2 := 204) C dL_law_202 (by decide) rfl ?_
                refine q_icmp_ge (tgt := 221) (pc2 := 207) C dL_law_204 (by decide) rfl (fun c204 => ?_) (fun c204 => ?_)
                · skip
                  have k204 : 24 ≤ i := (nI_leI (a := 24) (b := i) (by omega) (by omega)).mp c204
                  rcases (show m102 = 0 ∨ m102 = 1 ∨ m102 = 2 ∨ m102 = 3 ∨ m102 = 4 ∨ m102 = 5 ∨ m102 = 6 ∨ m102 = 7 ∨ m102 = 8 ∨ m102 = 9 ∨ m102 = 10 ∨ m102 = 11 ∨ m102 = 12 ∨ m102 = 13 ∨ m102 = 14 ∨ m102 = 15 ∨ m102 = 16 ∨ m102 = 17 ∨ m102 = 18 ∨ m102 = 19 ∨ m102 = 20 ∨ m102 = 21 ∨ m102 = 22 ∨ m102 = 23 by omega) with rfl | rfl | rfl | rfl | rfl | rfl | rfl | rfl | rfl | rfl | rfl | rfl | rfl | rfl | rfl | rfl | rfl | rfl | rfl | rfl | rfl | rfl | rfl | rfl
                  · skip
                    refine q_iload (pc2 := 223) C 0 dL_law_221 rfl rfl ?_
                    refine q_bipush (v := nI 7) (pc2 := 225) C dL_law_223 (by decide) rfl ?_
                    refine q_icmp_ge (tgt := 243) (pc2 := 228) C dL_law_225 (by decide) rfl (fun h9 => absurd h9 (by decide)) (fun _ => ?_)
                    refine q_aload_n (pc2 := 229) C 10 dL_law_228 rfl rfl rfl ?_
                    refine q_iload (pc2 := 231) C 0 dL_law_229 rfl rfl ?_
                    refine q_iload (pc2 := 233) C 1 dL_law_231 rfl rfl ?_
                    refine q_aload_n (pc2 := 234) C 9 dL_law_233 rfl rfl rfl ?_
                    refine q_aload_n (pc2 := 235) C 8 dL_law_234 rfl rfl rfl ?_
                    refine q_aload (pc2 := 237) C 7 dL_law_235 rfl rfl ?_
                    refine q_PR (pc2 := 240) (As := [.ref (a 30), .int (nI 0), .int y9, .ref (a 40), .ref (a 41), .ref (a 42)]) (st := []) C (c_L_rigs_0 l D ct hl a x fc fb fp fq fn fl y9 (50 * i) r0) (va_cwS 6 C.w gL_law_L_rigs rfl rfl rfl (by decide +kernel) ⟨Nat.le_of_ble_eq_true rfl, Nat.le_of_ble_eq_true rfl⟩) dL_law_237 rfl rfl (Nat.le_of_ble_eq_true rfl) ⟨(show (32 + 12 * i) + 2 ≤ 676308 by omega), (show (420 + 76 * i) + 12 ≤ 7072545 by omega)⟩ rfl (fun x1 fc1 fb1 fp1 fq1 fn1 fl1 hr1 => ?_)
                    refine q_goto (pc2 := 332) C dL_law_240 (by decide) ?_
                    exact hj332 x1 fc1 fb1 fp1 fq1 fn1 fl1 hr1
                  · skip
                    refine q_iload (pc2 := 223) C 0 dL_law_221 rfl rfl ?_
                    refine q_bipush (v := nI 7) (pc2 := 225) C dL_law_223 (by decide) rfl ?_
                    refine q_icmp_ge (tgt := 243) (pc2 := 228) C dL_law_225 (by decide) rfl (fun h9 => absurd h9 (by decide)) (fun _ => ?_)
                    refine q_aload_n (pc2 := 229) C 10 dL_law_228 rfl rfl rfl ?_
                    refine q_iload (pc2 := 231) C 0 dL_law_229 rfl rfl ?_
                    refine q_iload (pc2 := 233) C 1 dL_law_231 rfl rfl ?_
                    refine q_aload_n (pc2 := 234) C 9 dL_law_233 rfl rfl rfl ?_
                    refine q_aload_n (pc2 := 235) C 8 dL_law_234 rfl rfl rfl ?_
                    refine q_aload (pc2 := 237) C 7 dL_law_235 rfl rfl ?_
                    refine q_PR (pc2 := 240) (As := [.ref (a 30), .int (nI 1), .int y9, .ref (a 40), .ref (a 41), .ref (a 42)]) (st := []) C (c_L_rigs_1 l D ct hl a x fc fb fp fq fn fl y9 (50 * i) r0) (va_cwS 6 C.w gL_law_L_rigs rfl rfl rfl (by decide +kernel) ⟨Nat.le_of_ble_eq_true rfl, Nat.le_of_ble_eq_true rfl⟩) dL_law_237 rfl rfl (Nat.le_of_ble_eq_true rfl) ⟨(show (32 + 12 * i) + 2 ≤ 676308 by omega), (show (420 + 76 * i) + 12 ≤ 7072545 by omega)⟩ rfl (fun x1 fc1 fb1 fp1 fq1 fn1 fl1 hr1 => ?_)
                    refine q_goto (pc2 := 332) C dL_law_240 (by decide) ?_
                    exact hj332 x1 fc1 fb1 fp1 fq1 fn1 fl1 hr1
                  · skip
                    refine q_iload (pc2 := 223) C 0 dL_law_221 rfl rfl ?_
                    refine q_bipush (v := nI 7) (pc2 := 225) C dL_law_223 (by decide) rfl ?_
                    refine q_icmp_ge (tgt := 243) (pc2 := 228) C dL_law_225 (by decide) rfl (fun h9 => absurd h9 (by decide)) (fun _ => ?_)
                    refine q_aload_n (pc2 := 229) C 10 dL_law_228 rfl rfl rfl ?_
                    refine q_iload (pc2 := 231) C 0 dL_law_229 rfl rfl ?_
                    refine q_iload (pc2 := 233) C 1 dL_law_231 rfl rfl ?_
                    refine q_aload_n (pc2 := 234) C 9 dL_law_233 rfl rfl rfl ?_
                    refine q_aload_n (pc2 := 235) C 8 dL_law_234 rfl rfl rfl ?_
                    refine q_aload (pc2 := 237) C 7 dL_law_235 rfl rfl ?_
                    refine q_PR (pc2 := 240) (As := [.ref (a 30), .int (nI 2), .int y9, .ref (a 40), .ref (a 41), .ref (a 42)]) (st := []) C (c_L_rigs_2 l D ct hl a x fc fb fp fq fn fl y9 (50 * i) r0) (va_cwS 6 C.w gL_law_L_rigs rfl rfl rfl (by decide +kernel) ⟨Nat.le_of_ble_eq_true rfl, Nat.le_of_ble_eq_true rfl⟩) dL_law_237 rfl rfl (Nat.le_of_ble_eq_true rfl) ⟨(show (32 + 12 * i) + 2 ≤ 676308 by omega), (show (420 + 76 * i) + 12 ≤ 7072545 by omega)⟩ rfl (fun x1 fc1 fb1 fp1 fq1 fn1 fl1 hr1 => ?_)
                    refine q_goto (pc2 := 332) C dL_law_240 (by decide) ?_
                    exact hj332 x1 fc1 fb1 fp1 fq1 fn1 fl1 hr1
                  · skip
                    refine q_iload (pc2 := 223) C 0 dL_law_221 rfl rfl ?_
                    refine q_bipush (v := nI 7) (pc2 := 225) C dL_law_223 (by decide) rfl ?_
                    refine q_icmp_ge (tgt := 243) (pc2 := 228) C dL_law_225 (by decide) rfl (fun h9 => absurd h9 (by decide)) (fun _ => ?_)
                    refine q_aload_n (pc2 := 229) C 10 dL_law_228 rfl rfl rfl ?_
                    refine q_iload (pc2 := 231) C 0 dL_law_229 rfl rfl ?_
                    refine q_iload (pc2 := 233) C 1 dL_law_231 rfl rfl ?_
                    refine q_aload_n (pc2 := 234) C 9 dL_law_233 rfl rfl rfl ?_
                    refine q_aload_n (pc2 := 235) C 8 dL_law_234 rfl rfl rfl ?_
                    refine q_aload (pc2 := 237) C 7 dL_law_235 rfl rfl ?_
                    refine q_PR (pc2 := 240) (As := [.ref (a 30), .int (nI 3), .int y9, .ref (a 40), .ref (a 41), .ref (a 42)]) (st := []) C (c_L_rigs_3 l D ct hl a x fc fb fp fq fn fl y9 (50 * i) r0) (va_cwS 6 C.w gL_law_L_rigs rfl rfl rfl (by decide +kernel) ⟨Nat.le_of_ble_eq_true rfl, Nat.le_of_ble_eq_true rfl⟩) dL_law_237 rfl rfl (Nat.le_of_ble_eq_true rfl) ⟨(show (32 + 12 * i) + 2 ≤ 676308 by omega), (show (420 + 76 * i) + 12 ≤ 7072545 by omega)⟩ rfl (fun x1 fc1 fb1 fp1 fq1 fn1 fl1 hr1 => ?_)
                    refine q_goto (pc2 := 332) C dL_law_240 (by decide) ?_
                    exact hj332 x1 fc1 fb1 fp1 fq1 fn1 fl1 hr1
                  · skip
                    refine q_iload (pc2 := 223) C 0 dL_law_221 rfl rfl ?_
                    refine q_bipush (v := nI 7) (pc2 := 225) C dL_law_223 (by decide) rfl ?_
                    refine q_icmp_ge (tgt := 243) (pc2 := 228) C dL_law_225 (by decide) rfl (fun h9 => absurd h9 (by decide)) (fun _ => ?_)
                    refine q_aload_n (pc2 := 229) C 10 dL_law_228 rfl rfl rfl ?_
                    refine q_iload (pc2 := 231) C 0 dL_law_229 rfl rfl ?_
                    refine q_iload (pc2 := 233) C 1 dL_law_231 rfl rfl ?_
                    refine q_aload_n (pc2 := 234) C 9 dL_law_233 rfl rfl rfl ?_
                    refine q_aload_n (pc2 := 235) C 8 dL_law_234 rfl rfl rfl ?_
                    refine q_aload (pc2 := 237) C 7 dL_law_235 rfl rfl ?_
                    refine q_PR (pc2 := 240) (As := [.ref (a 30), .int (nI 4), .int y9, .ref (a 40), .ref (a 41), .ref (a 42)]) (st := []) C (c_L_rigs_4 l D ct hl a x fc fb fp fq fn fl y9 (50 * i) r0) (va_cwS 6 C.w gL_law_L_rigs rfl rfl rfl (by decide +kernel) ⟨Nat.le_of_ble_eq_true rfl, Nat.le_of_ble_eq_true rfl⟩) dL_law_237 rfl rfl (Nat.le_of_ble_eq_true rfl) ⟨(show (32 + 12 * i) + 2 ≤ 676308 by omega), (show (420 + 76 * i) + 12 ≤ 7072545 by omega)⟩ rfl (fun x1 fc1 fb1 fp1 fq1 fn1 fl1 hr1 => ?_)
                    refine q_goto (pc2 := 332) C dL_law_240 (by decide) ?_
                    exact hj332 x1 fc1 fb1 fp1 fq1 fn1 fl1 hr1
                  · skip
                    refine q_iload (pc2 := 223) C 0 dL_law_221 rfl rfl ?_
                    refine q_bipush (v := nI 7) (pc2 := 225) C dL_law_223 (by decide) rfl ?_
                    refine q_icmp_ge (tgt := 243) (pc2 := 228) C dL_law_225 (by decide) rfl (fun h9 => absurd h9 (by decide)) (fun _ => ?_)
                    refine q_aload_n (pc2 := 229) C 10 dL_law_228 rfl rfl rfl ?_
                    refine q_iload (pc2 := 231) C 0 dL_law_229 rfl rfl ?_
                    refine q_iload (pc2 := 233) C 1 dL_law_231 rfl rfl ?_
                    refine q_aload_n (pc2 := 234) C 9 dL_law_233 rfl rfl rfl ?_
                    refine q_aload_n (pc2 := 235) C 8 dL_law_234 rfl rfl rfl ?_
                    refine q_aload (pc2 := 237) C 7 dL_law_235 rfl rfl ?_
                    refine q_PR (pc2 := 240) (As := [.ref (a 30), .int (nI 5), .int y9, .ref (a 40), .ref (a 41), .ref (a 42)]) (st := []) C (c_L_rigs_5 l D ct hl a x fc fb fp fq fn fl y9 (50 * i) r0) (va_cwS 6 C.w gL_law_L_rigs rfl rfl rfl (by decide +kernel) ⟨Nat.le_of_ble_eq_true rfl, Nat.le_of_ble_eq_true rfl⟩) dL_law_237 rfl rfl (Nat.le_of_ble_eq_true rfl) ⟨(show (32 + 12 * i) + 2 ≤ 676308 by omega), (show (420 + 76 * i) + 12 ≤ 7072545 by omega)⟩ rfl (fun x1 fc1 fb1 fp1 fq1 fn1 fl1 hr1 => ?_)
                    refine q_goto (pc2 := 332) C dL_law_240 (by decide) ?_
                    exact hj332 x1 fc1 fb1 fp1 fq1 fn1 fl1 hr1
                  · skip
                    refine q_iload (pc2 := 223) C 0 dL_law_221 rfl rfl ?_
                    refine q_bipush (v := nI 7) (pc2 := 225) C dL_law_223 (by decide) rfl ?_
                    refine q_icmp_ge (tgt := 243) (pc2 := 228) C dL_law_225 (by decide) rfl (fun h9 => absurd h9 (by decide)) (fun _ => ?_)
                    refine q_aload_n (pc2 := 229) C 10 dL_law_228 rfl rfl rfl ?_
                    refine q_iload (pc2 := 231) C 0 dL_law_229 rfl rfl ?_
                    refine q_iload (pc2 := 233) C 1 dL_law_231 rfl rfl ?_
                    refine q_aload_n (pc2 := 234) C 9 dL_law_233 rfl rfl rfl ?_
                    refine q_aload_n (pc2 := 235) C 8 dL_law_234 rfl rfl rfl ?_
                    refine q_aload (pc2 := 237) C 7 dL_law_235 rfl rfl ?_
                    refine q_PR (pc2 := 240) (As := [.ref (a 30), .int (nI 6), .int y9, .ref (a 40), .ref (a 41), .ref (a 42)]) (st := []) C (c_L_rigs_6 l D ct hl a x fc fb fp fq fn fl y9 (50 * i) r0) (va_cwS 6 C.w gL_law_L_rigs rfl rfl rfl (by decide +kernel) ⟨Nat.le_of_ble_eq_true rfl, Nat.le_of_ble_eq_true rfl⟩) dL_law_237 rfl rfl (Nat.le_of_ble_eq_true rfl) ⟨(show (32 + 12 * i) + 2 ≤ 676308 by omega), (show (420 + 76 * i) + 12 ≤ 7072545 by omega)⟩ rfl (fun x1 fc1 fb1 fp1 fq1 fn1 fl1 hr1 => ?_)
                    refine q_goto (pc2 := 332) C dL_law_240 (by decide) ?_
                    exact hj332 x1 fc1 fb1 fp1 fq1 fn1 fl1 hr1
                  · skip
                    refine q_iload (pc2 := 223) C 0 dL_law_221 rfl rfl ?_
                    refine q_bipush (v := nI 7) (pc2 := 225) C dL_law_223 (by decide) rfl ?_
                    refine q_icmp_ge (tgt := 243) (pc2 := 228) C dL_law_225 (by decide) rfl (fun _ => ?_) (fun h9 => absurd (by decide) h9)
                    refine q_iload (pc2 := 245) C 0 dL_law_243 rfl rfl ?_
                    refine q_bipush (v := nI 15) (pc2 := 247) C dL_law_245 (by decide) rfl ?_
                    refine q_icmp_ge (tgt := 273) (pc2 := 250) C dL_law_247 (by decide) rfl (fun h9 => absurd h9 (by decide)) (fun _ => ?_)
                    refine q_aload_n (pc2 := 251) C 10 dL_law_250 rfl rfl rfl ?_
                    refine q_iload (pc2 := 253) C 0 dL_law_251 rfl rfl ?_
                    refine q_bipush (v := nI 7) (pc2 := 255) C dL_law_253 (by decide) rfl ?_
                    refine q_isub (v := nI 0) (pc2 := 256) C dL_law_255 (pk_sub (by decide)) rfl ?_
                    refine q_iload (pc2 := 258) C 1 dL_law_256 rfl rfl ?_
                    refine q_aload_n (pc2 := 259) C 9 dL_law_258 rfl rfl rfl ?_
                    refine q_aload (pc2 := 261) C 7 dL_law_259 rfl rfl ?_
                    refine q_aload (pc2 := 263) C 6 dL_law_261 rfl rfl ?_
                    refine q_aload (pc2 := 265) C 5 dL_law_263 rfl rfl ?_
                    refine q_aload (pc2 := 267) C 4 dL_law_265 rfl rfl ?_
                    refine q_PR (pc2 := 270) (As := [.ref (a 30), .int (nI 0), .int y9, .ref (a 40), .ref (a 42), .ref (a 43), .ref (a 44), .ref (a 45)]) (st := []) C (c_L_plays_0 l D ct hl a x fc fb fp fq fn fl y9 (50 * i) (by omega) r0) (va_cwS 8 C.w gL_law_L_plays rfl rfl rfl (by decide +kernel) ⟨Nat.le_of_ble_eq_true rfl, Nat.le_of_ble_eq_true rfl⟩) dL_law_267 rfl rfl (Nat.le_of_ble_eq_true rfl) ⟨(show (32 + 12 * i) + 2 ≤ 676308 by omega), (show (420 + 76 * i) + 12 ≤ 7072545 by omega)⟩ rfl (fun x1 fc1 fb1 fp1 fq1 fn1 fl1 hr1 => ?_)
                    refine q_goto (pc2 := 332) C dL_law_270 (by decide) ?_
                    exact hj332 x1 fc1 fb1 fp1 fq1 fn1 fl1 hr1
                  · skip
                    refine q_iload (pc2 := 223) C 0 dL_law_221 rfl rfl ?_
                    refine q_bipush (v := nI 7) (pc2 := 225) C dL_law_223 (by decide) rfl ?_
                    refine q_icmp_ge (tgt := 243) (pc2 := 228) C dL_law_225 (by decide) rfl (fun _ => ?_) (fun h9 => absurd (by decide) h9)
                    refine q_iload (pc2 := 245) C 0 dL_law_243 rfl rfl ?_
                    refine q_bipush (v := nI 15) (pc2 := 247) C dL_law_245 (by decide) rfl ?_
                    refine q_icmp_ge (tgt := 273) (pc2 := 250) C dL_law_247 (by decide) rfl (fun h9 => absurd h9 (by decide)) (fun _ => ?_)
                    refine q_aload_n (pc2 := 251) C 10 dL_law_250 rfl rfl rfl ?_
                    refine q_iload (pc2 := 253) C 0 dL_law_251 rfl rfl ?_
                    refine q_bipush (v := nI 7) (pc2 := 255) C dL_law_253 (by decide) rfl ?_
                    refine q_isub (v := nI 1) (pc2 := 256) C dL_law_255 (pk_sub (by decide)) rfl ?_
                    refine q_iload (pc2 := 258) C 1 dL_law_256 rfl rfl ?_
                    refine q_aload_n (pc2 := 259) C 9 dL_law_258 rfl rfl rfl ?_
                    refine q_aload (pc2 := 261) C 7 dL_law_259 rfl rfl ?_
                    refine q_aload (pc2 := 263) C 6 dL_law_261 rfl rfl ?_
                    refine q_aload (pc2 := 265) C 5 dL_law_263 rfl rfl ?_
                    refine q_aload (pc2 := 267) C 4 dL_law_265 rfl rfl ?_
                    refine q_PR (pc2 := 270) (As := [.ref (a 30), .int (nI 1), .int y9, .ref (a 40), .ref (a 42), .ref (a 43), .ref (a 44), .ref (a 45)]) (st := []) C (c_L_plays_1 l D ct hl a x fc fb fp fq fn fl y9 (50 * i) (by omega) r0) (va_cwS 8 C.w gL_law_L_plays rfl rfl rfl (by decide +kernel) ⟨Nat.le_of_ble_eq_true rfl, Nat.le_of_ble_eq_true rfl⟩) dL_law_267 rfl rfl (Nat.le_of_ble_eq_true rfl) ⟨(show (32 + 12 * i) + 2 ≤ 676308 by omega), (show (420 + 76 * i) + 12 ≤ 7072545 by omega)⟩ rfl (fun x1 fc1 fb1 fp1 fq1 fn1 fl1 hr1 => ?_)
                    refine q_goto (pc2 := 332) C dL_law_270 (by decide) ?_
                    exact hj332 x1 fc1 fb1 fp1 fq1 fn1 fl1 hr1
                  · skip
                    refine q_iload (pc2 := 223) C 0 dL_law_221 rfl rfl ?_
                    refine q_bipush (v := nI 7) (pc2 := 225) C dL_law_223 (by decide) rfl ?_
                    refine q_icmp_ge (tgt := 243) (pc2 := 228) C dL_law_225 (by decide) rfl (fun _ => ?_) (fun h9 => absurd (by decide) h9)
                    refine q_iload (pc2 := 245) C 0 dL_law_243 rfl rfl ?_
                    refine q_bipush (v := nI 15) (pc2 := 247) C dL_law_245 (by decide) rfl ?_
                    refine q_icmp_ge (tgt := 273) (pc2 := 250) C dL_law_247 (by decide) rfl (fun h9 => absurd h9 (by decide)) (fun _ => ?_)
                    refine q_aload_n (pc2 := 251) C 10 dL_law_250 rfl rfl rfl ?_
                    refine q_iload (pc2 := 253) C 0 dL_law_251 rfl rfl ?_
                    refine q_bipush (v := nI 7) (pc2 := 255) C dL_law_253 (by decide) rfl ?_
                    refine q_isub (v := nI 2) (pc2 := 256) C dL_law_255 (pk_sub (by decide)) rfl ?_
                    refine q_iload (pc2 := 258) C 1 dL_law_256 rfl rfl ?_
                    refine q_aload_n (pc2 := 259) C 9 dL_law_258 rfl rfl rfl ?_
                    refine q_aload (pc2 := 261) C 7 dL_law_259 rfl rfl ?_
                    refine q_aload (pc2 := 263) C 6 dL_law_261 rfl rfl ?_
                    refine q_aload (pc2 := 265) C 5 dL_law_263 rfl rfl ?_
                    refine q_aload (pc2 := 267) C 4 dL_law_265 rfl rfl ?_
                    refine q_PR (pc2 := 270) (As := [.ref (a 30), .int (nI 2), .int y9, .ref (a 40), .ref (a 42), .ref (a 43), .ref (a 44), .ref (a 45)]) (st := []) C (c_L_plays_2 l D ct hl a x fc fb fp fq fn fl y9 (50 * i) (by omega) r0) (va_cwS 8 C.w gL_law_L_plays rfl rfl rfl (by decide +kernel) ⟨Nat.le_of_ble_eq_true rfl, Nat.le_of_ble_eq_true rfl⟩) dL_law_267 rfl rfl (Nat.le_of_ble_eq_true rfl) ⟨(show (32 + 12 * i) + 2 ≤ 676308 by omega), (show (420 + 76 * i) + 12 ≤ 7072545 by omega)⟩ rfl (fun x1 fc1 fb1 fp1 fq1 fn1 fl1 hr1 => ?_)
                    refine q_goto (pc2 := 332) C dL_law_270 (by decide) ?_
                    exact hj332 x1 fc1 fb1 fp1 fq1 fn1 fl1 hr1
                  · skip
                    refine q_iload (pc2 := 223) C 0 dL_law_221 rfl rfl ?_
                    refine q_bipush (v := nI 7) (pc2 := 225) C dL_law_223 (by decide) rfl ?_
                    refine q_icmp_ge (tgt := 243) (pc2 := 228) C dL_law_225 (by decide) rfl (fun _ => ?_) (fun h9 => absurd (by decide) h9)
                    refine q_iload (pc2 := 245) C 0 dL_law_243 rfl rfl ?_
                    refine q_bipush (v := nI 15) (pc2 := 247) C dL_law_245 (by decide) rfl ?_
                    refine q_icmp_ge (tgt := 273) (pc2 := 250) C dL_law_247 (by decide) rfl (fun h9 => absurd h9 (by decide)) (fun _ => ?_)
                    refine q_aload_n (pc2 := 251) C 10 dL_law_250 rfl rfl rfl ?_
                    refine q_iload (pc2 := 253) C 0 dL_law_251 rfl rfl ?_
                    refine q_bipush (v := nI 7) (pc2 := 255) C dL_law_253 (by decide) rfl ?_
                    refine q_isub (v := nI 3) (pc2 := 256) C dL_law_255 (pk_sub (by decide)) rfl ?_
                    refine q_iload (pc2 := 258) C 1 dL_law_256 rfl rfl ?_
                    refine q_aload_n (pc2 := 259) C 9 dL_law_258 rfl rfl rfl ?_
                    refine q_aload (pc2 := 261) C 7 dL_law_259 rfl rfl ?_
                    refine q_aload (pc2 := 263) C 6 dL_law_261 rfl rfl ?_
                    refine q_aload (pc2 := 265) C 5 dL_law_263 rfl rfl ?_
                    refine q_aload (pc2 := 267) C 4 dL_law_265 rfl rfl ?_
                    refine q_PR (pc2 := 270) (As := [.ref (a 30), .int (nI 3), .int y9, .ref (a 40), .ref (a 42), .ref (a 43), .ref (a 44), .ref (a 45)]) (st := []) C (c_L_plays_3 l D ct hl a x fc fb fp fq fn fl y9 (50 * i) (by omega) r0) (va_cwS 8 C.w gL_law_L_plays rfl rfl rfl (by decide +kernel) ⟨Nat.le_of_ble_eq_true rfl, Nat.le_of_ble_eq_true rfl⟩) dL_law_267 rfl rfl (Nat.le_of_ble_eq_true rfl) ⟨(show (32 + 12 * i) + 2 ≤ 676308 by omega), (show (420 + 76 * i) + 12 ≤ 7072545 by omega)⟩ rfl (fun x1 fc1 fb1 fp1 fq1 fn1 fl1 hr1 => ?_)
                    refine q_goto (pc2 := 332) C dL_law_270 (by decide) ?_
                    exact hj332 x1 fc1 fb1 fp1 fq1 fn1 fl1 hr1
                  · skip
                    refine q_iload (pc2 := 223) C 0 dL_law_221 rfl rfl ?_
                    refine q_bipush (v := nI 7) (pc2 := 225) C dL_law_223 (by decide) rfl ?_
                    refine q_icmp_ge (tgt := 243) (pc2 := 228) C dL_law_225 (by decide) rfl (fun _ => ?_) (fun h9 => absurd (by decide) h9)
                    refine q_iload (pc2 := 245) C 0 dL_law_243 rfl rfl ?_
                    refine q_bipush (v := nI 15) (pc2 := 247) C dL_law_245 (by decide) rfl ?_
                    refine q_icmp_ge (tgt := 273) (pc2 := 250) C dL_law_247 (by decide) rfl (fun h9 => absurd h9 (by decide)) (fun _ => ?_)
                    refine q_aload_n (pc2 := 251) C 10 dL_law_250 rfl rfl rfl ?_
                    refine q_iload (pc2 := 253) C 0 dL_law_251 rfl rfl ?_
                    refine q_bipush (v := nI 7) (pc2 := 255) C dL_law_253 (by decide) rfl ?_
                    refine q_isub (v := nI 4) (pc2 := 256) C dL_law_255 (pk_sub (by decide)) rfl ?_
                    refine q_iload (pc2 := 258) C 1 dL_law_256 rfl rfl ?_
                    refine q_aload_n (pc2 := 259) C 9 dL_law_258 rfl rfl rfl ?_
                    refine q_aload (pc2 := 261) C 7 dL_law_259 rfl rfl ?_
                    refine q_aload (pc2 := 263) C 6 dL_law_261 rfl rfl ?_
                    refine q_aload (pc2 := 265) C 5 dL_law_263 rfl rfl ?_
                    refine q_aload (pc2 := 267) C 4 dL_law_265 rfl rfl ?_
                    refine q_PR (pc2 := 270) (As := [.ref (a 30), .int (nI 4), .int y9, .ref (a 40), .ref (a 42), .ref (a 43), .ref (a 44), .ref (a 45)]) (st := []) C (c_L_plays_4 l D ct hl a x fc fb fp fq fn fl y9 (50 * i) (by omega) r0) (va_cwS 8 C.w gL_law_L_plays rfl rfl rfl (by decide +kernel) ⟨Nat.le_of_ble_eq_true rfl, Nat.le_of_ble_eq_true rfl⟩) dL_law_267 rfl rfl (Nat.le_of_ble_eq_true rfl) ⟨(show (32 + 12 * i) + 2 ≤ 676308 by omega), (show (420 + 76 * i) + 12 ≤ 7072545 by omega)⟩ rfl (fun x1 fc1 fb1 fp1 fq1 fn1 fl1 hr1 => ?_)
                    refine q_goto (pc2 := 332) C dL_law_270 (by decide) ?_
                    exact hj332 x1 fc1 fb1 fp1 fq1 fn1 fl1 hr1
                  · skip
                    refine q_iload (pc2 := 223) C 0 dL_law_221 rfl rfl ?_
                    refine q_bipush (v := nI 7) (pc2 := 225) C dL_law_223 (by decide) rfl ?_
                    refine q_icmp_ge (tgt := 243) (pc2 := 228) C dL_law_225 (by decide) rfl (fun _ => ?_) (fun h9 => absurd (by decide) h9)
                    refine q_iload (pc2 := 245) C 0 dL_law_243 rfl rfl ?_
                    refine q_bipush (v := nI 15) (pc2 := 247) C dL_law_245 (by decide) rfl ?_
                    refine q_icmp_ge (tgt := 273) (pc2 := 250) C dL_law_247 (by decide) rfl (fun h9 => absurd h9 (by decide)) (fun _ => ?_)
                    refine q_aload_n (pc2 := 251) C 10 dL_law_250 rfl rfl rfl ?_
                    refine q_iload (pc2 := 253) C 0 dL_law_251 rfl rfl ?_
                    refine q_bipush (v := nI 7) (pc2 := 255) C dL_law_253 (by decide) rfl ?_
                    refine q_isub (v := nI 5) (pc2 := 256) C dL_law_255 (pk_sub (by decide)) rfl ?_
                    refine q_iload (pc2 := 258) C 1 dL_law_256 rfl rfl ?_
                    refine q_aload_n (pc2 := 259) C 9 dL_law_258 rfl rfl rfl ?_
                    refine q_aload (pc2 := 261) C 7 dL_law_259 rfl rfl ?_
                    refine q_aload (pc2 := 263) C 6 dL_law_261 rfl rfl ?_
                    refine q_aload (pc2 := 265) C 5 dL_law_263 rfl rfl ?_
                    refine q_aload (pc2 := 267) C 4 dL_law_265 rfl rfl ?_
                    refine q_PR (pc2 := 270) (As := [.ref (a 30), .int (nI 5), .int y9, .ref (a 40), .ref (a 42), .ref (a 43), .ref (a 44), .ref (a 45)]) (st := []) C (c_L_plays_5 l D ct hl a x fc fb fp fq fn fl y9 (50 * i) (by omega) r0) (va_cwS 8 C.w gL_law_L_plays rfl rfl rfl (by decide +kernel) ⟨Nat.le_of_ble_eq_true rfl, Nat.le_of_ble_eq_true rfl⟩) dL_law_267 rfl rfl (Nat.le_of_ble_eq_true rfl) ⟨(show (32 + 12 * i) + 2 ≤ 676308 by omega), (show (420 + 76 * i) + 12 ≤ 7072545 by omega)⟩ rfl (fun x1 fc1 fb1 fp1 fq1 fn1 fl1 hr1 => ?_)
                    refine q_goto (pc2 := 332) C dL_law_270 (by decide) ?_
                    exact hj332 x1 fc1 fb1 fp1 fq1 fn1 fl1 hr1
                  · skip
                    refine q_iload (pc2 := 223) C 0 dL_law_221 rfl rfl ?_
                    refine q_bipush (v := nI 7) (pc2 := 225) C dL_law_223 (by decide) rfl ?_
                    refine q_icmp_ge (tgt := 243) (pc2 := 228) C dL_law_225 (by decide) rfl (fun _ => ?_) (fun h9 => absurd (by decide) h9)
                    refine q_iload (pc2 := 245) C 0 dL_law_243 rfl rfl ?_
                    refine q_bipush (v := nI 15) (pc2 := 247) C dL_law_245 (by decide) rfl ?_
                    refine q_icmp_ge (tgt := 273) (pc2 := 250) C dL_law_247 (by decide) rfl (fun h9 => absurd h9 (by decide)) (fun _ => ?_)
                    refine q_aload_n (pc2 := 251) C 10 dL_law_250 rfl rfl rfl ?_
                    refine q_iload (pc2 := 253) C 0 dL_law_251 rfl rfl ?_
                    refine q_bipush (v := nI 7) (pc2 := 255) C dL_law_253 (by decide) rfl ?_
                    refine q_isub (v := nI 6) (pc2 := 256) C dL_law_255 (pk_sub (by decide)) rfl ?_
                    refine q_iload (pc2 := 258) C 1 dL_law_256 rfl rfl ?_
                    refine q_aload_n (pc2 := 259) C 9 dL_law_258 rfl rfl rfl ?_
                    refine q_aload (pc2 := 261) C 7 dL_law_259 rfl rfl ?_
                    refine q_aload (pc2 := 263) C 6 dL_law_261 rfl rfl ?_
                    refine q_aload (pc2 := 265) C 5 dL_law_263 rfl rfl ?_
                    refine q_aload (pc2 := 267) C 4 dL_law_265 rfl rfl ?_
                    refine q_PR (pc2 := 270) (As := [.ref (a 30), .int (nI 6), .int y9, .ref (a 40), .ref (a 42), .ref (a 43), .ref (a 44), .ref (a 45)]) (st := []) C (c_L_plays_6 l D ct hl a x fc fb fp fq fn fl y9 (50 * i) (by omega) r0) (va_cwS 8 C.w gL_law_L_plays rfl rfl rfl (by decide +kernel) ⟨Nat.le_of_ble_eq_true rfl, Nat.le_of_ble_eq_true rfl⟩) dL_law_267 rfl rfl (Nat.le_of_ble_eq_true rfl) ⟨(show (32 + 12 * i) + 2 ≤ 676308 by omega), (show (420 + 76 * i) + 12 ≤ 7072545 by omega)⟩ rfl (fun x1 fc1 fb1 fp1 fq1 fn1 fl1 hr1 => ?_)
                    refine q_goto (pc2 := 332) C dL_law_270 (by decide) ?_
                    exact hj332 x1 fc1 fb1 fp1 fq1 fn1 fl1 hr1
                  · skip
                    refine q_iload (pc2 := 223) C 0 dL_law_221 rfl rfl ?_
                    refine q_bipush (v := nI 7) (pc2 := 225) C dL_law_223 (by decide) rfl ?_
                    refine q_icmp_ge (tgt := 243) (pc2 := 228) C dL_law_225 (by decide) rfl (fun _ => ?_) (fun h9 => absurd (by decide) h9)
                    refine q_iload (pc2 := 245) C 0 dL_law_243 rfl rfl ?_
                    refine q_bipush (v := nI 15) (pc2 := 247) C dL_law_245 (by decide) rfl ?_
                    refine q_icmp_ge (tgt := 273) (pc2 := 250) C dL_law_247 (by decide) rfl (fun h9 => absurd h9 (by decide)) (fun _ => ?_)
                    refine q_aload_n (pc2 := 251) C 10 dL_law_250 rfl rfl rfl ?_
                    refine q_iload (pc2 := 253) C 0 dL_law_251 rfl rfl ?_
                    refine q_bipush (v := nI 7) (pc2 := 255) C dL_law_253 (by decide) rfl ?_
                    refine q_isub (v := nI 7) (pc2 := 256) C dL_law_255 (pk_sub (by decide)) rfl ?_
                    refine q_iload (pc2 := 258) C 1 dL_law_256 rfl rfl ?_
                    refine q_aload_n (pc2 := 259) C 9 dL_law_258 rfl rfl rfl ?_
                    refine q_aload (pc2 := 261) C 7 dL_law_259 rfl rfl ?_
                    refine q_aload (pc2 := 263) C 6 dL_law_261 rfl rfl ?_
                    refine q_aload (pc2 := 265) C 5 dL_law_263 rfl rfl ?_
                    refine q_aload (pc2 := 267) C 4 dL_law_265 rfl rfl ?_
                    refine q_PR (pc2 := 270) (As := [.ref (a 30), .int (nI 7), .int y9, .ref (a 40), .ref (a 42), .ref (a 43), .ref (a 44), .ref (a 45)]) (st := []) C (c_L_plays_7 l D ct hl a x fc fb fp fq fn fl y9 (50 * i) (by omega) r0) (va_cwS 8 C.w gL_law_L_plays rfl rfl rfl (by decide +kernel) ⟨Nat.le_of_ble_eq_true rfl, Nat.le_of_ble_eq_true rfl⟩) dL_law_267 rfl rfl (Nat.le_of_ble_eq_true rfl) ⟨(show (32 + 12 * i) + 2 ≤ 676308 by omega), (show (420 + 76 * i) + 12 ≤ 7072545 by omega)⟩ rfl (fun x1 fc1 fb1 fp1 fq1 fn1 fl1 hr1 => ?_)
                    refine q_goto (pc2 := 332) C dL_law_270 (by decide) ?_
                    exact hj332 x1 fc1 fb1 fp1 fq1 fn1 fl1 hr1
                  · skip
                    refine q_iload (pc2 := 223) C 0 dL_law_221 rfl rfl ?_
                    refine q_bipush (v := nI 7) (pc2 := 225) C dL_law_223 (by decide) rfl ?_
                    refine q_icmp_ge (tgt := 243) (pc2 := 228) C dL_law_225 (by decide) rfl (fun _ => ?_) (fun h9 => absurd (by decide) h9)
                    refine q_iload (pc2 := 245) C 0 dL_law_243 rfl rfl ?_
                    refine q_bipush (v := nI 15) (pc2 := 247) C dL_law_245 (by decide) rfl ?_
                    refine q_icmp_ge (tgt := 273) (pc2 := 250) C dL_law_247 (by decide) rfl (fun _ => ?_) (fun h9 => absurd (by decide) h9)
                    refine q_iload (pc2 := 275) C 0 dL_law_273 rfl rfl ?_
                    refine q_bipush (v := nI 17) (pc2 := 277) C dL_law_275 (by decide) rfl ?_
                    refine q_icmp_ge (tgt := 294) (pc2 := 280) C dL_law_277 (by decide) rfl (fun h9 => absurd h9 (by decide)) (fun _ => ?_)
                    refine q_aload_n (pc2 := 281) C 10 dL_law_280 rfl rfl rfl ?_
                    refine q_iconst (v := nI 2) (pc2 := 282) C dL_law_281 (by decide) rfl ?_
                    refine q_iload (pc2 := 284) C 1 dL_law_282 rfl rfl ?_
                    refine q_aload_n (pc2 := 285) C 9 dL_law_284 rfl rfl rfl ?_
                    refine q_aload_n (pc2 := 286) C 8 dL_law_285 rfl rfl rfl ?_
                    refine q_aload (pc2 := 288) C 7 dL_law_286 rfl rfl ?_
                    refine q_PR (pc2 := 291) (As := [.ref (a 30), .int (nI 2), .int y9, .ref (a 40), .ref (a 41), .ref (a 42)]) (st := []) C (c_L_rigs_2 l D ct hl a x fc fb fp fq fn fl y9 (50 * i) r0) (va_cwS 6 C.w gL_law_L_rigs rfl rfl rfl (by decide +kernel) ⟨Nat.le_of_ble_eq_true rfl, Nat.le_of_ble_eq_true rfl⟩) dL_law_288 rfl rfl (Nat.le_of_ble_eq_true rfl) ⟨(show (32 + 12 * i) + 2 ≤ 676308 by omega), (show (420 + 76 * i) + 12 ≤ 7072545 by omega)⟩ rfl (fun x1 fc1 fb1 fp1 fq1 fn1 fl1 hr1 => ?_)
                    refine q_goto (pc2 := 332) C dL_law_291 (by decide) ?_
                    exact hj332 x1 fc1 fb1 fp1 fq1 fn1 fl1 hr1
                  · skip
                    refine q_iload (pc2 := 223) C 0 dL_law_221 rfl rfl ?_
                    refine q_bipush (v := nI 7) (pc2 := 225) C dL_law_223 (by decide) rfl ?_
                    refine q_icmp_ge (tgt := 243) (pc2 := 228) C dL_law_225 (by decide) rfl (fun _ => ?_) (fun h9 => absurd (by decide) h9)
                    refine q_iload (pc2 := 245) C 0 dL_law_243 rfl rfl ?_
                    refine q_bipush (v := nI 15) (pc2 := 247) C dL_law_245 (by decide) rfl ?_
                    refine q_icmp_ge (tgt := 273) (pc2 := 250) C dL_law_247 (by decide) rfl (fun _ => ?_) (fun h9 => absurd (by decide) h9)
                    refine q_iload (pc2 := 275) C 0 dL_law_273 rfl rfl ?_
                    refine q_bipush (v := nI 17) (pc2 := 277) C dL_law_275 (by decide) rfl ?_
                    refine q_icmp_ge (tgt := 294) (pc2 := 280) C dL_law_277 (by decide) rfl (fun h9 => absurd h9 (by decide)) (fun _ => ?_)
                    refine q_aload_n (pc2 := 281) C 10 dL_law_280 rfl rfl rfl ?_
                    refine q_iconst (v := nI 2) (pc2 := 282) C dL_law_281 (by decide) rfl ?_
                    refine q_iload (pc2 := 284) C 1 dL_law_282 rfl rfl ?_
                    refine q_aload_n (pc2 := 285) C 9 dL_law_284 rfl rfl rfl ?_
                    refine q_aload_n (pc2 := 286) C 8 dL_law_285 rfl rfl rfl ?_
                    refine q_aload (pc2 := 288) C 7 dL_law_286 rfl rfl ?_
                    refine q_PR (pc2 := 291) (As := [.ref (a 30), .int (nI 2), .int y9, .ref (a 40), .ref (a 41), .ref (a 42)]) (st := []) C (c_L_rigs_2 l D ct hl a x fc fb fp fq fn fl y9 (50 * i) r0) (va_cwS 6 C.w gL_law_L_rigs rfl rfl rfl (by decide +kernel) ⟨Nat.le_of_ble_eq_true rfl, Nat.le_of_ble_eq_true rfl⟩) dL_law_288 rfl rfl (Nat.le_of_ble_eq_true rfl) ⟨(show (32 + 12 * i) + 2 ≤ 676308 by omega), (show (420 + 76 * i) + 12 ≤ 7072545 by omega)⟩ rfl (fun x1 fc1 fb1 fp1 fq1 fn1 fl1 hr1 => ?_)
                    refine q_goto (pc2 := 332) C dL_law_291 (by decide) ?_
                    exact hj332 x1 fc1 fb1 fp1 fq1 fn1 fl1 hr1
                  · skip
                    refine q_iload (pc2 := 223) C 0 dL_law_221 rfl rfl ?_
                    refine q_bipush (v := nI 7) (pc2 := 225) C dL_law_223 (by decide) rfl ?_
                    refine q_icmp_ge (tgt := 243) (pc2 := 228) C dL_law_225 (by decide) rfl (fun _ => ?_) (fun h9 => absurd (by decide) h9)
                    refine q_iload (pc2 := 245) C 0 dL_law_243 rfl rfl ?_
                    refine q_bipush (v := nI 15) (pc2 := 247) C dL_law_245 (by decide) rfl ?_
                    refine q_icmp_ge (tgt := 273) (pc2 := 250) C dL_law_247 (by decide) rfl (fun _ => ?_) (fun h9 => absurd (by decide) h9)
                    refine q_iload (pc2 := 275) C 0 dL_law_273 rfl rfl ?_
                    refine q_bipush (v := nI 17) (pc2 := 277) C dL_law_275 (by decide) rfl ?_
                    refine q_icmp_ge (tgt := 294) (pc2 := 280) C dL_law_277 (by decide) rfl (fun _ => ?_) (fun h9 => absurd (by decide) h9)
                    refine q_aload_n (pc2 := 295) C 10 dL_law_294 rfl rfl rfl ?_
                    refine q_iload (pc2 := 297) C 0 dL_law_295 rfl rfl ?_
                    refine q_bipush (v := nI 19) (pc2 := 299) C dL_law_297 (by decide) rfl ?_
                    refine q_icmp_ge (tgt := 306) (pc2 := 302) C dL_law_299 (by decide) rfl (fun h9 => absurd h9 (by decide)) (fun _ => ?_)
                    refine q_iconst (v := nI 1) (pc2 := 303) C dL_law_302 (by decide) rfl ?_
                    refine q_goto (pc2 := 318) C dL_law_303 (by decide) ?_
                    refine q_iload (pc2 := 320) C 1 dL_law_318 rfl rfl ?_
                    refine q_aload_n (pc2 := 321) C 9 dL_law_320 rfl rfl rfl ?_
                    refine q_aload (pc2 := 323) C 7 dL_law_321 rfl rfl ?_
                    refine q_aload (pc2 := 325) C 6 dL_law_323 rfl rfl ?_
                    refine q_aload (pc2 := 327) C 5 dL_law_325 rfl rfl ?_
                    refine q_aload (pc2 := 329) C 4 dL_law_327 rfl rfl ?_
                    refine q_PR (pc2 := 332) (As := [.ref (a 30), .int (nI 1), .int y9, .ref (a 40), .ref (a 42), .ref (a 43), .ref (a 44), .ref (a 45)]) (st := []) C (c_L_plays_1 l D ct hl a x fc fb fp fq fn fl y9 (50 * i) (by omega) r0) (va_cwS 8 C.w gL_law_L_plays rfl rfl rfl (by decide +kernel) ⟨Nat.le_of_ble_eq_true rfl, Nat.le_of_ble_eq_true rfl⟩) dL_law_329 rfl rfl (Nat.le_of_ble_eq_true rfl) ⟨(show (32 + 12 * i) + 2 ≤ 676308 by omega), (show (420 + 76 * i) + 12 ≤ 7072545 by omega)⟩ rfl (fun x1 fc1 fb1 fp1 fq1 fn1 fl1 hr1 => ?_)
                    exact hj332 x1 fc1 fb1 fp1 fq1 fn1 fl1 hr1
                  · skip
                    refine q_iload (pc2 := 223) C 0 dL_law_221 rfl rfl ?_
                    refine q_bipush (v := nI 7) (pc2 := 225) C dL_law_223 (by decide) rfl ?_
                    refine q_icmp_ge (tgt := 243) (pc2 := 228) C dL_law_225 (by decide) rfl (fun _ => ?_) (fun h9 => absurd (by decide) h9)
                    refine q_iload (pc2 := 245) C 0 dL_law_243 rfl rfl ?_
                    refine q_bipush (v := nI 15) (pc2 := 247) C dL_law_245 (by decide) rfl ?_
                    refine q_icmp_ge (tgt := 273) (pc2 := 250) C dL_law_247 (by decide) rfl (fun _ => ?_) (fun h9 => absurd (by decide) h9)
                    refine q_iload (pc2 := 275) C 0 dL_law_273 rfl rfl ?_
                    refine q_bipush (v := nI 17) (pc2 := 277) C dL_law_275 (by decide) rfl ?_
                    refine q_icmp_ge (tgt := 294) (pc2 := 280) C dL_law_277 (by decide) rfl (fun _ => ?_) (fun h9 => absurd (by decide) h9)
                    refine q_aload_n (pc2 := 295) C 10 dL_law_294 rfl rfl rfl ?_
                    refine q_iload (pc2 := 297) C 0 dL_law_295 rfl rfl ?_
                    refine q_bipush (v := nI 19) (pc2 := 299) C dL_law_297 (by decide) rfl ?_
                    refine q_icmp_ge (tgt := 306) (pc2 := 302) C dL_law_299 (by decide) rfl (fun h9 => absurd h9 (by decide)) (fun _ => ?_)
                    refine q_iconst (v := nI 1) (pc2 := 303) C dL_law_302 (by decide) rfl ?_
                    refine q_goto (pc2 := 318) C dL_law_303 (by decide) ?_
                    refine q_iload (pc2 := 320) C 1 dL_law_318 rfl rfl ?_
                    refine q_aload_n (pc2 := 321) C 9 dL_law_320 rfl rfl rfl ?_
                    refine q_aload (pc2 := 323) C 7 dL_law_321 rfl rfl ?_
                    refine q_aload (pc2 := 325) C 6 dL_law_323 rfl rfl ?_
                    refine q_aload (pc2 := 327) C 5 dL_law_325 rfl rfl ?_
                    refine q_aload (pc2 := 329) C 4 dL_law_327 rfl rfl ?_
                    refine q_PR (pc2 := 332) (As := [.ref (a 30), .int (nI 1), .int y9, .ref (a 40), .ref (a 42), .ref (a 43), .ref (a 44), .ref (a 45)]) (st := []) C (c_L_plays_1 l D ct hl a x fc fb fp fq fn fl y9 (50 * i) (by omega) r0) (va_cwS 8 C.w gL_law_L_plays rfl rfl rfl (by decide +kernel) ⟨Nat.le_of_ble_eq_true rfl, Nat.le_of_ble_eq_true rfl⟩) dL_law_329 rfl rfl (Nat.le_of_ble_eq_true rfl) ⟨(show (32 + 12 * i) + 2 ≤ 676308 by omega), (show (420 + 76 * i) + 12 ≤ 7072545 by omega)⟩ rfl (fun x1 fc1 fb1 fp1 fq1 fn1 fl1 hr1 => ?_)
                    exact hj332 x1 fc1 fb1 fp1 fq1 fn1 fl1 hr1
                  · skip
                    refine q_iload (pc2 := 223) C 0 dL_law_221 rfl rfl ?_
                    refine q_bipush (v := nI 7) (pc2 := 225) C dL_law_223 (by decide) rfl ?_
                    refine q_icmp_ge (tgt := 243) (pc2 := 228) C dL_law_225 (by decide) rfl (fun _ => ?_) (fun h9 => absurd (by decide) h9)
                    refine q_iload (pc2 := 245) C 0 dL_law_243 rfl rfl ?_
                    refine q_bipush (v := nI 15) (pc2 := 247) C dL_law_245 (by decide) rfl ?_
                    refine q_icmp_ge (tgt := 273) (pc2 := 250) C dL_law_247 (by decide) rfl (fun _ => ?_) (fun h9 => absurd (by decide) h9)
                    refine q_iload (pc2 := 275) C 0 dL_law_273 rfl rfl ?_
                    refine q_bipush (v := nI 17) (pc2 := 277) C dL_law_275 (by decide) rfl ?_
                    refine q_icmp_ge (tgt := 294) (pc2 := 280) C dL_law_277 (by decide) rfl (fun _ => ?_) (fun h9 => absurd (by decide) h9)
                    refine q_aload_n (pc2 := 295) C 10 dL_law_294 rfl rfl rfl ?_
                    refine q_iload (pc2 := 297) C 0 dL_law_295 rfl rfl ?_
                    refine q_bipush (v := nI 19) (pc2 := 299) C dL_law_297 (by decide) rfl ?_
                    refine q_icmp_ge (tgt := 306) (pc2 := 302) C dL_law_299 (by decide) rfl (fun _ => ?_) (fun h9 => absurd (by decide) h9)
                    refine q_iload (pc2 := 308) C 0 dL_law_306 rfl rfl ?_
                    refine q_bipush (v := nI 21) (pc2 := 310) C dL_law_308 (by decide) rfl ?_
                    refine q_icmp_ge (tgt := 317) (pc2 := 313) C dL_law_310 (by decide) rfl (fun h9 => absurd h9 (by decide)) (fun _ => ?_)
                    refine q_iconst (v := nI 2) (pc2 := 314) C dL_law_313 (by decide) rfl ?_
                    refine q_goto (pc2 := 318) C dL_law_314 (by decide) ?_
                    refine q_iload (pc2 := 320) C 1 dL_law_318 rfl rfl ?_
                    refine q_aload_n (pc2 := 321) C 9 dL_law_320 rfl rfl rfl ?_
                    refine q_aload (pc2 := 323) C 7 dL_law_321 rfl rfl ?_
                    refine q_aload (pc2 := 325) C 6 dL_law_323 rfl rfl ?_
                    refine q_aload (pc2 := 327) C 5 dL_law_325 rfl rfl ?_
                    refine q_aload (pc2 := 329) C 4 dL_law_327 rfl rfl ?_
                    refine q_PR (pc2 := 332) (As := [.ref (a 30), .int (nI 2), .int y9, .ref (a 40), .ref (a 42), .ref (a 43), .ref (a 44), .ref (a 45)]) (st := []) C (c_L_plays_2 l D ct hl a x fc fb fp fq fn fl y9 (50 * i) (by omega) r0) (va_cwS 8 C.w gL_law_L_plays rfl rfl rfl (by decide +kernel) ⟨Nat.le_of_ble_eq_true rfl, Nat.le_of_ble_eq_true rfl⟩) dL_law_329 rfl rfl (Nat.le_of_ble_eq_true rfl) ⟨(show (32 + 12 * i) + 2 ≤ 676308 by omega), (show (420 + 76 * i) + 12 ≤ 7072545 by omega)⟩ rfl (fun x1 fc1 fb1 fp1 fq1 fn1 fl1 hr1 => ?_)
                    exact hj332 x1 fc1 fb1 fp1 fq1 fn1 fl1 hr1
                  · skip
                    refine q_iload (pc2 := 223) C 0 dL_law_221 rfl rfl ?_
                    refine q_bipush (v := nI 7) (pc2 := 225) C dL_law_223 (by decide) rfl ?_
                    refine q_icmp_ge (tgt := 243) (pc2 := 228) C dL_law_225 (by decide) rfl (fun _ => ?_) (fun h9 => absurd (by decide) h9)
                    refine q_iload (pc2 := 245) C 0 dL_law_243 rfl rfl ?_
                    refine q_bipush (v := nI 15) (pc2 := 247) C dL_law_245 (by decide) rfl ?_
                    refine q_icmp_ge (tgt := 273) (pc2 := 250) C dL_law_247 (by decide) rfl (fun _ => ?_) (fun h9 => absurd (by decide) h9)
                    refine q_iload (pc2 := 275) C 0 dL_law_273 rfl rfl ?_
                    refine q_bipush (v := nI 17) (pc2 := 277) C dL_law_275 (by decide) rfl ?_
                    refine q_icmp_ge (tgt := 294) (pc2 := 280) C dL_law_277 (by decide) rfl (fun _ => ?_) (fun h9 => absurd (by decide) h9)
                    refine q_aload_n (pc2 := 295) C 10 dL_law_294 rfl rfl rfl ?_
                    refine q_iload (pc2 := 297) C 0 dL_law_295 rfl rfl ?_
                    refine q_bipush (v := nI 19) (pc2 := 299) C dL_law_297 (by decide) rfl ?_
                    refine q_icmp_ge (tgt := 306) (pc2 := 302) C dL_law_299 (by decide) rfl (fun _ => ?_) (fun h9 => absurd (by decide) h9)
                    refine q_iload (pc2 := 308) C 0 dL_law_306 rfl rfl ?_
                    refine q_bipush (v := nI 21) (pc2 := 310) C dL_law_308 (by decide) rfl ?_
                    refine q_icmp_ge (tgt := 317) (pc2 := 313) C dL_law_310 (by decide) rfl (fun h9 => absurd h9 (by decide)) (fun _ => ?_)
                    refine q_iconst (v := nI 2) (pc2 := 314) C dL_law_313 (by decide) rfl ?_
                    refine q_goto (pc2 := 318) C dL_law_314 (by decide) ?_
                    refine q_iload (pc2 := 320) C 1 dL_law_318 rfl rfl ?_
                    refine q_aload_n (pc2 := 321) C 9 dL_law_320 rfl rfl rfl ?_
                    refine q_aload (pc2 := 323) C 7 dL_law_321 rfl rfl ?_
                    refine q_aload (pc2 := 325) C 6 dL_law_323 rfl rfl ?_
                    refine q_aload (pc2 := 327) C 5 dL_law_325 rfl rfl ?_
                    refine q_aload (pc2 := 329) C 4 dL_law_327 rfl rfl ?_
                    refine q_PR (pc2 := 332) (As := [.ref (a 30), .int (nI 2), .int y9, .ref (a 40), .ref (a 42), .ref (a 43), .ref (a 44), .ref (a 45)]) (st := []) C (c_L_plays_2 l D ct hl a x fc fb fp fq fn fl y9 (50 * i) (by omega) r0) (va_cwS 8 C.w gL_law_L_plays rfl rfl rfl (by decide +kernel) ⟨Nat.le_of_ble_eq_true rfl, Nat.le_of_ble_eq_true rfl⟩) dL_law_329 rfl rfl (Nat.le_of_ble_eq_true rfl) ⟨(show (32 + 12 * i) + 2 ≤ 676308 by omega), (show (420 + 76 * i) + 12 ≤ 7072545 by omega)⟩ rfl (fun x1 fc1 fb1 fp1 fq1 fn1 fl1 hr1 => ?_)
                    exact hj332 x1 fc1 fb1 fp1 fq1 fn1 fl1 hr1
                  · skip
                    refine q_iload (pc2 := 223) C 0 dL_law_221 rfl rfl ?_
                    refine q_bipush (v := nI 7) (pc2 := 225) C dL_law_223 (by decide) rfl ?_
                    refine q_icmp_ge (tgt := 243) (pc2 := 228) C dL_law_225 (by decide) rfl (fun _ => ?_) (fun h9 => absurd (by decide) h9)
                    refine q_iload (pc2 := 245) C 0 dL_law_243 rfl rfl ?_
                    refine q_bipush (v := nI 15) (pc2 := 247) C dL_law_245 (by decide) rfl ?_
                    refine q_icmp_ge (tgt := 273) (pc2 := 250) C dL_law_247 (by decide) rfl (fun _ => ?_) (fun h9 => absurd (by decide) h9)
                    refine q_iload (pc2 := 275) C 0 dL_law_273 rfl rfl ?_
                    refine q_bipush (v := nI 17) (pc2 := 277) C dL_law_275 (by decide) rfl ?_
                    refine q_icmp_ge (tgt := 294) (pc2 := 280) C dL_law_277 (by decide) rfl (fun _ => ?_) (fun h9 => absurd (by decide) h9)
                    refine q_aload_n (pc2 := 295) C 10 dL_law_294 rfl rfl rfl ?_
                    refine q_iload (pc2 := 297) C 0 dL_law_295 rfl rfl ?_
                    refine q_bipush (v := nI 19) (pc2 := 299) C dL_law_297 (by decide) rfl ?_
                    refine q_icmp_ge (tgt := 306) (pc2 := 302) C dL_law_299 (by decide) rfl (fun _ => ?_) (fun h9 => absurd (by decide) h9)
                    refine q_iload (pc2 := 308) C 0 dL_law_306 rfl rfl ?_
                    refine q_bipush (v := nI 21) (pc2 := 310) C dL_law_308 (by decide) rfl ?_
                    refine q_icmp_ge (tgt := 317) (pc2 := 313) C dL_law_310 (by decide) rfl (fun _ => ?_) (fun h9 => absurd (by decide) h9)
                    refine q_iconst (v := nI 3) (pc2 := 318) C dL_law_317 (by decide) rfl ?_
                    refine q_iload (pc2 := 320) C 1 dL_law_318 rfl rfl ?_
                    refine q_aload_n (pc2 := 321) C 9 dL_law_320 rfl rfl rfl ?_
                    refine q_aload (pc2 := 323) C 7 dL_law_321 rfl rfl ?_
                    refine q_aload (pc2 := 325) C 6 dL_law_323 rfl rfl ?_
                    refine q_aload (pc2 := 327) C 5 dL_law_325 rfl rfl ?_
                    refine q_aload (pc2 := 329) C 4 dL_law_327 rfl rfl ?_
                    refine q_PR (pc2 := 332) (As := [.ref (a 30), .int (nI 3), .int y9, .ref (a 40), .ref (a 42), .ref (a 43), .ref (a 44), .ref (a 45)]) (st := []) C (c_L_plays_3 l D ct hl a x fc fb fp fq fn fl y9 (50 * i) (by omega) r0) (va_cwS 8 C.w gL_law_L_plays rfl rfl rfl (by decide +kernel) ⟨Nat.le_of_ble_eq_true rfl, Nat.le_of_ble_eq_true rfl⟩) dL_law_329 rfl rfl (Nat.le_of_ble_eq_true rfl) ⟨(show (32 + 12 * i) + 2 ≤ 676308 by omega), (show (420 + 76 * i) + 12 ≤ 7072545 by omega)⟩ rfl (fun x1 fc1 fb1 fp1 fq1 fn1 fl1 hr1 => ?_)
                    exact hj332 x1 fc1 fb1 fp1 fq1 fn1 fl1 hr1
                  · skip
                    refine q_iload (pc2 := 223) C 0 dL_law_221 rfl rfl ?_
                    refine q_bipush (v := nI 7) (pc2 := 225) C dL_law_223 (by decide) rfl ?_
                    refine q_icmp_ge (tgt := 243) (pc2 := 228) C dL_law_225 (by decide) rfl (fun _ => ?_) (fun h9 => absurd (by decide) h9)
                    refine q_iload (pc2 := 245) C 0 dL_law_243 rfl rfl ?_
                    refine q_bipush (v := nI 15) (pc2 := 247) C dL_law_245 (by decide) rfl ?_
                    refine q_icmp_ge (tgt := 273) (pc2 := 250) C dL_law_247 (by decide) rfl (fun _ => ?_) (fun h9 => absurd (by decide) h9)
                    refine q_iload (pc2 := 275) C 0 dL_law_273 rfl rfl ?_
                    refine q_bipush (v := nI 17) (pc2 := 277) C dL_law_275 (by decide) rfl ?_
                    refine q_icmp_ge (tgt := 294) (pc2 := 280) C dL_law_277 (by decide) rfl (fun _ => ?_) (fun h9 => absurd (by decide) h9)
                    refine q_aload_n (pc2 := 295) C 10 dL_law_294 rfl rfl rfl ?_
                    refine q_iload (pc2 := 297) C 0 dL_law_295 rfl rfl ?_
                    refine q_bipush (v := nI 19) (pc2 := 299) C dL_law_297 (by decide) rfl ?_
                    refine q_icmp_ge (tgt := 306) (pc2 := 302) C dL_law_299 (by decide) rfl (fun _ => ?_) (fun h9 => absurd (by decide) h9)
                    refine q_iload (pc2 := 308) C 0 dL_law_306 rfl rfl ?_
                    refine q_bipush (v := nI 21) (pc2 := 310) C dL_law_308 (by decide) rfl ?_
                    refine q_icmp_ge (tgt := 317) (pc2 := 313) C dL_law_310 (by decide) rfl (fun _ => ?_) (fun h9 => absurd (by decide) h9)
                    refine q_iconst (v := nI 3) (pc2 := 318) C dL_law_317 (by decide) rfl ?_
                    refine q_iload (pc2 := 320) C 1 dL_law_318 rfl rfl ?_
                    refine q_aload_n (pc2 := 321) C 9 dL_law_320 rfl rfl rfl ?_
                    refine q_aload (pc2 := 323) C 7 dL_law_321 rfl rfl ?_
                    refine q_aload (pc2 := 325) C 6 dL_law_323 rfl rfl ?_
                    refine q_aload (pc2 := 327) C 5 dL_law_325 rfl rfl ?_
                    refine q_aload (pc2 := 329) C 4 dL_law_327 rfl rfl ?_
                    refine q_PR (pc2 := 332) (As := [.ref (a 30), .int (nI 3), .int y9, .ref (a 40), .ref (a 42), .ref (a 43), .ref (a 44), .ref (a 45)]) (st := []) C (c_L_plays_3 l D ct hl a x fc fb fp fq fn fl y9 (50 * i) (by omega) r0) (va_cwS 8 C.w gL_law_L_plays rfl rfl rfl (by decide +kernel) ⟨Nat.le_of_ble_eq_true rfl, Nat.le_of_ble_eq_true rfl⟩) dL_law_329 rfl rfl (Nat.le_of_ble_eq_true rfl) ⟨(show (32 + 12 * i) + 2 ≤ 676308 by omega), (show (420 + 76 * i) + 12 ≤ 7072545 by omega)⟩ rfl (fun x1 fc1 fb1 fp1 fq1 fn1 fl1 hr1 => ?_)
                    exact hj332 x1 fc1 fb1 fp1 fq1 fn1 fl1 hr1
                  · skip
                    refine q_iload (pc2 := 223) C 0 dL_law_221 rfl rfl ?_
                    refine q_bipush (v := nI 7) (pc2 := 225) C dL_law_223 (by decide) rfl ?_
                    refine q_icmp_ge (tgt := 243) (pc2 := 228) C dL_law_225 (by decide) rfl (fun _ => ?_) (fun h9 => absurd (by decide) h9)
                    refine q_iload (pc2 := 245) C 0 dL_law_243 rfl rfl ?_
                    refine q_bipush (v := nI 15) (pc2 := 247) C dL_law_245 (by decide) rfl ?_
                    refine q_icmp_ge (tgt := 273) (pc2 := 250) C dL_law_247 (by decide) rfl (fun _ => ?_) (fun h9 => absurd (by decide) h9)
                    refine q_iload (pc2 := 275) C 0 dL_law_273 rfl rfl ?_
                    refine q_bipush (v := nI 17) (pc2 := 277) C dL_law_275 (by decide) rfl ?_
                    refine q_icmp_ge (tgt := 294) (pc2 := 280) C dL_law_277 (by decide) rfl (fun _ => ?_) (fun h9 => absurd (by decide) h9)
                    refine q_aload_n (pc2 := 295) C 10 dL_law_294 rfl rfl rfl ?_
                    refine q_iload (pc2 := 297) C 0 dL_law_295 rfl rfl ?_
                    refine q_bipush (v := nI 19) (pc2 := 299) C dL_law_297 (by decide) rfl ?_
                    refine q_icmp_ge (tgt := 306) (pc2 := 302) C dL_law_299 (by decide) rfl (fun _ => ?_) (fun h9 => absurd (by decide) h9)
                    refine q_iload (pc2 := 308) C 0 dL_law_306 rfl rfl ?_
                    refine q_bipush (v := nI 21) (pc2 := 310) C dL_law_308 (by decide) rfl ?_
                    refine q_icmp_ge (tgt := 317) (pc2 := 313) C dL_law_310 (by decide) rfl (fun _ => ?_) (fun h9 => absurd (by decide) h9)
                    refine q_iconst (v := nI 3) (pc2 := 318) C dL_law_317 (by decide) rfl ?_
                    refine q_iload (pc2 := 320) C 1 dL_law_318 rfl rfl ?_
                    refine q_aload_n (pc2 := 321) C 9 dL_law_320 rfl rfl rfl ?_
                    refine q_aload (pc2 := 323) C 7 dL_law_321 rfl rfl ?_
                    refine q_aload (pc2 := 325) C 6 dL_law_323 rfl rfl ?_
                    refine q_aload (pc2 := 327) C 5 dL_law_325 rfl rfl ?_
                    refine q_aload (pc2 := 329) C 4 dL_law_327 rfl rfl ?_
                    refine q_PR (pc2 := 332) (As := [.ref (a 30), .int (nI 3), .int y9, .ref (a 40), .ref (a 42), .ref (a 43), .ref (a 44), .ref (a 45)]) (st := []) C (c_L_plays_3 l D ct hl a x fc fb fp fq fn fl y9 (50 * i) (by omega) r0) (va_cwS 8 C.w gL_law_L_plays rfl rfl rfl (by decide +kernel) ⟨Nat.le_of_ble_eq_true rfl, Nat.le_of_ble_eq_true rfl⟩) dL_law_329 rfl rfl (Nat.le_of_ble_eq_true rfl) ⟨(show (32 + 12 * i) + 2 ≤ 676308 by omega), (show (420 + 76 * i) + 12 ≤ 7072545 by omega)⟩ rfl (fun x1 fc1 fb1 fp1 fq1 fn1 fl1 hr1 => ?_)
                    exact hj332 x1 fc1 fb1 fp1 fq1 fn1 fl1 hr1
                · skip
                  have k204 : i < 24 := (nI_ltI (a := i) (b := 24) (by omega) (by omega)).mp (Int32.not_le.mp c204)
                  refine q_aload_n (pc2 := 208) C 10 dL_law_207 rfl rfl rfl ?_
                  refine q_iconst (v := nI 2) (pc2 := 209) C dL_law_208 (by decide) rfl ?_
                  refine q_iload (pc2 := 211) C 1 dL_law_209 rfl rfl ?_
                  refine q_aload_n (pc2 := 212) C 9 dL_law_211 rfl rfl rfl ?_
                  refine q_aload_n (pc2 := 213) C 8 dL_law_212 rfl rfl rfl ?_
                  refine q_aload (pc2 := 215) C 7 dL_law_213 rfl rfl ?_
                  refine q_PR (pc2 := 218) (As := [.ref (a 30), .int (nI 2), .int y9, .ref (a 40), .ref (a 41), .ref (a 42)]) (st := []) C (c_L_rigs_2 l D ct hl a x fc fb fp fq fn fl y9 (50 * i) r0) (va_cwS 6 C.w gL_law_L_rigs rfl rfl rfl (by decide +kernel) ⟨Nat.le_of_ble_eq_true rfl, Nat.le_of_ble_eq_true rfl⟩) dL_law_215 rfl rfl (Nat.le_of_ble_eq_true rfl) ⟨(show (32 + 12 * i) + 2 ≤ 676308 by omega), (show (420 + 76 * i) + 12 ≤ 7072545 by omega)⟩ rfl (fun x1 fc1 fb1 fp1 fq1 fn1 fl1 hr1 => ?_)
                  refine q_goto (pc2 := 332) C dL_law_218 (by decide) ?_
                  exact hj332 x1 fc1 fb1 fp1 fq1 fn1 fl1 hr1
              · skip
                have k178 : i < 20 := (nI_ltI (a := i) (b := 20) (by omega) (by omega)).mp (Int32.not_le.mp c178)
                refine q_aload_n (pc2 := 182) C 10 dL_law_181 rfl rfl rfl ?_
                refine q_iconst (v := nI 1) (pc2 := 183) C dL_law_182 (by decide) rfl ?_
                refine q_iload (pc2 := 185) C 1 dL_law_183 rfl rfl ?_
                refine q_aload_n (pc2 := 186) C 9 dL_law_185 rfl rfl rfl ?_
                refine q_aload (pc2 := 188) C 7 dL_law_186 rfl rfl ?_
                refine q_aload (pc2 := 190) C 6 dL_law_188 rfl rfl ?_
                refine q_aload (pc2 := 192) C 5 dL_law_190 rfl rfl ?_
                refine q_aload (pc2 := 194) C 4 dL_law_192 rfl rfl ?_
                refine q_PR (pc2 := 197) (As := [.ref (a 30), .int (nI 1), .int y9, .ref (a 40), .ref (a 42), .ref (a 43), .ref (a 44), .ref (a 45)]) (st := []) C (c_L_plays_1 l D ct hl a x fc fb fp fq fn fl y9 (50 * i) (by omega) r0) (va_cwS 8 C.w gL_law_L_plays rfl rfl rfl (by decide +kernel) ⟨Nat.le_of_ble_eq_true rfl, Nat.le_of_ble_eq_true rfl⟩) dL_law_194 rfl rfl (Nat.le_of_ble_eq_true rfl) ⟨(show (32 + 12 * i) + 2 ≤ 676308 by omega), (show (420 + 76 * i) + 12 ≤ 7072545 by omega)⟩ rfl (fun x1 fc1 fb1 fp1 fq1 fn1 fl1 hr1 => ?_)
                refine q_goto (pc2 := 332) C dL_law_197 (by decide) ?_
                exact hj332 x1 fc1 fb1 fp1 fq1 fn1 fl1 hr1
            · skip
              have k152 : i < 13 := (nI_ltI (a := i) (b := 13) (by omega) (by omega)).mp (Int32.not_le.mp c152)
              refine q_aload_n (pc2 := 156) C 10 dL_law_155 rfl rfl rfl ?_
              refine q_iconst (v := nI 0) (pc2 := 157) C dL_law_156 (by decide) rfl ?_
              refine q_iload (pc2 := 159) C 1 dL_law_157 rfl rfl ?_
              refine q_aload_n (pc2 := 160) C 9 dL_law_159 rfl rfl rfl ?_
              refine q_aload (pc2 := 162) C 7 dL_law_160 rfl rfl ?_
              refine q_aload (pc2 := 164) C 6 dL_law_162 rfl rfl ?_
              refine q_aload (pc2 := 166) C 5 dL_law_164 rfl rfl ?_
              refine q_aload (pc2 := 168) C 4 dL_law_166 rfl rfl ?_
              refine q_PR (pc2 := 171) (As := [.ref (a 30), .int (nI 0), .int y9, .ref (a 40), .ref (a 42), .ref (a 43), .ref (a 44), .ref (a 45)]) (st := []) C (c_L_plays_0 l D ct hl a x fc fb fp fq fn fl y9 (50 * i) (by omega) r0) (va_cwS 8 C.w gL_law_L_plays rfl rfl rfl (by decide +kernel) ⟨Nat.le_of_ble_eq_true rfl, Nat.le_of_ble_eq_true rfl⟩) dL_law_168 rfl rfl (Nat.le_of_ble_eq_true rfl) ⟨(show (32 + 12 * i) + 2 ≤ 676308 by omega), (show (420 + 76 * i) + 12 ≤ 7072545 by omega)⟩ rfl (fun x1 fc1 fb1 fp1 fq1 fn1 fl1 hr1 => ?_)
              refine q_goto (pc2 := 332) C dL_law_171 (by decide) ?_
              exact hj332 x1 fc1 fb1 fp1 fq1 fn1 fl1 hr1
          · skip
            have k131 : i < 9 := (nI_ltI (a := i) (b := 9) (by omega) (by omega)).mp (Int32.not_le.mp c131)
            refine q_aload_n (pc2 := 135) C 10 dL_law_134 rfl rfl rfl ?_
            refine q_iconst (v := nI 1) (pc2 := 136) C dL_law_135 (by decide) rfl ?_
            refine q_iload (pc2 := 138) C 1 dL_law_136 rfl rfl ?_
            refine q_aload_n (pc2 := 139) C 9 dL_law_138 rfl rfl rfl ?_
            refine q_aload_n (pc2 := 140) C 8 dL_law_139 rfl rfl rfl ?_
            refine q_aload (pc2 := 142) C 7 dL_law_140 rfl rfl ?_
            refine q_PR (pc2 := 145) (As := [.ref (a 30), .int (nI 1), .int y9, .ref (a 40), .ref (a 41), .ref (a 42)]) (st := []) C (c_L_rigs_1 l D ct hl a x fc fb fp fq fn fl y9 (50 * i) r0) (va_cwS 6 C.w gL_law_L_rigs rfl rfl rfl (by decide +kernel) ⟨Nat.le_of_ble_eq_true rfl, Nat.le_of_ble_eq_true rfl⟩) dL_law_142 rfl rfl (Nat.le_of_ble_eq_true rfl) ⟨(show (32 + 12 * i) + 2 ≤ 676308 by omega), (show (420 + 76 * i) + 12 ≤ 7072545 by omega)⟩ rfl (fun x1 fc1 fb1 fp1 fq1 fn1 fl1 hr1 => ?_)
            refine q_goto (pc2 := 332) C dL_law_145 (by decide) ?_
            exact hj332 x1 fc1 fb1 fp1 fq1 fn1 fl1 hr1
        · skip
          have k110 : i < 5 := (nI_ltI (a := i) (b := 5) (by omega) (by omega)).mp (Int32.not_le.mp c110)
          refine q_aload_n (pc2 := 114) C 10 dL_law_113 rfl rfl rfl ?_
          refine q_iconst (v := nI 0) (pc2 := 115) C dL_law_114 (by decide) rfl ?_
          refine q_iload (pc2 := 117) C 1 dL_law_115 rfl rfl ?_
          refine q_aload_n (pc2 := 118) C 9 dL_law_117 rfl rfl rfl ?_
          refine q_aload_n (pc2 := 119) C 8 dL_law_118 rfl rfl rfl ?_
          refine q_aload (pc2 := 121) C 7 dL_law_119 rfl rfl ?_
          refine q_PR (pc2 := 124) (As := [.ref (a 30), .int (nI 0), .int y9, .ref (a 40), .ref (a 41), .ref (a 42)]) (st := []) C (c_L_rigs_0 l D ct hl a x fc fb fp fq fn fl y9 (50 * i) r0) (va_cwS 6 C.w gL_law_L_rigs rfl rfl rfl (by decide +kernel) ⟨Nat.le_of_ble_eq_true rfl, Nat.le_of_ble_eq_true rfl⟩) dL_law_121 rfl rfl (Nat.le_of_ble_eq_true rfl) ⟨(show (32 + 12 * i) + 2 ≤ 676308 by omega), (show (420 + 76 * i) + 12 ≤ 7072545 by omega)⟩ rfl (fun x1 fc1 fb1 fp1 fq1 fn1 fl1 hr1 => ?_)
          refine q_goto (pc2 := 332) C dL_law_124 (by decide) ?_
          exact hj332 x1 fc1 fb1 fp1 fq1 fn1 fl1 hr1
      refine q_iload (pc2 := 94) C 0 dL_law_92 rfl rfl ?_
      refine q_iconst (v := nI 4) (pc2 := 95) C dL_law_94 (by decide) rfl ?_
      refine q_ishr (v := (v9 >>> (nI 4 &&& 31))) (pc2 := 96) C dL_law_95 (rfl) rfl ?_
      exact hj96 (v9 >>> (nI 4 &&& 31)) trivial
    refine q_aload_n (pc2 := 75) C 8 dL_law_74 rfl rfl rfl ?_
    refine q_iload (pc2 := 77) C 0 dL_law_75 rfl rfl ?_
    refine q_bipush (v := nI 79) (pc2 := 79) C dL_law_77 (by decide) rfl ?_
    refine q_irem (v := nI (i % 79)) (pc2 := 80) C dL_law_79 (by decide) (pk_rem (by omega) (by decide) (by decide)) rfl ?_
    refine q_cell (pc2 := 83) C hX hbl hbA (by omega) (i % 79) (by omega) (va_cwS 2 C.w gL_law_L_cell rfl rfl rfl (by decide +kernel) ⟨Nat.le_of_ble_eq_true rfl, Nat.le_of_ble_eq_true rfl⟩) dL_law_80 (Nat.le_of_ble_eq_true rfl) ⟨(show (32 + 12 * i) ≤ 676308 by omega), (show (420 + 76 * i) ≤ 7072545 by omega)⟩ rfl (fun v8 => ?_)
    refine q_iload (pc2 := 85) C 0 dL_law_83 rfl rfl ?_
    refine q_sipush (v := nI 31337) (pc2 := 88) C dL_law_85 (by decide) rfl ?_
    refine q_imul (v := nI (i * 31337)) (pc2 := 89) C dL_law_88 (pk_mul i 31337) rfl ?_
    refine q_ixor (v := (v8 ^^^ nI (i * 31337))) (pc2 := 90) C dL_law_89 (rfl) rfl ?_
    exact hj90 (v8 ^^^ nI (i * 31337)) trivial
