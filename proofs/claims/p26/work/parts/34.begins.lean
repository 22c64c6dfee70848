/-! cues begin; the script's numbers -/
theorem bgR_s (T : Int32) (fq fn : Nat → Int32) (k b : Nat) (fl : Nat → Int32) : bgR T fq fn (k + 1) b fl = if fq (8 + b) = 0 then bgR T fq fn k (b + 1) (bg1 T fq fn b fl) else (b + 1, bg1 T fq fn b fl) := rfl
/-- the row of one cue, the first k lamps told -/
def bgP (T : Int32) (fq fn : Nat → Int32) (b : Nat) (fl : Nat → Int32) (k : Nat) : Nat → Int32 := fun j => if j = 8 * b then T else if j = 8 * b + 1 then fq b else if j = 8 * b + 2 then fq (4 + b) else if 8 * b + 3 ≤ j ∧ j < 8 * b + 3 + k then fn (5 * b + (j - (8 * b + 3))) else fl j
theorem bgP_v (T : Int32) (fq fn : Nat → Int32) (b : Nat) (fl : Nat → Int32) (k j : Nat) : bgP T fq fn b fl k j = if j = 8 * b then T else if j = 8 * b + 1 then fq b else if j = 8 * b + 2 then fq (4 + b) else if 8 * b + 3 ≤ j ∧ j < 8 * b + 3 + k then fn (5 * b + (j - (8 * b + 3))) else fl j := rfl
theorem bgP_0 (T : Int32) (fq fn : Nat → Int32) (b : Nat) (fl : Nat → Int32) : upd (upd (upd fl (8 * b) T) (8 * b + 1) (fq b)) (8 * b + 2) (fq (4 + b)) = bgP T fq fn b fl 0 := by
  funext j
  rw [bgP_v]
  by_cases h2 : j = 8 * b + 2
  · subst h2; rw [upd_s, if_neg (by omega), if_neg (by omega), if_pos rfl]
  · rw [upd_n h2]
    by_cases h1 : j = 8 * b + 1
    · subst h1; rw [upd_s, if_neg (by omega), if_pos rfl]
    · rw [upd_n h1]
      by_cases h0 : j = 8 * b
      · subst h0; rw [upd_s, if_pos rfl]
      · rw [upd_n h0, if_neg h0, if_neg h1, if_neg h2, if_neg (by omega)]
theorem bgP_s (T : Int32) (fq fn : Nat → Int32) (b : Nat) (fl : Nat → Int32) (k : Nat) : upd (bgP T fq fn b fl k) (8 * b + 3 + k) (fn (5 * b + k)) = bgP T fq fn b fl (k + 1) := by
  funext j
  by_cases h : j = 8 * b + 3 + k
  · subst h
    rw [upd_s, bgP_v, if_neg (by omega), if_neg (by omega), if_neg (by omega), if_pos (by omega), show 8 * b + 3 + k - (8 * b + 3) = k by omega]
  · rw [upd_n h, bgP_v, bgP_v]
    by_cases h0 : j = 8 * b
    · rw [if_pos h0, if_pos h0]
    · rw [if_neg h0, if_neg h0]
      by_cases h1 : j = 8 * b + 1
      · rw [if_pos h1, if_pos h1]
      · rw [if_neg h1, if_neg h1]
        by_cases h2 : j = 8 * b + 2
        · rw [if_pos h2, if_pos h2]
        · rw [if_neg h2, if_neg h2]
          by_cases h3 : 8 * b + 3 ≤ j ∧ j < 8 * b + 3 + k
          · rw [if_pos h3, if_pos (by omega)]
          · rw [if_neg h3, if_neg (by omega)]
theorem bgP_5 (T : Int32) (fq fn : Nat → Int32) (b : Nat) (fl : Nat → Int32) : bgP T fq fn b fl 5 = bg1 T fq fn b fl := rfl

set_option maxHeartbeats 4000000 in
set_option maxRecDepth 100000 in
theorem c_L_begins (l : Launch) (D : va_G) (ct : Nat → ClassId) (a : Nat → Nat) (fc fb fp fq fn fl : Nat → Int32) (b q : Nat) (hb5 : fc 5 = nI b) (hq : fc 4 = nI q) (hbq : b ≤ q) (hq4 : q ≤ 4) : qM l yL_begins wsL_begins ({ frames := 0, cells := 0, slots := 0, locals := 0 }) D ct [.ref (a 40), .ref (a 43), .ref (a 44), .ref (a 45)] (wN ct a fc fb fp fq fn fl) (qD (some (.int (nI ((bgR (fc 7) fq fn (q - b) b fl).1 - b)))) (wN ct a (fcR fc (fc 7) b (bgR (fc 7) fq fn (q - b) b fl).1) fb fp fq fn (bgR (fc 7) fq fn (q - b) b fl).2)) 0 0 := by
  refine q_start (ret := some .int) (lv := [(0, .ref (a 40)), (1, .ref (a 43)), (2, .ref (a 44)), (3, .ref (a 45))]) (by decide +kernel) rfl (Nat.le_of_ble_eq_true rfl) rfl ?_
  intro p e s m args below meth c A Q C hQ hnm
  refine q_iconst (v := nI 0) (pc2 := 1) C dL_begins_0 (by decide) rfl ?_
  refine q_istore (lv' := [(4, .int (nI 0)), (0, .ref (a 40)), (1, .ref (a 43)), (2, .ref (a 44)), (3, .ref (a 45))]) (pc2 := 3) C dL_begins_1 (by decide) rfl rfl ?_
  refine q_lv (lv' := [(4, .int (nI 0)), (3, .ref (a 45)), (2, .ref (a 44)), (1, .ref (a 43)), (0, .ref (a 40))]) [0, 4, 3, 2, 1] rfl ?_
  refine q_eqw (ws' := (wN ct a (fcR fc (fc 7) b b) fb fp fq fn fl)) (congrArg (fun z => wN ct a z fb fp fq fn fl) (fcR_0 hb5)) ?_
  refine q_eql (lv' := [(4, .int (nI (b - b))), (3, .ref (a 45)), (2, .ref (a 44)), (1, .ref (a 43)), (0, .ref (a 40))]) (by rw [Nat.sub_self]) ?_
  have H : ∀ (k b1 : Nat) (f1 : Nat → Int32), b1 + k = q → b ≤ b1 → ((b1 = b ∨ fq (7 + b1) = 0) → bgR (fc 7) fq fn k b1 f1 = bgR (fc 7) fq fn (q - b) b fl) → (¬ (b1 = b ∨ fq (7 + b1) = 0) → (b1, f1) = bgR (fc 7) fq fn (q - b) b fl) → Cf p l e ({ frames := 0, cells := 0, slots := 0, locals := 0 }) s m args below meth c D A 7 0 0 Q 3 [(4, .int (nI (b1 - b))), (3, .ref (a 45)), (2, .ref (a 44)), (1, .ref (a 43)), (0, .ref (a 40))] [] (wN ct a (fcR fc (fc 7) b b1) fb fp fq fn f1) := by
    intro k
    induction k with
    | zero =>
      intro b1 f1 hk hle hA hB
      refine q_aload_n (pc2 := 4) C 4 dL_begins_3 rfl rfl rfl ?_
      refine q_iconst (v := nI 5) (pc2 := 5) C dL_begins_4 (by decide) rfl ?_
      refine q_iald (q0 := 0) (f := (fcR fc (fc 7) b b1)) (pc2 := 6) C 5 (wN_g0 ct a (fcR fc (fc 7) b b1) fb fp fq fn f1) rfl (rfl) (by decide) (by decide) dL_begins_5 rfl ?_
      refine q_eqi (y := nI b1) (fcR_5) ?_
      refine q_aload_n (pc2 := 7) C 4 dL_begins_6 rfl rfl rfl ?_
      refine q_iconst (v := nI 4) (pc2 := 8) C dL_begins_7 (by decide) rfl ?_
      refine q_iald (q0 := 0) (f := (fcR fc (fc 7) b b1)) (pc2 := 9) C 4 (wN_g0 ct a (fcR fc (fc 7) b b1) fb fp fq fn f1) rfl (rfl) (by decide) (by decide) dL_begins_8 rfl ?_
      refine q_eqi (y := nI q) ((fcR_o (by decide) (by decide)).trans hq) ?_
      refine q_icmp_ge (tgt := 125) (pc2 := 12) C dL_begins_9 (by decide) rfl (fun _ => ?_) (fun h9 => absurd (nI_le (a := q) (b := b1) (by omega) (by omega)) h9)
      have e9 : (b1, f1) = bgR (fc 7) fq fn (q - b) b fl := by by_cases h9 : b1 = b ∨ fq (7 + b1) = 0; exact hA h9; exact hB h9
      refine q_iload (pc2 := 127) C 0 dL_begins_125 rfl rfl ?_
      exact q_zret C hQ rfl (rfl) (Nat.zero_le _) (Nat.zero_le _) dL_begins_127 ⟨by rw [← e9], by rw [← e9]⟩
    | succ k ih =>
      intro b1 f1 hk hle hA hB
      refine q_aload_n (pc2 := 4) C 4 dL_begins_3 rfl rfl rfl ?_
      refine q_iconst (v := nI 5) (pc2 := 5) C dL_begins_4 (by decide) rfl ?_
      refine q_iald (q0 := 0) (f := (fcR fc (fc 7) b b1)) (pc2 := 6) C 5 (wN_g0 ct a (fcR fc (fc 7) b b1) fb fp fq fn f1) rfl (rfl) (by decide) (by decide) dL_begins_5 rfl ?_
      refine q_eqi (y := nI b1) (fcR_5) ?_
      refine q_aload_n (pc2 := 7) C 4 dL_begins_6 rfl rfl rfl ?_
      refine q_iconst (v := nI 4) (pc2 := 8) C dL_begins_7 (by decide) rfl ?_
      refine q_iald (q0 := 0) (f := (fcR fc (fc 7) b b1)) (pc2 := 9) C 4 (wN_g0 ct a (fcR fc (fc 7) b b1) fb fp fq fn f1) rfl (rfl) (by decide) (by decide) dL_begins_8 rfl ?_
      refine q_eqi (y := nI q) ((fcR_o (by decide) (by decide)).trans hq) ?_
      refine q_icmp_ge (tgt := 125) (pc2 := 12) C dL_begins_9 (by decide) rfl (fun h9 => absurd h9 (nI_ge (a := b1) (b := q) (by omega) (by omega))) (fun _ => ?_)
      refine q_iload (pc2 := 14) C 0 dL_begins_12 rfl rfl ?_
      refine q_if_eq (tgt := 30) (pc2 := 17) C dL_begins_14 (by decide) rfl (fun c14 => ?_) (fun c14 => ?_)
      · skip
        have k14 : (b1 - b) = 0 := (nI_eq (a := (b1 - b)) (b := 0) (by omega) (by omega)).mp c14
        have hc9 : b1 = b ∨ fq (7 + b1) = 0 := Or.inl (by omega)
        refine q_bipush (v := nI 8) (pc2 := 32) C dL_begins_30 (by decide) rfl ?_
        refine q_aload_n (pc2 := 33) C 4 dL_begins_32 rfl rfl rfl ?_
        refine q_iconst (v := nI 5) (pc2 := 34) C dL_begins_33 (by decide) rfl ?_
        refine q_iald (q0 := 0) (f := (fcR fc (fc 7) b b1)) (pc2 := 35) C 5 (wN_g0 ct a (fcR fc (fc 7) b b1) fb fp fq fn f1) rfl (rfl) (by decide) (by decide) dL_begins_34 rfl ?_
        refine q_eqi (y := nI b1) (fcR_5) ?_
        refine q_imul (v := nI (8 * b1)) (pc2 := 36) C dL_begins_35 (pk_mul 8 b1) rfl ?_
        refine q_istore (lv' := [(5, .int (nI (8 * b1))), (4, .int (nI (b1 - b))), (3, .ref (a 45)), (2, .ref (a 44)), (1, .ref (a 43)), (0, .ref (a 40))]) (pc2 := 38) C dL_begins_36 (by decide) rfl rfl ?_
        refine q_aload_n (pc2 := 39) C 2 dL_begins_38 rfl rfl rfl ?_
        refine q_iload (pc2 := 41) C 0 dL_begins_39 rfl rfl ?_
        refine q_aload_n (pc2 := 42) C 5 dL_begins_41 rfl rfl rfl ?_
        refine q_bipush (v := nI 7) (pc2 := 44) C dL_begins_42 (by decide) rfl ?_
        refine q_iald (q0 := 0) (f := (fcR fc (fc 7) b b1)) (pc2 := 45) C 7 (wN_g0 ct a (fcR fc (fc 7) b b1) fb fp fq fn f1) rfl (rfl) (by decide) (by decide) dL_begins_44 rfl ?_
        refine q_eqi (y := (fc 7)) (fcR_o (by decide) (by decide)) ?_
        refine q_iast (q0 := 5) (f := f1) (ws' := (wN ct a (fcR fc (fc 7) b b1) fb fp fq fn (upd f1 (8 * b1) (fc 7)))) (pc2 := 46) C (8 * b1) (wN_g5 ct a (fcR fc (fc 7) b b1) fb fp fq fn f1) rfl (rfl) (by omega) (by decide) (wN_a5 ct a (fcR fc (fc 7) b b1) fb fp fq fn f1 (upd f1 (8 * b1) (fc 7))) dL_begins_45 rfl ?_
        refine q_aload_n (pc2 := 47) C 2 dL_begins_46 rfl rfl rfl ?_
        refine q_iload (pc2 := 49) C 0 dL_begins_47 rfl rfl ?_
        refine q_iconst (v := nI 1) (pc2 := 50) C dL_begins_49 (by decide) rfl ?_
        refine q_iadd (v := nI ((8 * b1) + 1)) (pc2 := 51) C dL_begins_50 (nI_add (8 * b1) 1) rfl ?_
        refine q_aload_n (pc2 := 52) C 4 dL_begins_51 rfl rfl rfl ?_
        refine q_aload_n (pc2 := 53) C 5 dL_begins_52 rfl rfl rfl ?_
        refine q_iconst (v := nI 5) (pc2 := 54) C dL_begins_53 (by decide) rfl ?_
        refine q_iald (q0 := 0) (f := (fcR fc (fc 7) b b1)) (pc2 := 55) C 5 (wN_g0 ct a (fcR fc (fc 7) b b1) fb fp fq fn (upd f1 (8 * b1) (fc 7))) rfl (rfl) (by decide) (by decide) dL_begins_54 rfl ?_
        refine q_eqi (y := nI b1) (fcR_5) ?_
        refine q_iald (q0 := 3) (f := fq) (pc2 := 56) C b1 (wN_g3 ct a (fcR fc (fc 7) b b1) fb fp fq fn (upd f1 (8 * b1) (fc 7))) rfl (rfl) (by omega) (by decide) dL_begins_55 rfl ?_
        refine q_iast (q0 := 5) (f := (upd f1 (8 * b1) (fc 7))) (ws' := (wN ct a (fcR fc (fc 7) b b1) fb fp fq fn (upd (upd f1 (8 * b1) (fc 7)) ((8 * b1) + 1) (fq b1)))) (pc2 := 57) C ((8 * b1) + 1) (wN_g5 ct a (fcR fc (fc 7) b b1) fb fp fq fn (upd f1 (8 * b1) (fc 7))) rfl (rfl) (by omega) (by decide) (wN_a5 ct a (fcR fc (fc 7) b b1) fb fp fq fn (upd f1 (8 * b1) (fc 7)) (upd (upd f1 (8 * b1) (fc 7)) ((8 * b1) + 1) (fq b1))) dL_begins_56 rfl ?_
        refine q_aload_n (pc2 := 58) C 2 dL_begins_57 rfl rfl rfl ?_
        refine q_iload (pc2 := 60) C 0 dL_begins_58 rfl rfl ?_
        refine q_iconst (v := nI 2) (pc2 := 61) C dL_begins_60 (by decide) rfl ?_
        refine q_iadd (v := nI ((8 * b1) + 2)) (pc2 := 62) C dL_begins_61 (nI_add (8 * b1) 2) rfl ?_
        refine q_aload_n (pc2 := 63) C 4 dL_begins_62 rfl rfl rfl ?_
        refine q_iconst (v := nI 4) (pc2 := 64) C dL_begins_63 (by decide) rfl ?_
        refine q_aload_n (pc2 := 65) C 5 dL_begins_64 rfl rfl rfl ?_
        refine q_iconst (v := nI 5) (pc2 := 66) C dL_begins_65 (by decide) rfl ?_
        refine q_iald (q0 := 0) (f := (fcR fc (fc 7) b b1)) (pc2 := 67) C 5 (wN_g0 ct a (fcR fc (fc 7) b b1) fb fp fq fn (upd (upd f1 (8 * b1) (fc 7)) ((8 * b1) + 1) (fq b1))) rfl (rfl) (by decide) (by decide) dL_begins_66 rfl ?_
        refine q_eqi (y := nI b1) (fcR_5) ?_
        refine q_iadd (v := nI (4 + b1)) (pc2 := 68) C dL_begins_67 (nI_add 4 b1) rfl ?_
        refine q_iald (q0 := 3) (f := fq) (pc2 := 69) C (4 + b1) (wN_g3 ct a (fcR fc (fc 7) b b1) fb fp fq fn (upd (upd f1 (8 * b1) (fc 7)) ((8 * b1) + 1) (fq b1))) rfl (rfl) (by omega) (by decide) dL_begins_68 rfl ?_
        refine q_iast (q0 := 5) (f := (upd (upd f1 (8 * b1) (fc 7)) ((8 * b1) + 1) (fq b1))) (ws' := (wN ct a (fcR fc (fc 7) b b1) fb fp fq fn (upd (upd (upd f1 (8 * b1) (fc 7)) ((8 * b1) + 1) (fq b1)) ((8 * b1) + 2) (fq (4 + b1))))) (pc2 := 70) C ((8 * b1) + 2) (wN_g5 ct a (fcR fc (fc 7) b b1) fb fp fq fn (upd (upd f1 (8 * b1) (fc 7)) ((8 * b1) + 1) (fq b1))) rfl (rfl) (by omega) (by decide) (wN_a5 ct a (fcR fc (fc 7) b b1) fb fp fq fn (upd (upd f1 (8 * b1) (fc 7)) ((8 * b1) + 1) (fq b1)) (upd (upd (upd f1 (8 * b1) (fc 7)) ((8 * b1) + 1) (fq b1)) ((8 * b1) + 2) (fq (4 + b1)))) dL_begins_69 rfl ?_
        refine q_iconst (v := nI 0) (pc2 := 71) C dL_begins_70 (by decide) rfl ?_
        refine q_istore (lv' := [(6, .int (nI 0)), (5, .int (nI (8 * b1))), (4, .int (nI (b1 - b))), (3, .ref (a 45)), (2, .ref (a 44)), (1, .ref (a 43)), (0, .ref (a 40))]) (pc2 := 73) C dL_begins_71 (by decide) rfl rfl ?_
        refine q_eqw (ws' := (wN ct a (fcR fc (fc 7) b b1) fb fp fq fn (bgP (fc 7) fq fn b1 f1 0))) (congrArg (fun z => wN ct a (fcR fc (fc 7) b b1) fb fp fq fn z) (bgP_0 (fc 7) fq fn b1 f1)) ?_
        refine (lp_up (P := fun j8 => Cf p l e ({ frames := 0, cells := 0, slots := 0, locals := 0 }) s m args below meth c D A 7 0 0 Q 73 [(6, .int (nI j8)), (5, .int (nI (8 * b1))), (4, .int (nI (b1 - b))), (3, .ref (a 45)), (2, .ref (a 44)), (1, .ref (a 43)), (0, .ref (a 40))] [] (wN ct a (fcR fc (fc 7) b b1) fb fp fq fn (bgP (fc 7) fq fn b1 f1 j8))) 5 (fun j8 hj8 ihj8 => ?_) ?_ : Cf p l e ({ frames := 0, cells := 0, slots := 0, locals := 0 }) s m args below meth c D A 7 0 0 Q 73 [(6, .int (nI 0)), (5, .int (nI (8 * b1))), (4, .int (nI (b1 - b))), (3, .ref (a 45)), (2, .ref (a 44)), (1, .ref (a 43)), (0, .ref (a 40))] [] (wN ct a (fcR fc (fc 7) b b1) fb fp fq fn (bgP (fc 7) fq fn b1 f1 0)))
        · skip
          refine q_iload (pc2 := 75) C 0 dL_begins_73 rfl rfl ?_
          refine q_iconst (v := nI 5) (pc2 := 76) C dL_begins_75 (by decide) rfl ?_
          refine q_icmp_ge (tgt := 104) (pc2 := 79) C dL_begins_76 (by decide) rfl (fun h9 => absurd h9 (nI_ge (a := j8) (b := 5) (by omega) (by omega))) (fun _ => ?_)
          refine q_aload_n (pc2 := 80) C 3 dL_begins_79 rfl rfl rfl ?_
          refine q_iload (pc2 := 82) C 1 dL_begins_80 rfl rfl ?_
          refine q_iconst (v := nI 3) (pc2 := 83) C dL_begins_82 (by decide) rfl ?_
          refine q_iadd (v := nI ((8 * b1) + 3)) (pc2 := 84) C dL_begins_83 (nI_add (8 * b1) 3) rfl ?_
          refine q_iload (pc2 := 86) C 0 dL_begins_84 rfl rfl ?_
          refine q_iadd (v := nI (((8 * b1) + 3) + j8)) (pc2 := 87) C dL_begins_86 (nI_add ((8 * b1) + 3) j8) rfl ?_
          refine q_aload_n (pc2 := 88) C 4 dL_begins_87 rfl rfl rfl ?_
          refine q_iconst (v := nI 5) (pc2 := 89) C dL_begins_88 (by decide) rfl ?_
          refine q_aload_n (pc2 := 90) C 6 dL_begins_89 rfl rfl rfl ?_
          refine q_iconst (v := nI 5) (pc2 := 91) C dL_begins_90 (by decide) rfl ?_
          refine q_iald (q0 := 0) (f := (fcR fc (fc 7) b b1)) (pc2 := 92) C 5 (wN_g0 ct a (fcR fc (fc 7) b b1) fb fp fq fn (bgP (fc 7) fq fn b1 f1 j8)) rfl (rfl) (by decide) (by decide) dL_begins_91 rfl ?_
          refine q_eqi (y := nI b1) (fcR_5) ?_
          refine q_imul (v := nI (5 * b1)) (pc2 := 93) C dL_begins_92 (pk_mul 5 b1) rfl ?_
          refine q_iload (pc2 := 95) C 0 dL_begins_93 rfl rfl ?_
          refine q_iadd (v := nI ((5 * b1) + j8)) (pc2 := 96) C dL_begins_95 (nI_add (5 * b1) j8) rfl ?_
          refine q_iald (q0 := 4) (f := fn) (pc2 := 97) C ((5 * b1) + j8) (wN_g4 ct a (fcR fc (fc 7) b b1) fb fp fq fn (bgP (fc 7) fq fn b1 f1 j8)) rfl (rfl) (by omega) (by decide) dL_begins_96 rfl ?_
          refine q_iast (q0 := 5) (f := (bgP (fc 7) fq fn b1 f1 j8)) (ws' := (wN ct a (fcR fc (fc 7) b b1) fb fp fq fn (upd (bgP (fc 7) fq fn b1 f1 j8) (((8 * b1) + 3) + j8) (fn ((5 * b1) + j8))))) (pc2 := 98) C (((8 * b1) + 3) + j8) (wN_g5 ct a (fcR fc (fc 7) b b1) fb fp fq fn (bgP (fc 7) fq fn b1 f1 j8)) rfl (rfl) (by omega) (by decide) (wN_a5 ct a (fcR fc (fc 7) b b1) fb fp fq fn (bgP (fc 7) fq fn b1 f1 j8) (upd (bgP (fc 7) fq fn b1 f1 j8) (((8 * b1) + 3) + j8) (fn ((5 * b1) + j8)))) dL_begins_97 rfl ?_
          refine q_iinc (v := nI (j8 + 1)) (lv' := [(6, .int (nI (j8 + 1))), (5, .int (nI (8 * b1))), (4, .int (nI (b1 - b))), (3, .ref (a 45)), (2, .ref (a 44)), (1, .ref (a 43)), (0, .ref (a 40))]) (pc2 := 101) C 0 dL_begins_98 rfl (show nI j8 + Int32.ofInt 1 = nI (j8 + 1) by rw [show Int32.ofInt 1 = nI 1 from by decide]; exact nI_add j8 1) (by decide) rfl rfl ?_
          refine q_goto (pc2 := 73) C dL_begins_101 (by decide) ?_
          refine q_eqw (ws' := (wN ct a (fcR fc (fc 7) b b1) fb fp fq fn (bgP (fc 7) fq fn b1 f1 (j8 + 1)))) (congrArg (fun z => wN ct a (fcR fc (fc 7) b b1) fb fp fq fn z) (bgP_s (fc 7) fq fn b1 f1 j8)) ?_
          exact ihj8
        · skip
          refine q_iload (pc2 := 75) C 0 dL_begins_73 rfl rfl ?_
          refine q_iconst (v := nI 5) (pc2 := 76) C dL_begins_75 (by decide) rfl ?_
          refine q_icmp_ge (tgt := 104) (pc2 := 79) C dL_begins_76 (by decide) rfl (fun _ => ?_) (fun h9 => absurd (nI_le (a := 5) (b := 5) (by omega) (by omega)) h9)
          refine q_aload_n (pc2 := 105) C 6 dL_begins_104 rfl rfl rfl ?_
          refine q_bipush (v := nI 6) (pc2 := 107) C dL_begins_105 (by decide) rfl ?_
          refine q_aload_n (pc2 := 108) C 6 dL_begins_107 rfl rfl rfl ?_
          refine q_bipush (v := nI 7) (pc2 := 110) C dL_begins_108 (by decide) rfl ?_
          refine q_iald (q0 := 0) (f := (fcR fc (fc 7) b b1)) (pc2 := 111) C 7 (wN_g0 ct a (fcR fc (fc 7) b b1) fb fp fq fn (bgP (fc 7) fq fn b1 f1 5)) rfl (rfl) (by decide) (by decide) dL_begins_110 rfl ?_
          refine q_eqi (y := (fc 7)) (fcR_o (by decide) (by decide)) ?_
          refine q_iast (q0 := 0) (f := (fcR fc (fc 7) b b1)) (ws' := (wN ct a (upd (fcR fc (fc 7) b b1) 6 (fc 7)) fb fp fq fn (bgP (fc 7) fq fn b1 f1 5))) (pc2 := 112) C 6 (wN_g0 ct a (fcR fc (fc 7) b b1) fb fp fq fn (bgP (fc 7) fq fn b1 f1 5)) rfl (rfl) (by decide) (by decide) (wN_a0 ct a (fcR fc (fc 7) b b1) fb fp fq fn (bgP (fc 7) fq fn b1 f1 5) (upd (fcR fc (fc 7) b b1) 6 (fc 7))) dL_begins_111 rfl ?_
          refine q_aload_n (pc2 := 113) C 6 dL_begins_112 rfl rfl rfl ?_
          refine q_iconst (v := nI 5) (pc2 := 114) C dL_begins_113 (by decide) rfl ?_
          refine q_dup2 (pc2 := 115) C dL_begins_114 rfl rfl rfl ?_
          refine q_iald (q0 := 0) (f := (upd (fcR fc (fc 7) b b1) 6 (fc 7))) (pc2 := 116) C 5 (wN_g0 ct a (upd (fcR fc (fc 7) b b1) 6 (fc 7)) fb fp fq fn (bgP (fc 7) fq fn b1 f1 5)) rfl (rfl) (by decide) (by decide) dL_begins_115 rfl ?_
          refine q_eqi (y := nI b1) ((upd_n (by decide)).trans (fcR_5)) ?_
          refine q_iconst (v := nI 1) (pc2 := 117) C dL_begins_116 (by decide) rfl ?_
          refine q_iadd (v := nI (b1 + 1)) (pc2 := 118) C dL_begins_117 (nI_add b1 1) rfl ?_
          refine q_iast (q0 := 0) (f := (upd (fcR fc (fc 7) b b1) 6 (fc 7))) (ws' := (wN ct a (upd (upd (fcR fc (fc 7) b b1) 6 (fc 7)) 5 (nI (b1 + 1))) fb fp fq fn (bgP (fc 7) fq fn b1 f1 5))) (pc2 := 119) C 5 (wN_g0 ct a (upd (fcR fc (fc 7) b b1) 6 (fc 7)) fb fp fq fn (bgP (fc 7) fq fn b1 f1 5)) rfl (rfl) (by decide) (by decide) (wN_a0 ct a (upd (fcR fc (fc 7) b b1) 6 (fc 7)) fb fp fq fn (bgP (fc 7) fq fn b1 f1 5) (upd (upd (fcR fc (fc 7) b b1) 6 (fc 7)) 5 (nI (b1 + 1)))) dL_begins_118 rfl ?_
          refine q_iinc (v := nI ((b1 - b) + 1)) (lv' := [(4, .int (nI ((b1 - b) + 1))), (6, .int (nI 5)), (5, .int (nI (8 * b1))), (3, .ref (a 45)), (2, .ref (a 44)), (1, .ref (a 43)), (0, .ref (a 40))]) (pc2 := 122) C 2 dL_begins_119 rfl (show nI (b1 - b) + Int32.ofInt 1 = nI ((b1 - b) + 1) by rw [show Int32.ofInt 1 = nI 1 from by decide]; exact nI_add (b1 - b) 1) (by decide) rfl rfl ?_
          refine q_goto (pc2 := 3) C dL_begins_122 (by decide) ?_
          refine q_lv (lv' := [(4, .int (nI ((b1 - b) + 1))), (3, .ref (a 45)), (2, .ref (a 44)), (1, .ref (a 43)), (0, .ref (a 40))]) [0, 3, 4, 5, 6] rfl ?_
          refine q_eql (lv' := [(4, .int (nI ((b1 + 1) - b))), (3, .ref (a 45)), (2, .ref (a 44)), (1, .ref (a 43)), (0, .ref (a 40))]) (by rw [show b1 - b + 1 = b1 + 1 - b by omega]) ?_
          refine q_eqw (ws' := (wN ct a (fcR fc (fc 7) b (b1 + 1)) fb fp fq fn (bg1 (fc 7) fq fn b1 f1))) (by rw [bgP_5, fcR_s hle]) ?_
          have e8 := hA hc9
          rw [bgR_s] at e8
          exact ih (b1 + 1) _ (by omega) (by omega) (fun z => by have q8 : fq (8 + b1) = 0 := (show 7 + (b1 + 1) = 8 + b1 by omega) ▸ z.resolve_left (by omega); rw [if_pos q8] at e8; exact e8) (fun z => by rw [if_neg (fun q9 : fq (8 + b1) = 0 => z (Or.inr (by rw [show 7 + (b1 + 1) = 8 + b1 by omega]; exact q9)))] at e8; exact e8)
      · skip
        have k14 : (b1 - b) ≠ 0 := fun z => (c14) ((nI_eq (a := (b1 - b)) (b := 0) (by omega) (by omega)).mpr z)
        refine q_aload_n (pc2 := 18) C 3 dL_begins_17 rfl rfl rfl ?_
        refine q_bipush (v := nI 8) (pc2 := 20) C dL_begins_18 (by decide) rfl ?_
        refine q_aload_n (pc2 := 21) C 4 dL_begins_20 rfl rfl rfl ?_
        refine q_iconst (v := nI 5) (pc2 := 22) C dL_begins_21 (by decide) rfl ?_
        refine q_iald (q0 := 0) (f := (fcR fc (fc 7) b b1)) (pc2 := 23) C 5 (wN_g0 ct a (fcR fc (fc 7) b b1) fb fp fq fn f1) rfl (rfl) (by decide) (by decide) dL_begins_22 rfl ?_
        refine q_eqi (y := nI b1) (fcR_5) ?_
        refine q_iadd (v := nI (8 + b1)) (pc2 := 24) C dL_begins_23 (nI_add 8 b1) rfl ?_
        refine q_iconst (v := nI 1) (pc2 := 25) C dL_begins_24 (by decide) rfl ?_
        refine q_isub (v := nI (7 + b1)) (pc2 := 26) C dL_begins_25 (by rw [show 8 + b1 = 7 + b1 + 1 by omega]; exact nI_pred (7 + b1)) rfl ?_
        refine q_iald (q0 := 3) (f := fq) (pc2 := 27) C (7 + b1) (wN_g3 ct a (fcR fc (fc 7) b b1) fb fp fq fn f1) rfl (rfl) (by omega) (by decide) dL_begins_26 rfl ?_
        refine q_if_ne (tgt := 125) (pc2 := 30) C dL_begins_27 (by decide) rfl (fun c27 => ?_) (fun c27 => ?_)
        · skip
          have e9 : (b1, f1) = bgR (fc 7) fq fn (q - b) b fl := hB (fun z => z.elim (fun q9 => k14 (by omega)) (fun q9 => c27 q9))
          refine q_iload (pc2 := 127) C 0 dL_begins_125 rfl rfl ?_
          exact q_zret C hQ rfl (rfl) (Nat.zero_le _) (Nat.zero_le _) dL_begins_127 ⟨by rw [← e9], by rw [← e9]⟩
        · skip
          have hc9 : b1 = b ∨ fq (7 + b1) = 0 := Or.inr c27
          refine q_bipush (v := nI 8) (pc2 := 32) C dL_begins_30 (by decide) rfl ?_
          refine q_aload_n (pc2 := 33) C 4 dL_begins_32 rfl rfl rfl ?_
          refine q_iconst (v := nI 5) (pc2 := 34) C dL_begins_33 (by decide) rfl ?_
          refine q_iald (q0 := 0) (f := (fcR fc (fc 7) b b1)) (pc2 := 35) C 5 (wN_g0 ct a (fcR fc (fc 7) b b1) fb fp fq fn f1) rfl (rfl) (by decide) (by decide) dL_begins_34 rfl ?_
          refine q_eqi (y := nI b1) (fcR_5) ?_
          refine q_imul (v := nI (8 * b1)) (pc2 := 36) C dL_begins_35 (pk_mul 8 b1) rfl ?_
          refine q_istore (lv' := [(5, .int (nI (8 * b1))), (4, .int (nI (b1 - b))), (3, .ref (a 45)), (2, .ref (a 44)), (1, .ref (a 43)), (0, .ref (a 40))]) (pc2 := 38) C dL_begins_36 (by decide) rfl rfl ?_
          refine q_aload_n (pc2 := 39) C 2 dL_begins_38 rfl rfl rfl ?_
          refine q_iload (pc2 := 41) C 0 dL_begins_39 rfl rfl ?_
          refine q_aload_n (pc2 := 42) C 5 dL_begins_41 rfl rfl rfl ?_
          refine q_bipush (v := nI 7) (pc2 := 44) C dL_begins_42 (by decide) rfl ?_
          refine q_iald (q0 := 0) (f := (fcR fc (fc 7) b b1)) (pc2 := 45) C 7 (wN_g0 ct a (fcR fc (fc 7) b b1) fb fp fq fn f1) rfl (rfl) (by decide) (by decide) dL_begins_44 rfl ?_
          refine q_eqi (y := (fc 7)) (fcR_o (by decide) (by decide)) ?_
          refine q_iast (q0 := 5) (f := f1) (ws' := (wN ct a (fcR fc (fc 7) b b1) fb fp fq fn (upd f1 (8 * b1) (fc 7)))) (pc2 := 46) C (8 * b1) (wN_g5 ct a (fcR fc (fc 7) b b1) fb fp fq fn f1) rfl (rfl) (by omega) (by decide) (wN_a5 ct a (fcR fc (fc 7) b b1) fb fp fq fn f1 (upd f1 (8 * b1) (fc 7))) dL_begins_45 rfl ?_
          refine q_aload_n (pc2 := 47) C 2 dL_begins_46 rfl rfl rfl ?_
          refine q_iload (pc2 := 49) C 0 dL_begins_47 rfl rfl ?_
          refine q_iconst (v := nI 1) (pc2 := 50) C dL_begins_49 (by decide) rfl ?_
          refine q_iadd (v := nI ((8 * b1) + 1)) (pc2 := 51) C dL_begins_50 (nI_add (8 * b1) 1) rfl ?_
          refine q_aload_n (pc2 := 52) C 4 dL_begins_51 rfl rfl rfl ?_
          refine q_aload_n (pc2 := 53) C 5 dL_begins_52 rfl rfl rfl ?_
          refine q_iconst (v := nI 5) (pc2 := 54) C dL_begins_53 (by decide) rfl ?_
          refine q_iald (q0 := 0) (f := (fcR fc (fc 7) b b1)) (pc2 := 55) C 5 (wN_g0 ct a (fcR fc (fc 7) b b1) fb fp fq fn (upd f1 (8 * b1) (fc 7))) rfl (rfl) (by decide) (by decide) dL_begins_54 rfl ?_
          refine q_eqi (y := nI b1) (fcR_5) ?_
          refine q_iald (q0 := 3) (f := fq) (pc2 := 56) C b1 (wN_g3 ct a (fcR fc (fc 7) b b1) fb fp fq fn (upd f1 (8 * b1) (fc 7))) rfl (rfl) (by omega) (by decide) dL_begins_55 rfl ?_
          refine q_iast (q0 := 5) (f := (upd f1 (8 * b1) (fc 7))) (ws' := (wN ct a (fcR fc (fc 7) b b1) fb fp fq fn (upd (upd f1 (8 * b1) (fc 7)) ((8 * b1) + 1) (fq b1)))) (pc2 := 57) C ((8 * b1) + 1) (wN_g5 ct a (fcR fc (fc 7) b b1) fb fp fq fn (upd f1 (8 * b1) (fc 7))) rfl (rfl) (by omega) (by decide) (wN_a5 ct a (fcR fc (fc 7) b b1) fb fp fq fn (upd f1 (8 * b1) (fc 7)) (upd (upd f1 (8 * b1) (fc 7)) ((8 * b1) + 1) (fq b1))) dL_begins_56 rfl ?_
          refine q_aload_n (pc2 := 58) C 2 dL_begins_57 rfl rfl rfl ?_
          refine q_iload (pc2 := 60) C 0 dL_begins_58 rfl rfl ?_
          refine q_iconst (v := nI 2) (pc2 := 61) C dL_begins_60 (by decide) rfl ?_
          refine q_iadd (v := nI ((8 * b1) + 2)) (pc2 := 62) C dL_begins_61 (nI_add (8 * b1) 2) rfl ?_
          refine q_aload_n (pc2 := 63) C 4 dL_begins_62 rfl rfl rfl ?_
          refine q_iconst (v := nI 4) (pc2 := 64) C dL_begins_63 (by decide) rfl ?_
          refine q_aload_n (pc2 := 65) C 5 dL_begins_64 rfl rfl rfl ?_
          refine q_iconst (v := nI 5) (pc2 := 66) C dL_begins_65 (by decide) rfl ?_
          refine q_iald (q0 := 0) (f := (fcR fc (fc 7) b b1)) (pc2 := 67) C 5 (wN_g0 ct a (fcR fc (fc 7) b b1) fb fp fq fn (upd (upd f1 (8 * b1) (fc 7)) ((8 * b1) + 1) (fq b1))) rfl (rfl) (by decide) (by decide) dL_begins_66 rfl ?_
          refine q_eqi (y := nI b1) (fcR_5) ?_
          refine q_iadd (v := nI (4 + b1)) (pc2 := 68) C dL_begins_67 (nI_add 4 b1) rfl ?_
          refine q_iald (q0 := 3) (f := fq) (pc2 := 69) C (4 + b1) (wN_g3 ct a (fcR fc (fc 7) b b1) fb fp fq fn (upd (upd f1 (8 * b1) (fc 7)) ((8 * b1) + 1) (fq b1))) rfl (rfl) (by omega) (by decide) dL_begins_68 rfl ?_
          refine q_iast (q0 := 5) (f := (upd (upd f1 (8 * b1) (fc 7)) ((8 * b1) + 1) (fq b1))) (ws' := (wN ct a (fcR fc (fc 7) b b1) fb fp fq fn (upd (upd (upd f1 (8 * b1) (fc 7)) ((8 * b1) + 1) (fq b1)) ((8 * b1) + 2) (fq (4 + b1))))) (pc2 := 70) C ((8 * b1) + 2) (wN_g5 ct a (fcR fc (fc 7) b b1) fb fp fq fn (upd (upd f1 (8 * b1) (fc 7)) ((8 * b1) + 1) (fq b1))) rfl (rfl) (by omega) (by decide) (wN_a5 ct a (fcR fc (fc 7) b b1) fb fp fq fn (upd (upd f1 (8 * b1) (fc 7)) ((8 * b1) + 1) (fq b1)) (upd (upd (upd f1 (8 * b1) (fc 7)) ((8 * b1) + 1) (fq b1)) ((8 * b1) + 2) (fq (4 + b1)))) dL_begins_69 rfl ?_
          refine q_iconst (v := nI 0) (pc2 := 71) C dL_begins_70 (by decide) rfl ?_
          refine q_istore (lv' := [(6, .int (nI 0)), (5, .int (nI (8 * b1))), (4, .int (nI (b1 - b))), (3, .ref (a 45)), (2, .ref (a 44)), (1, .ref (a 43)), (0, .ref (a 40))]) (pc2 := 73) C dL_begins_71 (by decide) rfl rfl ?_
          refine q_eqw (ws' := (wN ct a (fcR fc (fc 7) b b1) fb fp fq fn (bgP (fc 7) fq fn b1 f1 0))) (congrArg (fun z => wN ct a (fcR fc (fc 7) b b1) fb fp fq fn z) (bgP_0 (fc 7) fq fn b1 f1)) ?_
          refine (lp_up (P := fun j8 => Cf p l e ({ frames := 0, cells := 0, slots := 0, locals := 0 }) s m args below meth c D A 7 0 0 Q 73 [(6, .int (nI j8)), (5, .int (nI (8 * b1))), (4, .int (nI (b1 - b))), (3, .ref (a 45)), (2, .ref (a 44)), (1, .ref (a 43)), (0, .ref (a 40))] [] (wN ct a (fcR fc (fc 7) b b1) fb fp fq fn (bgP (fc 7) fq fn b1 f1 j8))) 5 (fun j8 hj8 ihj8 => ?_) ?_ : Cf p l e ({ frames := 0, cells := 0, slots := 0, locals := 0 }) s m args below meth c D A 7 0 0 Q 73 [(6, .int (nI 0)), (5, .int (nI (8 * b1))), (4, .int (nI (b1 - b))), (3, .ref (a 45)), (2, .ref (a 44)), (1, .ref (a 43)), (0, .ref (a 40))] [] (wN ct a (fcR fc (fc 7) b b1) fb fp fq fn (bgP (fc 7) fq fn b1 f1 0)))
          · skip
            refine q_iload (pc2 := 75) C 0 dL_begins_73 rfl rfl ?_
            refine q_iconst (v := nI 5) (pc2 := 76) C dL_begins_75 (by decide) rfl ?_
            refine q_icmp_ge (tgt := 104) (pc2 := 79) C dL_begins_76 (by decide) rfl (fun h9 => absurd h9 (nI_ge (a := j8) (b := 5) (by omega) (by omega))) (fun _ => ?_)
            refine q_aload_n (pc2 := 80) C 3 dL_begins_79 rfl rfl rfl ?_
            refine q_iload (pc2 := 82) C 1 dL_begins_80 rfl rfl ?_
            refine q_iconst (v := nI 3) (pc2 := 83) C dL_begins_82 (by decide) rfl ?_
            refine q_iadd (v := nI ((8 * b1) + 3)) (pc2 := 84) C dL_begins_83 (nI_add (8 * b1) 3) rfl ?_
            refine q_iload (pc2 := 86) C 0 dL_begins_84 rfl rfl ?_
            refine q_iadd (v := nI (((8 * b1) + 3) + j8)) (pc2 := 87) C dL_begins_86 (nI_add ((8 * b1) + 3) j8) rfl ?_
            refine q_aload_n (pc2 := 88) C 4 dL_begins_87 rfl rfl rfl ?_
            refine q_iconst (v := nI 5) (pc2 := 89) C dL_begins_88 (by decide) rfl ?_
            refine q_aload_n (pc2 := 90) C 6 dL_begins_89 rfl rfl rfl ?_
            refine q_iconst (v := nI 5) (pc2 := 91) C dL_begins_90 (by decide) rfl ?_
            refine q_iald (q0 := 0) (f := (fcR fc (fc 7) b b1)) (pc2 := 92) C 5 (wN_g0 ct a (fcR fc (fc 7) b b1) fb fp fq fn (bgP (fc 7) fq fn b1 f1 j8)) rfl (rfl) (by decide) (by decide) dL_begins_91 rfl ?_
            refine q_eqi (y := nI b1) (fcR_5) ?_
            refine q_imul (v := nI (5 * b1)) (pc2 := 93) C dL_begins_92 (pk_mul 5 b1) rfl ?_
            refine q_iload (pc2 := 95) C 0 dL_begins_93 rfl rfl ?_
            refine q_iadd (v := nI ((5 * b1) + j8)) (pc2 := 96) C dL_begins_95 (nI_add (5 * b1) j8) rfl ?_
            refine q_iald (q0 := 4) (f := fn) (pc2 := 97) C ((5 * b1) + j8) (wN_g4 ct a (fcR fc (fc 7) b b1) fb fp fq fn (bgP (fc 7) fq fn b1 f1 j8)) rfl (rfl) (by omega) (by decide) dL_begins_96 rfl ?_
            refine q_iast (q0 := 5) (f := (bgP (fc 7) fq fn b1 f1 j8)) (ws' := (wN ct a (fcR fc (fc 7) b b1) fb fp fq fn (upd (bgP (fc 7) fq fn b1 f1 j8) (((8 * b1) + 3) + j8) (fn ((5 * b1) + j8))))) (pc2 := 98) C (((8 * b1) + 3) + j8) (wN_g5 ct a (fcR fc (fc 7) b b1) fb fp fq fn (bgP (fc 7) fq fn b1 f1 j8)) rfl (rfl) (by omega) (by decide) (wN_a5 ct a (fcR fc (fc 7) b b1) fb fp fq fn (bgP (fc 7) fq fn b1 f1 j8) (upd (bgP (fc 7) fq fn b1 f1 j8) (((8 * b1) + 3) + j8) (fn ((5 * b1) + j8)))) dL_begins_97 rfl ?_
            refine q_iinc (v := nI (j8 + 1)) (lv' := [(6, .int (nI (j8 + 1))), (5, .int (nI (8 * b1))), (4, .int (nI (b1 - b))), (3, .ref (a 45)), (2, .ref (a 44)), (1, .ref (a 43)), (0, .ref (a 40))]) (pc2 := 101) C 0 dL_begins_98 rfl (show nI j8 + Int32.ofInt 1 = nI (j8 + 1) by rw [show Int32.ofInt 1 = nI 1 from by decide]; exact nI_add j8 1) (by decide) rfl rfl ?_
            refine q_goto (pc2 := 73) C dL_begins_101 (by decide) ?_
            refine q_eqw (ws' := (wN ct a (fcR fc (fc 7) b b1) fb fp fq fn (bgP (fc 7) fq fn b1 f1 (j8 + 1)))) (congrArg (fun z => wN ct a (fcR fc (fc 7) b b1) fb fp fq fn z) (bgP_s (fc 7) fq fn b1 f1 j8)) ?_
            exact ihj8
          · skip
            refine q_iload (pc2 := 75) C 0 dL_begins_73 rfl rfl ?_
            refine q_iconst (v := nI 5) (pc2 := 76) C dL_begins_75 (by decide) rfl ?_
            refine q_icmp_ge (tgt := 104) (pc2 := 79) C dL_begins_76 (by decide) rfl (fun _ => ?_) (fun h9 => absurd (nI_le (a := 5) (b := 5) (by omega) (by omega)) h9)
            refine q_aload_n (pc2 := 105) C 6 dL_begins_104 rfl rfl rfl ?_
            refine q_bipush (v := nI 6) (pc2 := 107) C dL_begins_105 (by decide) rfl ?_
            refine q_aload_n (pc2 := 108) C 6 dL_begins_107 rfl rfl rfl ?_
            refine q_bipush (v := nI 7) (pc2 := 110) C dL_begins_108 (by decide) rfl ?_
            refine q_iald (q0 := 0) (f := (fcR fc (fc 7) b b1)) (pc2 := 111) C 7 (wN_g0 ct a (fcR fc (fc 7) b b1) fb fp fq fn (bgP (fc 7) fq fn b1 f1 5)) rfl (rfl) (by decide) (by decide) dL_begins_110 rfl ?_
            refine q_eqi (y := (fc 7)) (fcR_o (by decide) (by decide)) ?_
            refine q_iast (q0 := 0) (f := (fcR fc (fc 7) b b1)) (ws' := (wN ct a (upd (fcR fc (fc 7) b b1) 6 (fc 7)) fb fp fq fn (bgP (fc 7) fq fn b1 f1 5))) (pc2 := 112) C 6 (wN_g0 ct a (fcR fc (fc 7) b b1) fb fp fq fn (bgP (fc 7) fq fn b1 f1 5)) rfl (rfl) (by decide) (by decide) (wN_a0 ct a (fcR fc (fc 7) b b1) fb fp fq fn (bgP (fc 7) fq fn b1 f1 5) (upd (fcR fc (fc 7) b b1) 6 (fc 7))) dL_begins_111 rfl ?_
            refine q_aload_n (pc2 := 113) C 6 dL_begins_112 rfl rfl rfl ?_
            refine q_iconst (v := nI 5) (pc2 := 114) C dL_begins_113 (by decide) rfl ?_
            refine q_dup2 (pc2 := 115) C dL_begins_114 rfl rfl rfl ?_
            refine q_iald (q0 := 0) (f := (upd (fcR fc (fc 7) b b1) 6 (fc 7))) (pc2 := 116) C 5 (wN_g0 ct a (upd (fcR fc (fc 7) b b1) 6 (fc 7)) fb fp fq fn (bgP (fc 7) fq fn b1 f1 5)) rfl (rfl) (by decide) (by decide) dL_begins_115 rfl ?_
            refine q_eqi (y := nI b1) ((upd_n (by decide)).trans (fcR_5)) ?_
            refine q_iconst (v := nI 1) (pc2 := 117) C dL_begins_116 (by decide) rfl ?_
            refine q_iadd (v := nI (b1 + 1)) (pc2 := 118) C dL_begins_117 (nI_add b1 1) rfl ?_
            refine q_iast (q0 := 0) (f := (upd (fcR fc (fc 7) b b1) 6 (fc 7))) (ws' := (wN ct a (upd (upd (fcR fc (fc 7) b b1) 6 (fc 7)) 5 (nI (b1 + 1))) fb fp fq fn (bgP (fc 7) fq fn b1 f1 5))) (pc2 := 119) C 5 (wN_g0 ct a (upd (fcR fc (fc 7) b b1) 6 (fc 7)) fb fp fq fn (bgP (fc 7) fq fn b1 f1 5)) rfl (rfl) (by decide) (by decide) (wN_a0 ct a (upd (fcR fc (fc 7) b b1) 6 (fc 7)) fb fp fq fn (bgP (fc 7) fq fn b1 f1 5) (upd (upd (fcR fc (fc 7) b b1) 6 (fc 7)) 5 (nI (b1 + 1)))) dL_begins_118 rfl ?_
            refine q_iinc (v := nI ((b1 - b) + 1)) (lv' := [(4, .int (nI ((b1 - b) + 1))), (6, .int (nI 5)), (5, .int (nI (8 * b1))), (3, .ref (a 45)), (2, .ref (a 44)), (1, .ref (a 43)), (0, .ref (a 40))]) (pc2 := 122) C 2 dL_begins_119 rfl (show nI (b1 - b) + Int32.ofInt 1 = nI ((b1 - b) + 1) by rw [show Int32.ofInt 1 = nI 1 from by decide]; exact nI_add (b1 - b) 1) (by decide) rfl rfl ?_
            refine q_goto (pc2 := 3) C dL_begins_122 (by decide) ?_
            refine q_lv (lv' := [(4, .int (nI ((b1 - b) + 1))), (3, .ref (a 45)), (2, .ref (a 44)), (1, .ref (a 43)), (0, .ref (a 40))]) [0, 3, 4, 5, 6] rfl ?_
            refine q_eql (lv' := [(4, .int (nI ((b1 + 1) - b))), (3, .ref (a 45)), (2, .ref (a 44)), (1, .ref (a 43)), (0, .ref (a 40))]) (by rw [show b1 - b + 1 = b1 + 1 - b by omega]) ?_
            refine q_eqw (ws' := (wN ct a (fcR fc (fc 7) b (b1 + 1)) fb fp fq fn (bg1 (fc 7) fq fn b1 f1))) (by rw [bgP_5, fcR_s hle]) ?_
            have e8 := hA hc9
            rw [bgR_s] at e8
            exact ih (b1 + 1) _ (by omega) (by omega) (fun z => by have q8 : fq (8 + b1) = 0 := (show 7 + (b1 + 1) = 8 + b1 by omega) ▸ z.resolve_left (by omega); rw [if_pos q8] at e8; exact e8) (fun z => by rw [if_neg (fun q9 : fq (8 + b1) = 0 => z (Or.inr (by rw [show 7 + (b1 + 1) = 8 + b1 by omega]; exact q9)))] at e8; exact e8)
  exact H (q - b) b fl (by omega) (Nat.le_refl b) (fun _ => rfl) (fun z => absurd (Or.inl rfl) z)

