/-! the reference: cues begin, time goes by -/
def bgmM (y : Nat → Nat → Int32) (c i : Nat) : Nat → Nat → Int32 :=
  set2 (set2 (set2 (set2 (set2 y 13 (fun k => if k < i ∧ y 22 (10 * c + k) ≠ -1 then wlM y k else y 13 k)) 14 (fun k => if k < i ∧ y 22 (10 * c + k) ≠ -1 then y 22 (10 * c + k) else y 14 k)) 15 (fun k => if k < i ∧ y 22 (10 * c + k) ≠ -1 then y 25 0 else y 15 k)) 16 (fun k => if k < i ∧ y 22 (10 * c + k) ≠ -1 then y 19 c else y 16 k)) 17 (fun k => if k < i ∧ y 22 (10 * c + k) ≠ -1 then y 20 c else y 17 k)
theorem bgmM_wl (y : Nat → Nat → Int32) (c i : Nat) : wlM (bgmM y c i) i = wlM y i := by
  simp [wlM, bgmM, set2]
def begM (y : Nat → Nat → Int32) (n c : Nat) : Nat → Nat → Int32 := set2 (set2 (bgmM y c n) 23 (fun _ => nI (c + 1))) 24 (fun _ => y 25 0)
def bnM (n : Nat) : Nat → Nat → (Nat → Nat → Int32) → (Nat → Nat → Int32)
  | 0, _, y => y
  | k + 1, c, y => if y 21 c = 0 then bnM n k (c + 1) (begM y n c) else begM y n c
/-- the times and fades are small -/
def TM (y : Nat → Nat → Int32) (t : Nat) : Prop := y 25 0 = nI t ∧ (∀ k, k < 10 → ∃ s, s ≤ t ∧ y 15 k = nI s) ∧ (∀ k, k < 10 → ∃ f, f ≤ 50 ∧ y 16 k = nI f) ∧ (∀ c, c < 8 → ∃ f, f ≤ 50 ∧ y 19 c = nI f)
theorem fade_ok {f : Nat} (hf : f ≤ 50) (h0 : 0 < f) : ¬ nI f = 0 ∧ ¬ nI f * nI f = 0 := by
  refine ⟨nI_ne0 h0 (by omega), ?_⟩
  rw [pk_mul]
  exact nI_ne0 (Nat.mul_pos h0 h0) (Nat.lt_of_le_of_lt (Nat.mul_le_mul hf hf) (by decide))
theorem TM_ok {y : Nat → Nat → Int32} {t : Nat} (h : TM y t) (ht : t < 2 ^ 30) (k : Nat) (hk : k < 10) : wOk y k := by
  intro hn
  obtain ⟨s, hs, es⟩ := h.2.1 k hk
  obtain ⟨f, hf, ef⟩ := h.2.2.1 k hk
  rw [ef, h.1, es, pk_sub hs] at hn
  rw [ef]
  refine fade_ok hf (Nat.pos_of_ne_zero fun e => hn ?_)
  rw [e]
  exact nI_le (Nat.zero_le _) (by omega)
theorem TM_bgm {y : Nat → Nat → Int32} {t : Nat} (h : TM y t) (c i : Nat) (hc : c < 8) : TM (bgmM y c i) t := by
  refine ⟨h.1, fun k hk => ?_, fun k hk => ?_, h.2.2.2⟩
  · show ∃ s, s ≤ t ∧ (if k < i ∧ y 22 (10 * c + k) ≠ -1 then y 25 0 else y 15 k) = nI s
    split
    · exact ⟨t, Nat.le_refl t, h.1⟩
    · exact h.2.1 k hk
  · show ∃ f, f ≤ 50 ∧ (if k < i ∧ y 22 (10 * c + k) ≠ -1 then y 19 c else y 16 k) = nI f
    split
    · exact h.2.2.2 c hc
    · exact h.2.2.1 k hk
theorem TM_beg {y : Nat → Nat → Int32} {t : Nat} (h : TM y t) (n c : Nat) (hc : c < 8) : TM (begM y n c) t := TM_bgm h c n hc
theorem i_sub1 (a b : Int32) : a - b + 1 = a + 1 - b := by
  rw [Int32.sub_eq_add_neg, Int32.sub_eq_add_neg, Int32.add_assoc, Int32.add_comm (-b), ← Int32.add_assoc]

set_option maxHeartbeats 4000000 in
set_option maxRecDepth 100000 in
theorem c_X4_begin (l : Launch) (D : va_G) (ct : Nat → ClassId) (b : Nat → Nat) (y : Nat → Nat → Int32) (n : Nat) (hn : y 4 0 = nI n) (hn10 : n ≤ 10) (q : Nat) (hq : y 18 0 = nI q) (hq8 : q ≤ 8) (b0 : Nat) (hb0 : y 23 0 = nI b0) (hbq : b0 ≤ q) (t : Nat) (hTM : TM y t) (ht : t < 2 ^ 30) : qM l yX4_begin wsX4_begin ({ frames := 2, cells := 0, slots := 0, locals := 46 }) D ct [.ref (b 30)] (wM ct b y) (qD (some (.int (bnM n (q - b0) b0 y 23 0 - y 23 0))) (wM ct b (bnM n (q - b0) b0 y))) 0 0 := by
  refine q_start (ret := some .int) (lv := [(0, .ref (b 30))]) (by decide +kernel) rfl (Nat.le_of_ble_eq_true rfl) rfl ?_
  intro p e s m args below meth c A Q C hQ hnm
  have hT4 : ∀ w ∈ u_ws RX4 TX4 28, w ∈ wsX4_begin := by decide +kernel
  have f145 : (Cond.fieldLink RX4 145 "PlotPatchModel" "begun" "I").before args s = true := C.w _ (by decide +kernel)
  have f88 : (Cond.fieldLink RX4 88 "PlotPatchModel" "cues" "I").before args s = true := C.w _ (by decide +kernel)
  have f78 : (Cond.fieldLink RX4 78 "PlotPatchModel" "lamps" "I").before args s = true := C.w _ (by decide +kernel)
  have f68 : (Cond.fieldLink RX4 68 "PlotPatchModel" "named" "[I").before args s = true := C.w _ (by decide +kernel)
  have f44 : (Cond.fieldLink RX4 44 "PlotPatchModel" "from" "[I").before args s = true := C.w _ (by decide +kernel)
  have f47 : (Cond.fieldLink RX4 47 "PlotPatchModel" "to" "[I").before args s = true := C.w _ (by decide +kernel)
  have f50 : (Cond.fieldLink RX4 50 "PlotPatchModel" "since" "[I").before args s = true := C.w _ (by decide +kernel)
  have f139 : (Cond.fieldLink RX4 139 "PlotPatchModel" "time" "I").before args s = true := C.w _ (by decide +kernel)
  have f53 : (Cond.fieldLink RX4 53 "PlotPatchModel" "fading" "[I").before args s = true := C.w _ (by decide +kernel)
  have f59 : (Cond.fieldLink RX4 59 "PlotPatchModel" "fade" "[I").before args s = true := C.w _ (by decide +kernel)
  have f56 : (Cond.fieldLink RX4 56 "PlotPatchModel" "by" "[I").before args s = true := C.w _ (by decide +kernel)
  have f62 : (Cond.fieldLink RX4 62 "PlotPatchModel" "curve" "[I").before args s = true := C.w _ (by decide +kernel)
  have f151 : (Cond.fieldLink RX4 151 "PlotPatchModel" "beganAt" "I").before args s = true := C.w _ (by decide +kernel)
  have f65 : (Cond.fieldLink RX4 65 "PlotPatchModel" "follow" "[I").before args s = true := C.w _ (by decide +kernel)
  refine q_iconst (v := 0) (pc2 := 1) C dX4_begin_0 (by decide) rfl ?_
  refine q_istore_n (lv' := [(1, .int 0), (0, .ref (b 30))]) (pc2 := 2) C dX4_begin_1 rfl (by decide) rfl rfl ?_
  refine q_aload_n (pc2 := 3) C 1 dX4_begin_2 rfl rfl rfl ?_
  refine q_get (q0 := 0) (k := 23) (v := .int (y 23 0)) (pc2 := 6) C hT4 f145 (wM_g0 ct b y) rfl (by decide) rfl rfl dX4_begin_3 rfl ?_
  refine q_aload_n (pc2 := 7) C 1 dX4_begin_6 rfl rfl rfl ?_
  refine q_get (q0 := 0) (k := 18) (v := .int (y 18 0)) (pc2 := 10) C hT4 f88 (wM_g0 ct b y) rfl (by decide) rfl rfl dX4_begin_7 rfl ?_
  refine q_icmp_ge (tgt := 17) (pc2 := 13) C dX4_begin_10 (by decide) rfl (fun c10 => ?_) (fun c10 => ?_)
  · skip
    have hqb : q = b0 := Nat.le_antisymm ((nI_leI (by omega) (by omega)).mp (show nI q ≤ nI b0 by rw [← hq, ← hb0]; exact c10)) hbq
    refine q_iconst (v := 0) (pc2 := 18) C dX4_begin_17 (by decide) rfl ?_
    refine q_istore_n (lv' := [(2, .int 0), (1, .int 0), (0, .ref (b 30))]) (pc2 := 19) C dX4_begin_18 rfl (by decide) rfl rfl ?_
    refine q_iload_n (pc2 := 20) C 0 dX4_begin_19 rfl rfl rfl ?_
    refine q_if_eq (tgt := 181) (pc2 := 23) C dX4_begin_20 (by decide) rfl (fun _ => ?_) (fun c20 => (absurd rfl c20))
    refine q_iload_n (pc2 := 182) C 1 dX4_begin_181 rfl rfl rfl ?_
    exact q_zret C hQ rfl (rfl) (by decide) (by decide) dX4_begin_182 ⟨by rw [hqb, Nat.sub_self]; show some (Value.int 0) = some (.int (y 23 0 - y 23 0)); rw [Int32.sub_self], by rw [hqb, Nat.sub_self]; rfl⟩
  · skip
    have hbq1 : b0 < q := (nI_ltI (by omega) (by omega)).mp (show nI b0 < nI q by rw [← hq, ← hb0]; exact Int32.not_le.mp c10)
    refine q_iconst (v := 1) (pc2 := 14) C dX4_begin_13 (by decide) rfl ?_
    refine q_goto (pc2 := 18) C dX4_begin_14 (by decide) ?_
    refine q_istore_n (lv' := [(2, .int 1), (1, .int 0), (0, .ref (b 30))]) (pc2 := 19) C dX4_begin_18 rfl (by decide) rfl rfl ?_
    refine q_iload_n (pc2 := 20) C 0 dX4_begin_19 rfl rfl rfl ?_
    refine q_if_eq (tgt := 181) (pc2 := 23) C dX4_begin_20 (by decide) rfl (fun c20 => (absurd c20 (by decide))) (fun _ => ?_)
    refine q_lv (lv' := [(2, .int 1), (1, .int 0), (0, .ref (b 30))]) [0, 1, 2] rfl ?_
    refine q_eql (lv' := [(2, .int 1), (1, .int (nI b0 - nI b0)), (0, .ref (b 30))]) (by rw [Int32.sub_self]) ?_
    obtain ⟨n1, hn1⟩ : ∃ n1, q = n1 + 1 + b0 := ⟨q - b0 - 1, by omega⟩
    have hl23 : ∀ (n1 i : Nat) (z : Nat → Nat → Int32), n1 + 1 + i = q → z 23 0 = nI i → z 18 0 = nI q → z 4 0 = nI n → TM z t → bnM n (n1 + 1) i z = bnM n (q - b0) b0 y → Cf p l e ({ frames := 2, cells := 0, slots := 0, locals := 46 }) s m args below meth c D A 5 0 0 Q 23 [(2, .int 1), (1, .int (nI i - nI b0)), (0, .ref (b 30))] [] (wM ct b z) := by
      intro n1
      induction n1 with
      | zero =>
        intro i z hni hz23 hz18 hz4 hzt hR
        refine q_aload_n (pc2 := 24) C 2 dX4_begin_23 rfl rfl rfl ?_
        refine q_get (q0 := 0) (k := 23) (v := .int (z 23 0)) (pc2 := 27) C hT4 f145 (wM_g0 ct b z) rfl (by decide) rfl rfl dX4_begin_24 rfl ?_
        refine q_istore_n (lv' := [(3, .int (z 23 0)), (2, .int 1), (1, .int (nI i - nI b0)), (0, .ref (b 30))]) (pc2 := 28) C dX4_begin_27 rfl (by decide) rfl rfl ?_
        refine q_iconst (v := 0) (pc2 := 29) C dX4_begin_28 (by decide) rfl ?_
        refine q_istore (lv' := [(4, .int 0), (3, .int (z 23 0)), (2, .int 1), (1, .int (nI i - nI b0)), (0, .ref (b 30))]) (pc2 := 31) C dX4_begin_29 (by decide) rfl rfl ?_
        refine q_eqw (ws' := (wM ct b (bgmM z i 0))) (by unfold bgmM; rw [fillp_0, fillp_0, fillp_0, fillp_0, fillp_0]; rfl) ?_
        refine q_lv (lv' := [(4, .int 0), (3, .int (z 23 0)), (2, .int 1), (1, .int (nI i - nI b0)), (0, .ref (b 30))]) [0, 1, 2, 3, 4] rfl ?_
        refine lp_up (P := fun k => Cf p l e ({ frames := 2, cells := 0, slots := 0, locals := 46 }) s m args below meth c D A 5 0 0 Q 31 [(4, .int (nI k)), (3, .int (z 23 0)), (2, .int 1), (1, .int (nI i - nI b0)), (0, .ref (b 30))] [] (wM ct b (bgmM z i k))) (n) (fun k hk ihk => ?_) ?_
        · skip
          refine q_iload (pc2 := 33) C 0 dX4_begin_31 rfl rfl ?_
          refine q_aload_n (pc2 := 34) C 4 dX4_begin_33 rfl rfl rfl ?_
          refine q_get (q0 := 0) (k := 4) (v := .int ((bgmM z i k) 4 0)) (pc2 := 37) C hT4 f78 (wM_g0 ct b (bgmM z i k)) rfl (by decide) rfl rfl dX4_begin_34 rfl ?_
          refine q_icmp_ge (tgt := 131) (pc2 := 40) C dX4_begin_37 (by decide) rfl (fun c37 => (q_absurd (a := n) (b := k) (show nI n ≤ nI k by rw [← hz4]; exact c37) hk (by omega))) (fun _ => ?_)
          refine q_aload_n (pc2 := 41) C 4 dX4_begin_40 rfl rfl rfl ?_
          refine q_get (q0 := 0) (k := 22) (v := .ref (b 22)) (pc2 := 44) C hT4 f68 (wM_g0 ct b (bgmM z i k)) rfl (by decide) rfl rfl dX4_begin_41 rfl ?_
          refine q_bipush (v := 10) (pc2 := 46) C dX4_begin_44 (by decide) rfl ?_
          refine q_iload_n (pc2 := 47) C 1 dX4_begin_46 rfl rfl rfl ?_
          refine q_imul (pc2 := 48) C dX4_begin_47 rfl rfl ?_
          refine q_iload (pc2 := 50) C 0 dX4_begin_48 rfl rfl ?_
          refine q_iadd (v := nI (10 * i + k)) (pc2 := 51) C dX4_begin_50 (cellK (n := 10) hz23 rfl) rfl ?_
          refine q_iald (q0 := 20) (f := ((bgmM z i k) 22)) (pc2 := 52) C (10 * i + k) (wM_g20 ct b (bgmM z i k)) rfl (rfl) (by omega) (by decide) dX4_begin_51 rfl ?_
          refine q_eqi (y := (z 22 (10 * i + k))) (rfl) ?_
          refine q_iconst (v := (-1)) (pc2 := 53) C dX4_begin_52 (by decide) rfl ?_
          refine q_icmp_eq (tgt := 125) (pc2 := 56) C dX4_begin_53 (by decide) rfl (fun c53 => ?_) (fun c53 => ?_)
          · skip
            refine q_iinc (v := nI (k + 1)) (lv' := [(4, .int (nI (k + 1))), (3, .int (z 23 0)), (2, .int 1), (1, .int (nI i - nI b0)), (0, .ref (b 30))]) (pc2 := 128) C 0 dX4_begin_125 rfl (nI_1 k) (by decide) rfl rfl ?_
            refine q_goto (pc2 := 31) C dX4_begin_128 (by decide) ?_
            refine q_lv (lv' := [(4, .int (nI (k + 1))), (3, .int (z 23 0)), (2, .int 1), (1, .int (nI i - nI b0)), (0, .ref (b 30))]) [0, 1, 2, 3, 4] rfl ?_
            refine q_eqw (ws' := (wM ct b (bgmM z i (k + 1)))) (by have hc : ¬ z 22 (10 * i + k) ≠ -1 := fun w9 => w9 c53; unfold bgmM; rw [fillp_no (fun k => z 22 (10 * i + k) ≠ -1) (wlM z) (z 13) k hc, fillp_no (fun k => z 22 (10 * i + k) ≠ -1) (fun k => z 22 (10 * i + k)) (z 14) k hc, fillp_no (fun k => z 22 (10 * i + k) ≠ -1) (fun _ => z 25 0) (z 15) k hc, fillp_no (fun k => z 22 (10 * i + k) ≠ -1) (fun _ => z 19 i) (z 16) k hc, fillp_no (fun k => z 22 (10 * i + k) ≠ -1) (fun _ => z 20 i) (z 17) k hc]) ?_
            exact ihk
          · skip
            refine q_aload_n (pc2 := 57) C 4 dX4_begin_56 rfl rfl rfl ?_
            refine q_get (q0 := 0) (k := 13) (v := .ref (b 13)) (pc2 := 60) C hT4 f44 (wM_g0 ct b (bgmM z i k)) rfl (by decide) rfl rfl dX4_begin_57 rfl ?_
            refine q_iload (pc2 := 62) C 0 dX4_begin_60 rfl rfl ?_
            refine q_aload_n (pc2 := 63) C 4 dX4_begin_62 rfl rfl rfl ?_
            refine q_iload (pc2 := 65) C 0 dX4_begin_63 rfl rfl ?_
            refine q_cV (pc2 := 68) (As := [.int (nI k)]) (st := [.int (nI k), .ref (b 13)]) (st2 := [.int (wlM (bgmM z i k) k), .int (nI k), .ref (b 13)]) (q0 := 0) (w2 := (wM ct b (bgmM z i k))) (c2 := 0) (s2 := 0) C (c_X4_wantedOf l D ct b (bgmM z i k) (nI k) k rfl (by omega) (TM_ok (TM_bgm hzt i k (by omega)) ht k (by omega))) (cwV 1 C.w gX4_begin_X4_wantedOf rfl rfl rfl (by decide +kernel) ⟨Nat.le_of_ble_eq_true rfl, Nat.le_of_ble_eq_true rfl⟩) rfl rfl [0, 1, 2, 3, 4, 5, 6, 7, 8, 9, 10, 11, 12, 13, 14, 15, 16, 17, 18, 19, 20, 21] [] [0, 1, 2, 3, 4, 5, 6, 7, 8, 9, 10, 11, 12, 13, 14, 15, 16, 17, 18, 19, 20, 21] rfl rfl (by decide) (by decide) (by decide) rfl (by decide) dX4_begin_65 rfl rfl (Nat.le_of_ble_eq_true rfl) ⟨by decide, by decide⟩ rfl rfl rfl rfl ?_
            refine q_eqi (y := wlM z k) (bgmM_wl z i k) ?_
            refine q_iast (q0 := 12) (f := ((bgmM z i k) 13)) (ws' := (wM ct b (set2 (bgmM z i k) 13 (upd ((bgmM z i k) 13) k (wlM z k))))) (pc2 := 69) C k (wM_g12 ct b (bgmM z i k)) rfl (rfl) (by omega) (by decide) (wM_a12 ct b (bgmM z i k) (upd ((bgmM z i k) 13) k (wlM z k))) dX4_begin_68 rfl ?_
            refine q_aload_n (pc2 := 70) C 4 dX4_begin_69 rfl rfl rfl ?_
            refine q_get (q0 := 0) (k := 14) (v := .ref (b 14)) (pc2 := 73) C hT4 f47 (wM_g0 ct b (set2 (bgmM z i k) 13 (upd ((bgmM z i k) 13) k (wlM z k)))) rfl (by decide) rfl rfl dX4_begin_70 rfl ?_
            refine q_iload (pc2 := 75) C 0 dX4_begin_73 rfl rfl ?_
            refine q_aload_n (pc2 := 76) C 4 dX4_begin_75 rfl rfl rfl ?_
            refine q_get (q0 := 0) (k := 22) (v := .ref (b 22)) (pc2 := 79) C hT4 f68 (wM_g0 ct b (set2 (bgmM z i k) 13 (upd ((bgmM z i k) 13) k (wlM z k)))) rfl (by decide) rfl rfl dX4_begin_76 rfl ?_
            refine q_bipush (v := 10) (pc2 := 81) C dX4_begin_79 (by decide) rfl ?_
            refine q_iload_n (pc2 := 82) C 1 dX4_begin_81 rfl rfl rfl ?_
            refine q_imul (pc2 := 83) C dX4_begin_82 rfl rfl ?_
            refine q_iload (pc2 := 85) C 0 dX4_begin_83 rfl rfl ?_
            refine q_iadd (v := nI (10 * i + k)) (pc2 := 86) C dX4_begin_85 (cellK (n := 10) hz23 rfl) rfl ?_
            refine q_iald (q0 := 20) (f := ((bgmM z i k) 22)) (pc2 := 87) C (10 * i + k) (wM_g20 ct b (set2 (bgmM z i k) 13 (upd ((bgmM z i k) 13) k (wlM z k)))) rfl (rfl) (by omega) (by decide) dX4_begin_86 rfl ?_
            refine q_eqi (y := (z 22 (10 * i + k))) (rfl) ?_
            refine q_iast (q0 := 13) (f := ((bgmM z i k) 14)) (ws' := (wM ct b (set2 (set2 (bgmM z i k) 13 (upd ((bgmM z i k) 13) k (wlM z k))) 14 (upd ((bgmM z i k) 14) k (z 22 (10 * i + k)))))) (pc2 := 88) C k (wM_g13 ct b (set2 (bgmM z i k) 13 (upd ((bgmM z i k) 13) k (wlM z k)))) rfl (rfl) (by omega) (by decide) (wM_a13 ct b (set2 (bgmM z i k) 13 (upd ((bgmM z i k) 13) k (wlM z k))) (upd ((bgmM z i k) 14) k (z 22 (10 * i + k)))) dX4_begin_87 rfl ?_
            refine q_aload_n (pc2 := 89) C 4 dX4_begin_88 rfl rfl rfl ?_
            refine q_get (q0 := 0) (k := 15) (v := .ref (b 15)) (pc2 := 92) C hT4 f50 (wM_g0 ct b (set2 (set2 (bgmM z i k) 13 (upd ((bgmM z i k) 13) k (wlM z k))) 14 (upd ((bgmM z i k) 14) k (z 22 (10 * i + k))))) rfl (by decide) rfl rfl dX4_begin_89 rfl ?_
            refine q_iload (pc2 := 94) C 0 dX4_begin_92 rfl rfl ?_
            refine q_aload_n (pc2 := 95) C 4 dX4_begin_94 rfl rfl rfl ?_
            refine q_get (q0 := 0) (k := 25) (v := .int ((bgmM z i k) 25 0)) (pc2 := 98) C hT4 f139 (wM_g0 ct b (set2 (set2 (bgmM z i k) 13 (upd ((bgmM z i k) 13) k (wlM z k))) 14 (upd ((bgmM z i k) 14) k (z 22 (10 * i + k))))) rfl (by decide) rfl rfl dX4_begin_95 rfl ?_
            refine q_eqi (y := z 25 0) rfl ?_
            refine q_iast (q0 := 14) (f := ((bgmM z i k) 15)) (ws' := (wM ct b (set2 (set2 (set2 (bgmM z i k) 13 (upd ((bgmM z i k) 13) k (wlM z k))) 14 (upd ((bgmM z i k) 14) k (z 22 (10 * i + k)))) 15 (upd ((bgmM z i k) 15) k (z 25 0))))) (pc2 := 99) C k (wM_g14 ct b (set2 (set2 (bgmM z i k) 13 (upd ((bgmM z i k) 13) k (wlM z k))) 14 (upd ((bgmM z i k) 14) k (z 22 (10 * i + k))))) rfl (rfl) (by omega) (by decide) (wM_a14 ct b (set2 (set2 (bgmM z i k) 13 (upd ((bgmM z i k) 13) k (wlM z k))) 14 (upd ((bgmM z i k) 14) k (z 22 (10 * i + k)))) (upd ((bgmM z i k) 15) k (z 25 0))) dX4_begin_98 rfl ?_
            refine q_aload_n (pc2 := 100) C 4 dX4_begin_99 rfl rfl rfl ?_
            refine q_get (q0 := 0) (k := 16) (v := .ref (b 16)) (pc2 := 103) C hT4 f53 (wM_g0 ct b (set2 (set2 (set2 (bgmM z i k) 13 (upd ((bgmM z i k) 13) k (wlM z k))) 14 (upd ((bgmM z i k) 14) k (z 22 (10 * i + k)))) 15 (upd ((bgmM z i k) 15) k (z 25 0)))) rfl (by decide) rfl rfl dX4_begin_100 rfl ?_
            refine q_iload (pc2 := 105) C 0 dX4_begin_103 rfl rfl ?_
            refine q_aload_n (pc2 := 106) C 4 dX4_begin_105 rfl rfl rfl ?_
            refine q_get (q0 := 0) (k := 19) (v := .ref (b 19)) (pc2 := 109) C hT4 f59 (wM_g0 ct b (set2 (set2 (set2 (bgmM z i k) 13 (upd ((bgmM z i k) 13) k (wlM z k))) 14 (upd ((bgmM z i k) 14) k (z 22 (10 * i + k)))) 15 (upd ((bgmM z i k) 15) k (z 25 0)))) rfl (by decide) rfl rfl dX4_begin_106 rfl ?_
            refine q_iload_n (pc2 := 110) C 1 dX4_begin_109 rfl rfl rfl ?_
            refine q_iald (q0 := 17) (f := ((bgmM z i k) 19)) (pc2 := 111) C i (wM_g17 ct b (set2 (set2 (set2 (bgmM z i k) 13 (upd ((bgmM z i k) 13) k (wlM z k))) 14 (upd ((bgmM z i k) 14) k (z 22 (10 * i + k)))) 15 (upd ((bgmM z i k) 15) k (z 25 0)))) rfl (hz23) (by omega) (by decide) dX4_begin_110 rfl ?_
            refine q_eqi (y := (z 19 i)) (rfl) ?_
            refine q_iast (q0 := 15) (f := ((bgmM z i k) 16)) (ws' := (wM ct b (set2 (set2 (set2 (set2 (bgmM z i k) 13 (upd ((bgmM z i k) 13) k (wlM z k))) 14 (upd ((bgmM z i k) 14) k (z 22 (10 * i + k)))) 15 (upd ((bgmM z i k) 15) k (z 25 0))) 16 (upd ((bgmM z i k) 16) k (z 19 i))))) (pc2 := 112) C k (wM_g15 ct b (set2 (set2 (set2 (bgmM z i k) 13 (upd ((bgmM z i k) 13) k (wlM z k))) 14 (upd ((bgmM z i k) 14) k (z 22 (10 * i + k)))) 15 (upd ((bgmM z i k) 15) k (z 25 0)))) rfl (rfl) (by omega) (by decide) (wM_a15 ct b (set2 (set2 (set2 (bgmM z i k) 13 (upd ((bgmM z i k) 13) k (wlM z k))) 14 (upd ((bgmM z i k) 14) k (z 22 (10 * i + k)))) 15 (upd ((bgmM z i k) 15) k (z 25 0))) (upd ((bgmM z i k) 16) k (z 19 i))) dX4_begin_111 rfl ?_
            refine q_aload_n (pc2 := 113) C 4 dX4_begin_112 rfl rfl rfl ?_
            refine q_get (q0 := 0) (k := 17) (v := .ref (b 17)) (pc2 := 116) C hT4 f56 (wM_g0 ct b (set2 (set2 (set2 (set2 (bgmM z i k) 13 (upd ((bgmM z i k) 13) k (wlM z k))) 14 (upd ((bgmM z i k) 14) k (z 22 (10 * i + k)))) 15 (upd ((bgmM z i k) 15) k (z 25 0))) 16 (upd ((bgmM z i k) 16) k (z 19 i)))) rfl (by decide) rfl rfl dX4_begin_113 rfl ?_
            refine q_iload (pc2 := 118) C 0 dX4_begin_116 rfl rfl ?_
            refine q_aload_n (pc2 := 119) C 4 dX4_begin_118 rfl rfl rfl ?_
            refine q_get (q0 := 0) (k := 20) (v := .ref (b 20)) (pc2 := 122) C hT4 f62 (wM_g0 ct b (set2 (set2 (set2 (set2 (bgmM z i k) 13 (upd ((bgmM z i k) 13) k (wlM z k))) 14 (upd ((bgmM z i k) 14) k (z 22 (10 * i + k)))) 15 (upd ((bgmM z i k) 15) k (z 25 0))) 16 (upd ((bgmM z i k) 16) k (z 19 i)))) rfl (by decide) rfl rfl dX4_begin_119 rfl ?_
            refine q_iload_n (pc2 := 123) C 1 dX4_begin_122 rfl rfl rfl ?_
            refine q_iald (q0 := 18) (f := ((bgmM z i k) 20)) (pc2 := 124) C i (wM_g18 ct b (set2 (set2 (set2 (set2 (bgmM z i k) 13 (upd ((bgmM z i k) 13) k (wlM z k))) 14 (upd ((bgmM z i k) 14) k (z 22 (10 * i + k)))) 15 (upd ((bgmM z i k) 15) k (z 25 0))) 16 (upd ((bgmM z i k) 16) k (z 19 i)))) rfl (hz23) (by omega) (by decide) dX4_begin_123 rfl ?_
            refine q_eqi (y := (z 20 i)) (rfl) ?_
            refine q_iast (q0 := 16) (f := ((bgmM z i k) 17)) (ws' := (wM ct b (set2 (set2 (set2 (set2 (set2 (bgmM z i k) 13 (upd ((bgmM z i k) 13) k (wlM z k))) 14 (upd ((bgmM z i k) 14) k (z 22 (10 * i + k)))) 15 (upd ((bgmM z i k) 15) k (z 25 0))) 16 (upd ((bgmM z i k) 16) k (z 19 i))) 17 (upd ((bgmM z i k) 17) k (z 20 i))))) (pc2 := 125) C k (wM_g16 ct b (set2 (set2 (set2 (set2 (bgmM z i k) 13 (upd ((bgmM z i k) 13) k (wlM z k))) 14 (upd ((bgmM z i k) 14) k (z 22 (10 * i + k)))) 15 (upd ((bgmM z i k) 15) k (z 25 0))) 16 (upd ((bgmM z i k) 16) k (z 19 i)))) rfl (rfl) (by omega) (by decide) (wM_a16 ct b (set2 (set2 (set2 (set2 (bgmM z i k) 13 (upd ((bgmM z i k) 13) k (wlM z k))) 14 (upd ((bgmM z i k) 14) k (z 22 (10 * i + k)))) 15 (upd ((bgmM z i k) 15) k (z 25 0))) 16 (upd ((bgmM z i k) 16) k (z 19 i))) (upd ((bgmM z i k) 17) k (z 20 i))) dX4_begin_124 rfl ?_
            refine q_iinc (v := nI (k + 1)) (lv' := [(4, .int (nI (k + 1))), (3, .int (z 23 0)), (2, .int 1), (1, .int (nI i - nI b0)), (0, .ref (b 30))]) (pc2 := 128) C 0 dX4_begin_125 rfl (nI_1 k) (by decide) rfl rfl ?_
            refine q_goto (pc2 := 31) C dX4_begin_128 (by decide) ?_
            refine q_lv (lv' := [(4, .int (nI (k + 1))), (3, .int (z 23 0)), (2, .int 1), (1, .int (nI i - nI b0)), (0, .ref (b 30))]) [0, 1, 2, 3, 4] rfl ?_
            refine q_eqw (ws' := (wM ct b (bgmM z i (k + 1)))) (by unfold bgmM; rw [← fillp_lt (fun k => z 22 (10 * i + k) ≠ -1) (wlM z) (z 13) k c53, ← fillp_lt (fun k => z 22 (10 * i + k) ≠ -1) (fun k => z 22 (10 * i + k)) (z 14) k c53, ← fillp_lt (fun k => z 22 (10 * i + k) ≠ -1) (fun _ => z 25 0) (z 15) k c53, ← fillp_lt (fun k => z 22 (10 * i + k) ≠ -1) (fun _ => z 19 i) (z 16) k c53, ← fillp_lt (fun k => z 22 (10 * i + k) ≠ -1) (fun _ => z 20 i) (z 17) k c53]; rfl) ?_
            exact ihk
        · skip
          refine q_iload (pc2 := 33) C 0 dX4_begin_31 rfl rfl ?_
          refine q_aload_n (pc2 := 34) C 4 dX4_begin_33 rfl rfl rfl ?_
          refine q_get (q0 := 0) (k := 4) (v := .int ((bgmM z i n) 4 0)) (pc2 := 37) C hT4 f78 (wM_g0 ct b (bgmM z i n)) rfl (by decide) rfl rfl dX4_begin_34 rfl ?_
          refine q_icmp_ge (tgt := 131) (pc2 := 40) C dX4_begin_37 (by decide) rfl (fun _ => ?_) (fun c37 => (absurd (show z 4 0 ≤ nI n by rw [hz4]; exact nI_le (Nat.le_refl n) (by omega)) c37))
          refine q_aload_n (pc2 := 132) C 4 dX4_begin_131 rfl rfl rfl ?_
          refine q_dup (pc2 := 133) C dX4_begin_132 rfl rfl ?_
          refine q_get (q0 := 0) (k := 23) (v := .int ((bgmM z i n) 23 0)) (pc2 := 136) C hT4 f145 (wM_g0 ct b (bgmM z i n)) rfl (by decide) rfl rfl dX4_begin_133 rfl ?_
          refine q_iconst (v := 1) (pc2 := 137) C dX4_begin_136 (by decide) rfl ?_
          refine q_iadd (v := nI (i + 1)) (pc2 := 138) C dX4_begin_137 (show z 23 0 + 1 = nI (i + 1) by rw [hz23]; exact nI_1 i) rfl ?_
          refine q_put (q0 := 0) (k := 23) (ty := .int) (ws' := (wM ct b (set2 (bgmM z i n) 23 (fun _ => (nI (i + 1)))))) (pc2 := 141) C hT4 tyX4_ok nmX4 f145 (wM_g0 ct b (bgmM z i n)) rfl (by decide) rfl rfl (by decide +kernel) rfl rfl (Nat.le_of_ble_eq_true rfl) (wM_s0_23 ct b (bgmM z i n) (nI (i + 1))) dX4_begin_138 rfl ?_
          refine q_aload_n (pc2 := 142) C 4 dX4_begin_141 rfl rfl rfl ?_
          refine q_aload_n (pc2 := 143) C 4 dX4_begin_142 rfl rfl rfl ?_
          refine q_get (q0 := 0) (k := 25) (v := .int ((bgmM z i n) 25 0)) (pc2 := 146) C hT4 f139 (wM_g0 ct b (set2 (bgmM z i n) 23 (fun _ => (nI (i + 1))))) rfl (by decide) rfl rfl dX4_begin_143 rfl ?_
          refine q_eqi (y := z 25 0) rfl ?_
          refine q_put (q0 := 0) (k := 24) (ty := .int) (ws' := (wM ct b (set2 (set2 (bgmM z i n) 23 (fun _ => (nI (i + 1)))) 24 (fun _ => (z 25 0))))) (pc2 := 149) C hT4 tyX4_ok nmX4 f151 (wM_g0 ct b (set2 (bgmM z i n) 23 (fun _ => (nI (i + 1))))) rfl (by decide) rfl rfl (by decide +kernel) rfl rfl (Nat.le_of_ble_eq_true rfl) (wM_s0_24 ct b (set2 (bgmM z i n) 23 (fun _ => (nI (i + 1)))) (z 25 0)) dX4_begin_146 rfl ?_
          refine q_eqw (ws' := (wM ct b (begM z n i))) rfl ?_
          refine q_iinc (v := (nI (i + 1) - nI b0)) (lv' := [(1, .int (nI (i + 1) - nI b0)), (4, .int (nI n)), (3, .int (z 23 0)), (2, .int 1), (0, .ref (b 30))]) (pc2 := 152) C 3 dX4_begin_149 rfl ((i_sub1 _ _).trans (by rw [nI_1 i])) (by decide) rfl rfl ?_
          refine q_aload_n (pc2 := 153) C 4 dX4_begin_152 rfl rfl rfl ?_
          refine q_get (q0 := 0) (k := 21) (v := .ref (b 21)) (pc2 := 156) C hT4 f65 (wM_g0 ct b (begM z n i)) rfl (by decide) rfl rfl dX4_begin_153 rfl ?_
          refine q_iload_n (pc2 := 157) C 2 dX4_begin_156 rfl rfl rfl ?_
          refine q_iald (q0 := 19) (f := ((begM z n i) 21)) (pc2 := 158) C i (wM_g19 ct b (begM z n i)) rfl (hz23) (by omega) (by decide) dX4_begin_157 rfl ?_
          refine q_if_ne (tgt := 176) (pc2 := 161) C dX4_begin_158 (by decide) rfl (fun c158 => ?_) (fun c158 => ?_)
          · skip
            refine q_iconst (v := 0) (pc2 := 177) C dX4_begin_176 (by decide) rfl ?_
            refine q_istore_n (lv' := [(2, .int 0), (1, .int (nI (i + 1) - nI b0)), (4, .int (nI n)), (3, .int (z 23 0)), (0, .ref (b 30))]) (pc2 := 178) C dX4_begin_177 rfl (by decide) rfl rfl ?_
            refine q_goto (pc2 := 19) C dX4_begin_178 (by decide) ?_
            refine q_iload_n (pc2 := 20) C 0 dX4_begin_19 rfl rfl rfl ?_
            refine q_if_eq (tgt := 181) (pc2 := 23) C dX4_begin_20 (by decide) rfl (fun _ => ?_) (fun c20 => (absurd rfl c20))
            refine q_iload_n (pc2 := 182) C 1 dX4_begin_181 rfl rfl rfl ?_
            have hRe : begM z n i = bnM n (q - b0) b0 y := by rw [← hR]; exact (if_neg (show ¬ z 21 i = 0 from c158)).symm
            exact q_zret C hQ rfl (rfl) (by decide) (by decide) dX4_begin_182 ⟨by rw [← hRe, hb0]; rfl, by rw [hRe]⟩
          · skip
            refine q_aload_n (pc2 := 162) C 4 dX4_begin_161 rfl rfl rfl ?_
            refine q_get (q0 := 0) (k := 23) (v := .int ((begM z n i) 23 0)) (pc2 := 165) C hT4 f145 (wM_g0 ct b (begM z n i)) rfl (by decide) rfl rfl dX4_begin_162 rfl ?_
            refine q_aload_n (pc2 := 166) C 4 dX4_begin_165 rfl rfl rfl ?_
            refine q_get (q0 := 0) (k := 18) (v := .int ((begM z n i) 18 0)) (pc2 := 169) C hT4 f88 (wM_g0 ct b (begM z n i)) rfl (by decide) rfl rfl dX4_begin_166 rfl ?_
            refine q_icmp_ge (tgt := 176) (pc2 := 172) C dX4_begin_169 (by decide) rfl (fun _ => ?_) (fun c169 => (absurd (show nI q ≤ nI (i + 1) from nI_le (by omega) (by omega)) (fun w9 => c169 (by rw [show (begM z n i) 18 0 = nI q from hz18]; exact w9))))
            refine q_iconst (v := 0) (pc2 := 177) C dX4_begin_176 (by decide) rfl ?_
            refine q_istore_n (lv' := [(2, .int 0), (1, .int (nI (i + 1) - nI b0)), (4, .int (nI n)), (3, .int (z 23 0)), (0, .ref (b 30))]) (pc2 := 178) C dX4_begin_177 rfl (by decide) rfl rfl ?_
            refine q_goto (pc2 := 19) C dX4_begin_178 (by decide) ?_
            refine q_iload_n (pc2 := 20) C 0 dX4_begin_19 rfl rfl rfl ?_
            refine q_if_eq (tgt := 181) (pc2 := 23) C dX4_begin_20 (by decide) rfl (fun _ => ?_) (fun c20 => (absurd rfl c20))
            refine q_iload_n (pc2 := 182) C 1 dX4_begin_181 rfl rfl rfl ?_
            have hRe : begM z n i = bnM n (q - b0) b0 y := by rw [← hR]; simp only [bnM]; rw [if_pos (show z 21 i = 0 from c158)]
            exact q_zret C hQ rfl (rfl) (by decide) (by decide) dX4_begin_182 ⟨by rw [← hRe, hb0]; rfl, by rw [hRe]⟩
      | succ n1 ih =>
        intro i z hni hz23 hz18 hz4 hzt hR
        refine q_aload_n (pc2 := 24) C 2 dX4_begin_23 rfl rfl rfl ?_
        refine q_get (q0 := 0) (k := 23) (v := .int (z 23 0)) (pc2 := 27) C hT4 f145 (wM_g0 ct b z) rfl (by decide) rfl rfl dX4_begin_24 rfl ?_
        refine q_istore_n (lv' := [(3, .int (z 23 0)), (2, .int 1), (1, .int (nI i - nI b0)), (0, .ref (b 30))]) (pc2 := 28) C dX4_begin_27 rfl (by decide) rfl rfl ?_
        refine q_iconst (v := 0) (pc2 := 29) C dX4_begin_28 (by decide) rfl ?_
        refine q_istore (lv' := [(4, .int 0), (3, .int (z 23 0)), (2, .int 1), (1, .int (nI i - nI b0)), (0, .ref (b 30))]) (pc2 := 31) C dX4_begin_29 (by decide) rfl rfl ?_
        refine q_eqw (ws' := (wM ct b (bgmM z i 0))) (by unfold bgmM; rw [fillp_0, fillp_0, fillp_0, fillp_0, fillp_0]; rfl) ?_
        refine q_lv (lv' := [(4, .int 0), (3, .int (z 23 0)), (2, .int 1), (1, .int (nI i - nI b0)), (0, .ref (b 30))]) [0, 1, 2, 3, 4] rfl ?_
        refine lp_up (P := fun k => Cf p l e ({ frames := 2, cells := 0, slots := 0, locals := 46 }) s m args below meth c D A 5 0 0 Q 31 [(4, .int (nI k)), (3, .int (z 23 0)), (2, .int 1), (1, .int (nI i - nI b0)), (0, .ref (b 30))] [] (wM ct b (bgmM z i k))) (n) (fun k hk ihk => ?_) ?_
        · skip
          refine q_iload (pc2 := 33) C 0 dX4_begin_31 rfl rfl ?_
          refine q_aload_n (pc2 := 34) C 4 dX4_begin_33 rfl rfl rfl ?_
          refine q_get (q0 := 0) (k := 4) (v := .int ((bgmM z i k) 4 0)) (pc2 := 37) C hT4 f78 (wM_g0 ct b (bgmM z i k)) rfl (by decide) rfl rfl dX4_begin_34 rfl ?_
          refine q_icmp_ge (tgt := 131) (pc2 := 40) C dX4_begin_37 (by decide) rfl (fun c37 => (q_absurd (a := n) (b := k) (show nI n ≤ nI k by rw [← hz4]; exact c37) hk (by omega))) (fun _ => ?_)
          refine q_aload_n (pc2 := 41) C 4 dX4_begin_40 rfl rfl rfl ?_
          refine q_get (q0 := 0) (k := 22) (v := .ref (b 22)) (pc2 := 44) C hT4 f68 (wM_g0 ct b (bgmM z i k)) rfl (by decide) rfl rfl dX4_begin_41 rfl ?_
          refine q_bipush (v := 10) (pc2 := 46) C dX4_begin_44 (by decide) rfl ?_
          refine q_iload_n (pc2 := 47) C 1 dX4_begin_46 rfl rfl rfl ?_
          refine q_imul (pc2 := 48) C dX4_begin_47 rfl rfl ?_
          refine q_iload (pc2 := 50) C 0 dX4_begin_48 rfl rfl ?_
          refine q_iadd (v := nI (10 * i + k)) (pc2 := 51) C dX4_begin_50 (cellK (n := 10) hz23 rfl) rfl ?_
          refine q_iald (q0 := 20) (f := ((bgmM z i k) 22)) (pc2 := 52) C (10 * i + k) (wM_g20 ct b (bgmM z i k)) rfl (rfl) (by omega) (by decide) dX4_begin_51 rfl ?_
          refine q_eqi (y := (z 22 (10 * i + k))) (rfl) ?_
          refine q_iconst (v := (-1)) (pc2 := 53) C dX4_begin_52 (by decide) rfl ?_
          refine q_icmp_eq (tgt := 125) (pc2 := 56) C dX4_begin_53 (by decide) rfl (fun c53 => ?_) (fun c53 => ?_)
          · skip
            refine q_iinc (v := nI (k + 1)) (lv' := [(4, .int (nI (k + 1))), (3, .int (z 23 0)), (2, .int 1), (1, .int (nI i - nI b0)), (0, .ref (b 30))]) (pc2 := 128) C 0 dX4_begin_125 rfl (nI_1 k) (by decide) rfl rfl ?_
            refine q_goto (pc2 := 31) C dX4_begin_128 (by decide) ?_
            refine q_lv (lv' := [(4, .int (nI (k + 1))), (3, .int (z 23 0)), (2, .int 1), (1, .int (nI i - nI b0)), (0, .ref (b 30))]) [0, 1, 2, 3, 4] rfl ?_
            refine q_eqw (ws' := (wM ct b (bgmM z i (k + 1)))) (by have hc : ¬ z 22 (10 * i + k) ≠ -1 := fun w9 => w9 c53; unfold bgmM; rw [fillp_no (fun k => z 22 (10 * i + k) ≠ -1) (wlM z) (z 13) k hc, fillp_no (fun k => z 22 (10 * i + k) ≠ -1) (fun k => z 22 (10 * i + k)) (z 14) k hc, fillp_no (fun k => z 22 (10 * i + k) ≠ -1) (fun _ => z 25 0) (z 15) k hc, fillp_no (fun k => z 22 (10 * i + k) ≠ -1) (fun _ => z 19 i) (z 16) k hc, fillp_no (fun k => z 22 (10 * i + k) ≠ -1) (fun _ => z 20 i) (z 17) k hc]) ?_
            exact ihk
          · skip
            refine q_aload_n (pc2 := 57) C 4 dX4_begin_56 rfl rfl rfl ?_
            refine q_get (q0 := 0) (k := 13) (v := .ref (b 13)) (pc2 := 60) C hT4 f44 (wM_g0 ct b (bgmM z i k)) rfl (by decide) rfl rfl dX4_begin_57 rfl ?_
            refine q_iload (pc2 := 62) C 0 dX4_begin_60 rfl rfl ?_
            refine q_aload_n (pc2 := 63) C 4 dX4_begin_62 rfl rfl rfl ?_
            refine q_iload (pc2 := 65) C 0 dX4_begin_63 rfl rfl ?_
            refine q_cV (pc2 := 68) (As := [.int (nI k)]) (st := [.int (nI k), .ref (b 13)]) (st2 := [.int (wlM (bgmM z i k) k), .int (nI k), .ref (b 13)]) (q0 := 0) (w2 := (wM ct b (bgmM z i k))) (c2 := 0) (s2 := 0) C (c_X4_wantedOf l D ct b (bgmM z i k) (nI k) k rfl (by omega) (TM_ok (TM_bgm hzt i k (by omega)) ht k (by omega))) (cwV 1 C.w gX4_begin_X4_wantedOf rfl rfl rfl (by decide +kernel) ⟨Nat.le_of_ble_eq_true rfl, Nat.le_of_ble_eq_true rfl⟩) rfl rfl [0, 1, 2, 3, 4, 5, 6, 7, 8, 9, 10, 11, 12, 13, 14, 15, 16, 17, 18, 19, 20, 21] [] [0, 1, 2, 3, 4, 5, 6, 7, 8, 9, 10, 11, 12, 13, 14, 15, 16, 17, 18, 19, 20, 21] rfl rfl (by decide) (by decide) (by decide) rfl (by decide) dX4_begin_65 rfl rfl (Nat.le_of_ble_eq_true rfl) ⟨by decide, by decide⟩ rfl rfl rfl rfl ?_
            refine q_eqi (y := wlM z k) (bgmM_wl z i k) ?_
            refine q_iast (q0 := 12) (f := ((bgmM z i k) 13)) (ws' := (wM ct b (set2 (bgmM z i k) 13 (upd ((bgmM z i k) 13) k (wlM z k))))) (pc2 := 69) C k (wM_g12 ct b (bgmM z i k)) rfl (rfl) (by omega) (by decide) (wM_a12 ct b (bgmM z i k) (upd ((bgmM z i k) 13) k (wlM z k))) dX4_begin_68 rfl ?_
            refine q_aload_n (pc2 := 70) C 4 dX4_begin_69 rfl rfl rfl ?_
            refine q_get (q0 := 0) (k := 14) (v := .ref (b 14)) (pc2 := 73) C hT4 f47 (wM_g0 ct b (set2 (bgmM z i k) 13 (upd ((bgmM z i k) 13) k (wlM z k)))) rfl (by decide) rfl rfl dX4_begin_70 rfl ?_
            refine q_iload (pc2 := 75) C 0 dX4_begin_73 rfl rfl ?_
            refine q_aload_n (pc2 := 76) C 4 dX4_begin_75 rfl rfl rfl ?_
            refine q_get (q0 := 0) (k := 22) (v := .ref (b 22)) (pc2 := 79) C hT4 f68 (wM_g0 ct b (set2 (bgmM z i k) 13 (upd ((bgmM z i k) 13) k (wlM z k)))) rfl (by decide) rfl rfl dX4_begin_76 rfl ?_
            refine q_bipush (v := 10) (pc2 := 81) C dX4_begin_79 (by decide) rfl ?_
            refine q_iload_n (pc2 := 82) C 1 dX4_begin_81 rfl rfl rfl ?_
            refine q_imul (pc2 := 83) C dX4_begin_82 rfl rfl ?_
            refine q_iload (pc2 := 85) C 0 dX4_begin_83 rfl rfl ?_
            refine q_iadd (v := nI (10 * i + k)) (pc2 := 86) C dX4_begin_85 (cellK (n := 10) hz23 rfl) rfl ?_
            refine q_iald (q0 := 20) (f := ((bgmM z i k) 22)) (pc2 := 87) C (10 * i + k) (wM_g20 ct b (set2 (bgmM z i k) 13 (upd ((bgmM z i k) 13) k (wlM z k)))) rfl (rfl) (by omega) (by decide) dX4_begin_86 rfl ?_
            refine q_eqi (y := (z 22 (10 * i + k))) (rfl) ?_
            refine q_iast (q0 := 13) (f := ((bgmM z i k) 14)) (ws' := (wM ct b (set2 (set2 (bgmM z i k) 13 (upd ((bgmM z i k) 13) k (wlM z k))) 14 (upd ((bgmM z i k) 14) k (z 22 (10 * i + k)))))) (pc2 := 88) C k (wM_g13 ct b (set2 (bgmM z i k) 13 (upd ((bgmM z i k) 13) k (wlM z k)))) rfl (rfl) (by omega) (by decide) (wM_a13 ct b (set2 (bgmM z i k) 13 (upd ((bgmM z i k) 13) k (wlM z k))) (upd ((bgmM z i k) 14) k (z 22 (10 * i + k)))) dX4_begin_87 rfl ?_
            refine q_aload_n (pc2 := 89) C 4 dX4_begin_88 rfl rfl rfl ?_
            refine q_get (q0 := 0) (k := 15) (v := .ref (b 15)) (pc2 := 92) C hT4 f50 (wM_g0 ct b (set2 (set2 (bgmM z i k) 13 (upd ((bgmM z i k) 13) k (wlM z k))) 14 (upd ((bgmM z i k) 14) k (z 22 (10 * i + k))))) rfl (by decide) rfl rfl dX4_begin_89 rfl ?_
            refine q_iload (pc2 := 94) C 0 dX4_begin_92 rfl rfl ?_
            refine q_aload_n (pc2 := 95) C 4 dX4_begin_94 rfl rfl rfl ?_
            refine q_get (q0 := 0) (k := 25) (v := .int ((bgmM z i k) 25 0)) (pc2 := 98) C hT4 f139 (wM_g0 ct b (set2 (set2 (bgmM z i k) 13 (upd ((bgmM z i k) 13) k (wlM z k))) 14 (upd ((bgmM z i k) 14) k (z 22 (10 * i + k))))) rfl (by decide) rfl rfl dX4_begin_95 rfl ?_
            refine q_eqi (y := z 25 0) rfl ?_
            refine q_iast (q0 := 14) (f := ((bgmM z i k) 15)) (ws' := (wM ct b (set2 (set2 (set2 (bgmM z i k) 13 (upd ((bgmM z i k) 13) k (wlM z k))) 14 (upd ((bgmM z i k) 14) k (z 22 (10 * i + k)))) 15 (upd ((bgmM z i k) 15) k (z 25 0))))) (pc2 := 99) C k (wM_g14 ct b (set2 (set2 (bgmM z i k) 13 (upd ((bgmM z i k) 13) k (wlM z k))) 14 (upd ((bgmM z i k) 14) k (z 22 (10 * i + k))))) rfl (rfl) (by omega) (by decide) (wM_a14 ct b (set2 (set2 (bgmM z i k) 13 (upd ((bgmM z i k) 13) k (wlM z k))) 14 (upd ((bgmM z i k) 14) k (z 22 (10 * i + k)))) (upd ((bgmM z i k) 15) k (z 25 0))) dX4_begin_98 rfl ?_
            refine q_aload_n (pc2 := 100) C 4 dX4_begin_99 rfl rfl rfl ?_
            refine q_get (q0 := 0) (k := 16) (v := .ref (b 16)) (pc2 := 103) C hT4 f53 (wM_g0 ct b (set2 (set2 (set2 (bgmM z i k) 13 (upd ((bgmM z i k) 13) k (wlM z k))) 14 (upd ((bgmM z i k) 14) k (z 22 (10 * i + k)))) 15 (upd ((bgmM z i k) 15) k (z 25 0)))) rfl (by decide) rfl rfl dX4_begin_100 rfl ?_
            refine q_iload (pc2 := 105) C 0 dX4_begin_103 rfl rfl ?_
            refine q_aload_n (pc2 := 106) C 4 dX4_begin_105 rfl rfl rfl ?_
            refine q_get (q0 := 0) (k := 19) (v := .ref (b 19)) (pc2 := 109) C hT4 f59 (wM_g0 ct b (set2 (set2 (set2 (bgmM z i k) 13 (upd ((bgmM z i k) 13) k (wlM z k))) 14 (upd ((bgmM z i k) 14) k (z 22 (10 * i + k)))) 15 (upd ((bgmM z i k) 15) k (z 25 0)))) rfl (by decide) rfl rfl dX4_begin_106 rfl ?_
            refine q_iload_n (pc2 := 110) C 1 dX4_begin_109 rfl rfl rfl ?_
            refine q_iald (q0 := 17) (f := ((bgmM z i k) 19)) (pc2 := 111) C i (wM_g17 ct b (set2 (set2 (set2 (bgmM z i k) 13 (upd ((bgmM z i k) 13) k (wlM z k))) 14 (upd ((bgmM z i k) 14) k (z 22 (10 * i + k)))) 15 (upd ((bgmM z i k) 15) k (z 25 0)))) rfl (hz23) (by omega) (by decide) dX4_begin_110 rfl ?_
            refine q_eqi (y := (z 19 i)) (rfl) ?_
            refine q_iast (q0 := 15) (f := ((bgmM z i k) 16)) (ws' := (wM ct b (set2 (set2 (set2 (set2 (bgmM z i k) 13 (upd ((bgmM z i k) 13) k (wlM z k))) 14 (upd ((bgmM z i k) 14) k (z 22 (10 * i + k)))) 15 (upd ((bgmM z i k) 15) k (z 25 0))) 16 (upd ((bgmM z i k) 16) k (z 19 i))))) (pc2 := 112) C k (wM_g15 ct b (set2 (set2 (set2 (bgmM z i k) 13 (upd ((bgmM z i k) 13) k (wlM z k))) 14 (upd ((bgmM z i k) 14) k (z 22 (10 * i + k)))) 15 (upd ((bgmM z i k) 15) k (z 25 0)))) rfl (rfl) (by omega) (by decide) (wM_a15 ct b (set2 (set2 (set2 (bgmM z i k) 13 (upd ((bgmM z i k) 13) k (wlM z k))) 14 (upd ((bgmM z i k) 14) k (z 22 (10 * i + k)))) 15 (upd ((bgmM z i k) 15) k (z 25 0))) (upd ((bgmM z i k) 16) k (z 19 i))) dX4_begin_111 rfl ?_
            refine q_aload_n (pc2 := 113) C 4 dX4_begin_112 rfl rfl rfl ?_
            refine q_get (q0 := 0) (k := 17) (v := .ref (b 17)) (pc2 := 116) C hT4 f56 (wM_g0 ct b (set2 (set2 (set2 (set2 (bgmM z i k) 13 (upd ((bgmM z i k) 13) k (wlM z k))) 14 (upd ((bgmM z i k) 14) k (z 22 (10 * i + k)))) 15 (upd ((bgmM z i k) 15) k (z 25 0))) 16 (upd ((bgmM z i k) 16) k (z 19 i)))) rfl (by decide) rfl rfl dX4_begin_113 rfl ?_
            refine q_iload (pc2 := 118) C 0 dX4_begin_116 rfl rfl ?_
            refine q_aload_n (pc2 := 119) C 4 dX4_begin_118 rfl rfl rfl ?_
            refine q_get (q0 := 0) (k := 20) (v := .ref (b 20)) (pc2 := 122) C hT4 f62 (wM_g0 ct b (set2 (set2 (set2 (set2 (bgmM z i k) 13 (upd ((bgmM z i k) 13) k (wlM z k))) 14 (upd ((bgmM z i k) 14) k (z 22 (10 * i + k)))) 15 (upd ((bgmM z i k) 15) k (z 25 0))) 16 (upd ((bgmM z i k) 16) k (z 19 i)))) rfl (by decide) rfl rfl dX4_begin_119 rfl ?_
            refine q_iload_n (pc2 := 123) C 1 dX4_begin_122 rfl rfl rfl ?_
            refine q_iald (q0 := 18) (f := ((bgmM z i k) 20)) (pc2 := 124) C i (wM_g18 ct b (set2 (set2 (set2 (set2 (bgmM z i k) 13 (upd ((bgmM z i k) 13) k (wlM z k))) 14 (upd ((bgmM z i k) 14) k (z 22 (10 * i + k)))) 15 (upd ((bgmM z i k) 15) k (z 25 0))) 16 (upd ((bgmM z i k) 16) k (z 19 i)))) rfl (hz23) (by omega) (by decide) dX4_begin_123 rfl ?_
            refine q_eqi (y := (z 20 i)) (rfl) ?_
            refine q_iast (q0 := 16) (f := ((bgmM z i k) 17)) (ws' := (wM ct b (set2 (set2 (set2 (set2 (set2 (bgmM z i k) 13 (upd ((bgmM z i k) 13) k (wlM z k))) 14 (upd ((bgmM z i k) 14) k (z 22 (10 * i + k)))) 15 (upd ((bgmM z i k) 15) k (z 25 0))) 16 (upd ((bgmM z i k) 16) k (z 19 i))) 17 (upd ((bgmM z i k) 17) k (z 20 i))))) (pc2 := 125) C k (wM_g16 ct b (set2 (set2 (set2 (set2 (bgmM z i k) 13 (upd ((bgmM z i k) 13) k (wlM z k))) 14 (upd ((bgmM z i k) 14) k (z 22 (10 * i + k)))) 15 (upd ((bgmM z i k) 15) k (z 25 0))) 16 (upd ((bgmM z i k) 16) k (z 19 i)))) rfl (rfl) (by omega) (by decide) (wM_a16 ct b (set2 (set2 (set2 (set2 (bgmM z i k) 13 (upd ((bgmM z i k) 13) k (wlM z k))) 14 (upd ((bgmM z i k) 14) k (z 22 (10 * i + k)))) 15 (upd ((bgmM z i k) 15) k (z 25 0))) 16 (upd ((bgmM z i k) 16) k (z 19 i))) (upd ((bgmM z i k) 17) k (z 20 i))) dX4_begin_124 rfl ?_
            refine q_iinc (v := nI (k + 1)) (lv' := [(4, .int (nI (k + 1))), (3, .int (z 23 0)), (2, .int 1), (1, .int (nI i - nI b0)), (0, .ref (b 30))]) (pc2 := 128) C 0 dX4_begin_125 rfl (nI_1 k) (by decide) rfl rfl ?_
            refine q_goto (pc2 := 31) C dX4_begin_128 (by decide) ?_
            refine q_lv (lv' := [(4, .int (nI (k + 1))), (3, .int (z 23 0)), (2, .int 1), (1, .int (nI i - nI b0)), (0, .ref (b 30))]) [0, 1, 2, 3, 4] rfl ?_
            refine q_eqw (ws' := (wM ct b (bgmM z i (k + 1)))) (by unfold bgmM; rw [← fillp_lt (fun k => z 22 (10 * i + k) ≠ -1) (wlM z) (z 13) k c53, ← fillp_lt (fun k => z 22 (10 * i + k) ≠ -1) (fun k => z 22 (10 * i + k)) (z 14) k c53, ← fillp_lt (fun k => z 22 (10 * i + k) ≠ -1) (fun _ => z 25 0) (z 15) k c53, ← fillp_lt (fun k => z 22 (10 * i + k) ≠ -1) (fun _ => z 19 i) (z 16) k c53, ← fillp_lt (fun k => z 22 (10 * i + k) ≠ -1) (fun _ => z 20 i) (z 17) k c53]; rfl) ?_
            exact ihk
        · skip
          refine q_iload (pc2 := 33) C 0 dX4_begin_31 rfl rfl ?_
          refine q_aload_n (pc2 := 34) C 4 dX4_begin_33 rfl rfl rfl ?_
          refine q_get (q0 := 0) (k := 4) (v := .int ((bgmM z i n) 4 0)) (pc2 := 37) C hT4 f78 (wM_g0 ct b (bgmM z i n)) rfl (by decide) rfl rfl dX4_begin_34 rfl ?_
          refine q_icmp_ge (tgt := 131) (pc2 := 40) C dX4_begin_37 (by decide) rfl (fun _ => ?_) (fun c37 => (absurd (show z 4 0 ≤ nI n by rw [hz4]; exact nI_le (Nat.le_refl n) (by omega)) c37))
          refine q_aload_n (pc2 := 132) C 4 dX4_begin_131 rfl rfl rfl ?_
          refine q_dup (pc2 := 133) C dX4_begin_132 rfl rfl ?_
          refine q_get (q0 := 0) (k := 23) (v := .int ((bgmM z i n) 23 0)) (pc2 := 136) C hT4 f145 (wM_g0 ct b (bgmM z i n)) rfl (by decide) rfl rfl dX4_begin_133 rfl ?_
          refine q_iconst (v := 1) (pc2 := 137) C dX4_begin_136 (by decide) rfl ?_
          refine q_iadd (v := nI (i + 1)) (pc2 := 138) C dX4_begin_137 (show z 23 0 + 1 = nI (i + 1) by rw [hz23]; exact nI_1 i) rfl ?_
          refine q_put (q0 := 0) (k := 23) (ty := .int) (ws' := (wM ct b (set2 (bgmM z i n) 23 (fun _ => (nI (i + 1)))))) (pc2 := 141) C hT4 tyX4_ok nmX4 f145 (wM_g0 ct b (bgmM z i n)) rfl (by decide) rfl rfl (by decide +kernel) rfl rfl (Nat.le_of_ble_eq_true rfl) (wM_s0_23 ct b (bgmM z i n) (nI (i + 1))) dX4_begin_138 rfl ?_
          refine q_aload_n (pc2 := 142) C 4 dX4_begin_141 rfl rfl rfl ?_
          refine q_aload_n (pc2 := 143) C 4 dX4_begin_142 rfl rfl rfl ?_
          refine q_get (q0 := 0) (k := 25) (v := .int ((bgmM z i n) 25 0)) (pc2 := 146) C hT4 f139 (wM_g0 ct b (set2 (bgmM z i n) 23 (fun _ => (nI (i + 1))))) rfl (by decide) rfl rfl dX4_begin_143 rfl ?_
          refine q_eqi (y := z 25 0) rfl ?_
          refine q_put (q0 := 0) (k := 24) (ty := .int) (ws' := (wM ct b (set2 (set2 (bgmM z i n) 23 (fun _ => (nI (i + 1)))) 24 (fun _ => (z 25 0))))) (pc2 := 149) C hT4 tyX4_ok nmX4 f151 (wM_g0 ct b (set2 (bgmM z i n) 23 (fun _ => (nI (i + 1))))) rfl (by decide) rfl rfl (by decide +kernel) rfl rfl (Nat.le_of_ble_eq_true rfl) (wM_s0_24 ct b (set2 (bgmM z i n) 23 (fun _ => (nI (i + 1)))) (z 25 0)) dX4_begin_146 rfl ?_
          refine q_eqw (ws' := (wM ct b (begM z n i))) rfl ?_
          refine q_iinc (v := (nI (i + 1) - nI b0)) (lv' := [(1, .int (nI (i + 1) - nI b0)), (4, .int (nI n)), (3, .int (z 23 0)), (2, .int 1), (0, .ref (b 30))]) (pc2 := 152) C 3 dX4_begin_149 rfl ((i_sub1 _ _).trans (by rw [nI_1 i])) (by decide) rfl rfl ?_
          refine q_aload_n (pc2 := 153) C 4 dX4_begin_152 rfl rfl rfl ?_
          refine q_get (q0 := 0) (k := 21) (v := .ref (b 21)) (pc2 := 156) C hT4 f65 (wM_g0 ct b (begM z n i)) rfl (by decide) rfl rfl dX4_begin_153 rfl ?_
          refine q_iload_n (pc2 := 157) C 2 dX4_begin_156 rfl rfl rfl ?_
          refine q_iald (q0 := 19) (f := ((begM z n i) 21)) (pc2 := 158) C i (wM_g19 ct b (begM z n i)) rfl (hz23) (by omega) (by decide) dX4_begin_157 rfl ?_
          refine q_if_ne (tgt := 176) (pc2 := 161) C dX4_begin_158 (by decide) rfl (fun c158 => ?_) (fun c158 => ?_)
          · skip
            refine q_iconst (v := 0) (pc2 := 177) C dX4_begin_176 (by decide) rfl ?_
            refine q_istore_n (lv' := [(2, .int 0), (1, .int (nI (i + 1) - nI b0)), (4, .int (nI n)), (3, .int (z 23 0)), (0, .ref (b 30))]) (pc2 := 178) C dX4_begin_177 rfl (by decide) rfl rfl ?_
            refine q_goto (pc2 := 19) C dX4_begin_178 (by decide) ?_
            refine q_iload_n (pc2 := 20) C 0 dX4_begin_19 rfl rfl rfl ?_
            refine q_if_eq (tgt := 181) (pc2 := 23) C dX4_begin_20 (by decide) rfl (fun _ => ?_) (fun c20 => (absurd rfl c20))
            refine q_iload_n (pc2 := 182) C 1 dX4_begin_181 rfl rfl rfl ?_
            have hRe : begM z n i = bnM n (q - b0) b0 y := by rw [← hR]; exact (if_neg (show ¬ z 21 i = 0 from c158)).symm
            exact q_zret C hQ rfl (rfl) (by decide) (by decide) dX4_begin_182 ⟨by rw [← hRe, hb0]; rfl, by rw [hRe]⟩
          · skip
            refine q_aload_n (pc2 := 162) C 4 dX4_begin_161 rfl rfl rfl ?_
            refine q_get (q0 := 0) (k := 23) (v := .int ((begM z n i) 23 0)) (pc2 := 165) C hT4 f145 (wM_g0 ct b (begM z n i)) rfl (by decide) rfl rfl dX4_begin_162 rfl ?_
            refine q_aload_n (pc2 := 166) C 4 dX4_begin_165 rfl rfl rfl ?_
            refine q_get (q0 := 0) (k := 18) (v := .int ((begM z n i) 18 0)) (pc2 := 169) C hT4 f88 (wM_g0 ct b (begM z n i)) rfl (by decide) rfl rfl dX4_begin_166 rfl ?_
            refine q_icmp_ge (tgt := 176) (pc2 := 172) C dX4_begin_169 (by decide) rfl (fun c169 => (absurd (show nI q ≤ nI (i + 1) by rw [← hz18]; exact c169) (fun w9 => Nat.lt_irrefl (i + 1) (Nat.lt_of_lt_of_le (show i + 1 < q by omega) ((nI_leI (by omega) (by omega)).mp w9))))) (fun _ => ?_)
            refine q_iconst (v := 1) (pc2 := 173) C dX4_begin_172 (by decide) rfl ?_
            refine q_goto (pc2 := 177) C dX4_begin_173 (by decide) ?_
            refine q_istore_n (lv' := [(2, .int 1), (1, .int (nI (i + 1) - nI b0)), (4, .int (nI n)), (3, .int (z 23 0)), (0, .ref (b 30))]) (pc2 := 178) C dX4_begin_177 rfl (by decide) rfl rfl ?_
            refine q_goto (pc2 := 19) C dX4_begin_178 (by decide) ?_
            refine q_iload_n (pc2 := 20) C 0 dX4_begin_19 rfl rfl rfl ?_
            refine q_if_eq (tgt := 181) (pc2 := 23) C dX4_begin_20 (by decide) rfl (fun c20 => (absurd c20 (by decide))) (fun _ => ?_)
            refine q_lv (lv' := [(2, .int 1), (1, .int (nI (i + 1) - nI b0)), (0, .ref (b 30))]) [0, 1, 4] rfl ?_
            exact ih (i + 1) (begM z n i) (by omega) rfl hz18 hz4 (TM_beg hzt n i (by omega)) (by rw [← hR]; simp only [bnM]; rw [if_pos (show z 21 i = 0 from c158)])
    exact hl23 n1 b0 y hn1.symm hb0 hq hn hTM (by rw [show n1 + 1 = q - b0 by omega])

set_option maxHeartbeats 4000000 in
set_option maxRecDepth 100000 in
theorem c_X4_go (l : Launch) (D : va_G) (ct : Nat → ClassId) (b : Nat → Nat) (y : Nat → Nat → Int32) (n : Nat) (hn : y 4 0 = nI n) (hn10 : n ≤ 10) (q : Nat) (hq : y 18 0 = nI q) (hq8 : q ≤ 8) (b0 : Nat) (hb0 : y 23 0 = nI b0) (hbq : b0 ≤ q) (t : Nat) (hTM : TM y t) (ht : t < 2 ^ 30) : qM l yX4_go wsX4_go ({ frames := 3, cells := 0, slots := 0, locals := 70 }) D ct [.ref (b 30)] (wM ct b y) (qD (some (.int (if T1 (y 23 0 < y 18 0) = 0 then bnM n (q - b0) b0 (set2 y 27 (fun _ => T1 (y 23 0 < y 18 0))) 23 0 - 1 else 0))) (wM ct b (if T1 (y 23 0 < y 18 0) = 0 then bnM n (q - b0) b0 (set2 y 27 (fun _ => T1 (y 23 0 < y 18 0))) else (set2 y 27 (fun _ => T1 (y 23 0 < y 18 0)))))) 0 0 := by
  refine q_start (ret := some .int) (lv := [(0, .ref (b 30))]) (by decide +kernel) rfl (Nat.le_of_ble_eq_true rfl) rfl ?_
  intro p e s m args below meth c A Q C hQ hnm
  have hT4 : ∀ w ∈ u_ws RX4 TX4 28, w ∈ wsX4_go := by decide +kernel
  have f145 : (Cond.fieldLink RX4 145 "PlotPatchModel" "begun" "I").before args s = true := C.w _ (by decide +kernel)
  have f88 : (Cond.fieldLink RX4 88 "PlotPatchModel" "cues" "I").before args s = true := C.w _ (by decide +kernel)
  refine q_aload_n (pc2 := 1) C 0 dX4_go_0 rfl rfl rfl ?_
  have hj17 : Cf p l e ({ frames := 3, cells := 0, slots := 0, locals := 70 }) s m args below meth c D A 1 0 0 Q 17 [(0, .ref (b 30))] [.int (b2 (y 23 0 < y 18 0)), .ref (b 30)] (wM ct b y) := by
    refine q_cV (pc2 := 20) (As := [.int (b2 (y 23 0 < y 18 0))]) (st := []) (st2 := [.int (b2 (y 23 0 < y 18 0))]) (q0 := 0) (w2 := (wM ct b (set2 y 27 (fun _ => T1 (y 23 0 < y 18 0))))) (c2 := 0) (s2 := 0) C (c_X4_may l D ct b y (b2 (y 23 0 < y 18 0)) (b2_nar _)) (cwV 1 C.w gX4_go_X4_may rfl rfl rfl (by decide +kernel) ⟨Nat.le_of_ble_eq_true rfl, Nat.le_of_ble_eq_true rfl⟩) rfl rfl [0, 1, 2, 3, 4, 5, 6, 7, 8, 9, 10, 11, 12, 13, 14, 15, 16, 17, 18, 19, 20, 21] [] [0, 1, 2, 3, 4, 5, 6, 7, 8, 9, 10, 11, 12, 13, 14, 15, 16, 17, 18, 19, 20, 21] rfl rfl (by decide) (by decide) (by decide) rfl (by decide) dX4_go_17 rfl rfl (Nat.le_of_ble_eq_true rfl) ⟨by decide, by decide⟩ rfl rfl rfl rfl ?_
    refine q_if_ne (tgt := 25) (pc2 := 23) C dX4_go_20 (by decide) rfl (fun c20 => ?_) (fun c20 => ?_)
    · skip
      have ht9 : T1 (y 23 0 < y 18 0) = 0 := if_neg c20
      refine q_aload_n (pc2 := 26) C 0 dX4_go_25 rfl rfl rfl ?_
      refine q_cV (pc2 := 29) (As := []) (st := []) (st2 := [.int (bnM n (q - b0) b0 (set2 y 27 (fun _ => T1 (y 23 0 < y 18 0))) 23 0 - (set2 y 27 (fun _ => T1 (y 23 0 < y 18 0))) 23 0)]) (q0 := 0) (w2 := (wM ct b (bnM n (q - b0) b0 (set2 y 27 (fun _ => T1 (y 23 0 < y 18 0)))))) (c2 := 0) (s2 := 0) C (c_X4_begin l D ct b (set2 y 27 (fun _ => T1 (y 23 0 < y 18 0))) n hn hn10 q hq hq8 b0 hb0 hbq t hTM ht) (cwV 0 C.w gX4_go_X4_begin rfl rfl rfl (by decide +kernel) ⟨Nat.le_of_ble_eq_true rfl, Nat.le_of_ble_eq_true rfl⟩) rfl rfl [0, 1, 2, 3, 4, 5, 6, 7, 8, 9, 10, 11, 12, 13, 14, 15, 16, 17, 18, 19, 20, 21] [] [0, 1, 2, 3, 4, 5, 6, 7, 8, 9, 10, 11, 12, 13, 14, 15, 16, 17, 18, 19, 20, 21] rfl rfl (by decide) (by decide) (by decide) rfl (by decide) dX4_go_26 rfl rfl (Nat.le_of_ble_eq_true rfl) ⟨by decide, by decide⟩ rfl rfl rfl rfl ?_
      refine q_pop (pc2 := 30) C dX4_go_29 rfl rfl ?_
      refine q_aload_n (pc2 := 31) C 0 dX4_go_30 rfl rfl rfl ?_
      refine q_get (q0 := 0) (k := 23) (v := .int ((bnM n (q - b0) b0 (set2 y 27 (fun _ => T1 (y 23 0 < y 18 0)))) 23 0)) (pc2 := 34) C hT4 f145 (wM_g0 ct b (bnM n (q - b0) b0 (set2 y 27 (fun _ => T1 (y 23 0 < y 18 0))))) rfl (by decide) rfl rfl dX4_go_31 rfl ?_
      refine q_iconst (v := 1) (pc2 := 35) C dX4_go_34 (by decide) rfl ?_
      refine q_isub (pc2 := 36) C dX4_go_35 rfl rfl ?_
      exact q_zret C hQ rfl (rfl) (by decide) (by decide) dX4_go_36 ⟨by rw [if_pos ht9], by rw [if_pos ht9]⟩
    · skip
      have ht0 : ¬ T1 (y 23 0 < y 18 0) = 0 := by rw [show T1 (y 23 0 < y 18 0) = 1 from if_pos c20]; decide
      refine q_iconst (v := 0) (pc2 := 24) C dX4_go_23 (by decide) rfl ?_
      exact q_zret C hQ rfl (rfl) (by decide) (by decide) dX4_go_24 ⟨by rw [if_neg ht0], by rw [if_neg ht0]⟩
  refine q_aload_n (pc2 := 2) C 0 dX4_go_1 rfl rfl rfl ?_
  refine q_get (q0 := 0) (k := 23) (v := .int (y 23 0)) (pc2 := 5) C hT4 f145 (wM_g0 ct b y) rfl (by decide) rfl rfl dX4_go_2 rfl ?_
  refine q_aload_n (pc2 := 6) C 0 dX4_go_5 rfl rfl rfl ?_
  refine q_get (q0 := 0) (k := 18) (v := .int (y 18 0)) (pc2 := 9) C hT4 f88 (wM_g0 ct b y) rfl (by decide) rfl rfl dX4_go_6 rfl ?_
  refine q_icmp_ge (tgt := 16) (pc2 := 12) C dX4_go_9 (by decide) rfl (fun c9 => ?_) (fun c9 => ?_)
  · skip
    refine q_iconst (v := 0) (pc2 := 17) C dX4_go_16 (by decide) rfl ?_
    refine q_eqi (y := (b2 (y 23 0 < y 18 0))) ((b2_f (fun z : y 23 0 < y 18 0 => absurd z (Int32.not_lt.mpr c9))).symm) ?_
    exact hj17
  · skip
    refine q_iconst (v := 1) (pc2 := 13) C dX4_go_12 (by decide) rfl ?_
    refine q_goto (pc2 := 17) C dX4_go_13 (by decide) ?_
    refine q_eqi (y := (b2 (y 23 0 < y 18 0))) ((b2_t (c := y 23 0 < y 18 0) (Int32.not_le.mp c9)).symm) ?_
    exact hj17
