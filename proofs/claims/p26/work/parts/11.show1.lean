/-! the show's answers -/
def fdiv (u v : Int32) : Int32 := if 0 ≤ u ^^^ v then u / v else if u / v * v = u then u / v else u / v - 1
def gain (way ticks fade curve : Int32) : Int32 := if curve = 2 then 0 else if fade ≤ 0 then 0 else if curve = 1 then fdiv (way * ticks * ticks) (fade * fade) else fdiv (way * ticks) fade
def fadeOk (f : Int32) : Prop := 0 < f → ¬ f * f = 0
def wlv (x : Nat → Nat → Int32) (k c : Nat) : Int32 := if x 17 c ≤ 0 then x 26 k else if x 17 c ≤ x 21 0 - x 23 c then x 26 k else x 25 k + gain (x 26 k - x 25 k) (x 21 0 - x 23 c) (x 17 c) (x 18 c)
def wlX (x : Nat → Nat → Int32) (k : Nat) : Int32 := if x 24 k < 0 then 0 else if x 16 0 ≤ x 24 k then 0 else wlv x k (x 24 k).toNatClampNeg

set_option maxHeartbeats 4000000 in
set_option maxRecDepth 100000 in
theorem c_J9_floorDiv_7cf53 (l : Launch) (D : va_G) (ct : Nat → ClassId) (u v : Int32) (hne : ¬ v = 0) : qM l yJ9_floorDiv_7cf53 wsJ9_floorDiv_7cf53 ({ frames := 0, cells := 0, slots := 0, locals := 0 }) D ct [.int u, .int v] [] (qD (some (.int (fdiv u v))) []) 0 0 := by
  refine q_startF (ret := some .int) (lv := [(0, .int u), (1, .int v)]) (by decide +kernel) rfl (Nat.le_of_ble_eq_true rfl) rfl ?_
  intro p e s m args below meth c A Q C hQ hnm
  refine q_iload_n (pc2 := 1) C 0 dJ9_floorDiv_7cf53_0 rfl rfl rfl ?_
  refine q_iload_n (pc2 := 2) C 1 dJ9_floorDiv_7cf53_1 rfl rfl rfl ?_
  refine q_idiv (pc2 := 3) C dJ9_floorDiv_7cf53_2 (hne) rfl rfl ?_
  refine q_istore_n (lv' := [(2, .int (u / v)), (0, .int u), (1, .int v)]) (pc2 := 4) C dJ9_floorDiv_7cf53_3 rfl (by decide) rfl rfl ?_
  refine q_iload_n (pc2 := 5) C 1 dJ9_floorDiv_7cf53_4 rfl rfl rfl ?_
  refine q_iload_n (pc2 := 6) C 2 dJ9_floorDiv_7cf53_5 rfl rfl rfl ?_
  refine q_ixor (pc2 := 7) C dJ9_floorDiv_7cf53_6 rfl rfl ?_
  refine q_if_ge (tgt := 21) (pc2 := 10) C dJ9_floorDiv_7cf53_7 (by decide) rfl (fun c7 => ?_) (fun c7 => ?_)
  · skip
    refine q_iload_n (pc2 := 22) C 0 dJ9_floorDiv_7cf53_21 rfl rfl rfl ?_
    exact q_zret C hQ rfl (rfl) (Nat.zero_le _) (Nat.zero_le _) dJ9_floorDiv_7cf53_22 ⟨by unfold fdiv; rw [if_pos c7], rfl⟩
  · skip
    refine q_iload_n (pc2 := 11) C 0 dJ9_floorDiv_7cf53_10 rfl rfl rfl ?_
    refine q_iload_n (pc2 := 12) C 2 dJ9_floorDiv_7cf53_11 rfl rfl rfl ?_
    refine q_imul (pc2 := 13) C dJ9_floorDiv_7cf53_12 rfl rfl ?_
    refine q_iload_n (pc2 := 14) C 1 dJ9_floorDiv_7cf53_13 rfl rfl rfl ?_
    refine q_icmp_eq (tgt := 21) (pc2 := 17) C dJ9_floorDiv_7cf53_14 (by decide) rfl (fun c14 => ?_) (fun c14 => ?_)
    · skip
      refine q_iload_n (pc2 := 22) C 0 dJ9_floorDiv_7cf53_21 rfl rfl rfl ?_
      exact q_zret C hQ rfl (rfl) (Nat.zero_le _) (Nat.zero_le _) dJ9_floorDiv_7cf53_22 ⟨by unfold fdiv; rw [if_neg c7, if_pos c14], rfl⟩
    · skip
      refine q_iload_n (pc2 := 18) C 0 dJ9_floorDiv_7cf53_17 rfl rfl rfl ?_
      refine q_iconst (v := 1) (pc2 := 19) C dJ9_floorDiv_7cf53_18 (by decide) rfl ?_
      refine q_isub (pc2 := 20) C dJ9_floorDiv_7cf53_19 rfl rfl ?_
      exact q_zret C hQ rfl (rfl) (Nat.zero_le _) (Nat.zero_le _) dJ9_floorDiv_7cf53_20 ⟨by unfold fdiv; rw [if_neg c7, if_neg c14], rfl⟩

set_option maxHeartbeats 4000000 in
set_option maxRecDepth 100000 in
theorem c_X2_gained (l : Launch) (D : va_G) (ct : Nat → ClassId) (way ticks fade curve : Int32) (hf : fadeOk fade) : qM l yX2_gained wsX2_gained ({ frames := 1, cells := 0, slots := 0, locals := 22 }) D ct [.int way, .int ticks, .int fade, .int curve] [] (qD (some (.int (gain way ticks fade curve))) []) 0 0 := by
  refine q_start (ret := some .int) (lv := [(0, .int way), (1, .int ticks), (2, .int fade), (3, .int curve)]) (by decide +kernel) rfl (Nat.le_of_ble_eq_true rfl) rfl ?_
  intro p e s m args below meth c A Q C hQ hnm
  refine q_iload_n (pc2 := 1) C 3 dX2_gained_0 rfl rfl rfl ?_
  refine q_iconst (v := 2) (pc2 := 2) C dX2_gained_1 (by decide) rfl ?_
  refine q_icmp_eq (tgt := 9) (pc2 := 5) C dX2_gained_2 (by decide) rfl (fun c2 => ?_) (fun c2 => ?_)
  · skip
    refine q_iconst (v := 0) (pc2 := 10) C dX2_gained_9 (by decide) rfl ?_
    exact q_zret C hQ rfl (rfl) (Nat.zero_le _) (Nat.zero_le _) dX2_gained_10 ⟨by unfold gain; rw [if_pos c2], rfl⟩
  · skip
    refine q_iload_n (pc2 := 6) C 2 dX2_gained_5 rfl rfl rfl ?_
    refine q_if_gt (tgt := 11) (pc2 := 9) C dX2_gained_6 (by decide) rfl (fun c6 => ?_) (fun c6 => ?_)
    · skip
      refine q_iload_n (pc2 := 12) C 3 dX2_gained_11 rfl rfl rfl ?_
      refine q_iconst (v := 1) (pc2 := 13) C dX2_gained_12 (by decide) rfl ?_
      refine q_icmp_ne (tgt := 28) (pc2 := 16) C dX2_gained_13 (by decide) rfl (fun c13 => ?_) (fun c13 => ?_)
      · skip
        refine q_iload_n (pc2 := 29) C 0 dX2_gained_28 rfl rfl rfl ?_
        refine q_iload_n (pc2 := 30) C 1 dX2_gained_29 rfl rfl rfl ?_
        refine q_imul (pc2 := 31) C dX2_gained_30 rfl rfl ?_
        refine q_iload_n (pc2 := 32) C 2 dX2_gained_31 rfl rfl rfl ?_
        refine q_cS (pc2 := 35) (As := [.int (way * ticks), .int fade]) (st := []) (st2 := [.int (fdiv (way * ticks) fade)]) (w2 := []) (c2 := 0) (s2 := 0) C (c_J9_floorDiv_7cf53 l D ct (way * ticks) fade (fun z => absurd (z ▸ c6) (by decide))) (va_cwS 2 C.w gX2_gained_J9_floorDiv_7cf53 rfl rfl rfl (by decide +kernel) ⟨Nat.le_of_ble_eq_true rfl, Nat.le_of_ble_eq_true rfl⟩) [] [] [] rfl rfl (by decide) (by decide) (by decide) rfl (by decide) dX2_gained_32 rfl rfl (Nat.le_of_ble_eq_true rfl) ⟨Nat.zero_le _, Nat.zero_le _⟩ rfl rfl rfl rfl ?_
        exact q_zret C hQ rfl (rfl) (Nat.zero_le _) (Nat.zero_le _) dX2_gained_35 ⟨by unfold gain; rw [if_neg c2, if_neg (Int32.not_le.mpr c6), if_neg c13], rfl⟩
      · skip
        refine q_iload_n (pc2 := 17) C 0 dX2_gained_16 rfl rfl rfl ?_
        refine q_iload_n (pc2 := 18) C 1 dX2_gained_17 rfl rfl rfl ?_
        refine q_imul (pc2 := 19) C dX2_gained_18 rfl rfl ?_
        refine q_iload_n (pc2 := 20) C 1 dX2_gained_19 rfl rfl rfl ?_
        refine q_imul (pc2 := 21) C dX2_gained_20 rfl rfl ?_
        refine q_iload_n (pc2 := 22) C 2 dX2_gained_21 rfl rfl rfl ?_
        refine q_iload_n (pc2 := 23) C 2 dX2_gained_22 rfl rfl rfl ?_
        refine q_imul (pc2 := 24) C dX2_gained_23 rfl rfl ?_
        refine q_cS (pc2 := 27) (As := [.int ((way * ticks) * ticks), .int (fade * fade)]) (st := []) (st2 := [.int (fdiv ((way * ticks) * ticks) (fade * fade))]) (w2 := []) (c2 := 0) (s2 := 0) C (c_J9_floorDiv_7cf53 l D ct ((way * ticks) * ticks) (fade * fade) (hf c6)) (va_cwS 2 C.w gX2_gained_J9_floorDiv_7cf53 rfl rfl rfl (by decide +kernel) ⟨Nat.le_of_ble_eq_true rfl, Nat.le_of_ble_eq_true rfl⟩) [] [] [] rfl rfl (by decide) (by decide) (by decide) rfl (by decide) dX2_gained_24 rfl rfl (Nat.le_of_ble_eq_true rfl) ⟨Nat.zero_le _, Nat.zero_le _⟩ rfl rfl rfl rfl ?_
        exact q_zret C hQ rfl (rfl) (Nat.zero_le _) (Nat.zero_le _) dX2_gained_27 ⟨by unfold gain; rw [if_neg c2, if_neg (Int32.not_le.mpr c6), if_pos c13], rfl⟩
    · skip
      refine q_iconst (v := 0) (pc2 := 10) C dX2_gained_9 (by decide) rfl ?_
      exact q_zret C hQ rfl (rfl) (Nat.zero_le _) (Nat.zero_le _) dX2_gained_10 ⟨by unfold gain; rw [if_neg c2, if_pos (Int32.not_lt.mp c6)], rfl⟩

set_option maxHeartbeats 4000000 in
set_option maxRecDepth 100000 in
theorem c_X2_cell (l : Launch) (D : va_G) (ct : Nat → ClassId) (hh bb : Int32) : qM l yX2_cell wsX2_cell ({ frames := 0, cells := 0, slots := 0, locals := 0 }) D ct [.int hh, .int bb] [] (qD (some (.int ((hh * 10) + bb))) []) 0 0 := by
  refine q_start (ret := some .int) (lv := [(0, .int hh), (1, .int bb)]) (by decide +kernel) rfl (Nat.le_of_ble_eq_true rfl) rfl ?_
  intro p e s m args below meth c A Q C hQ hnm
  refine q_iload_n (pc2 := 1) C 0 dX2_cell_0 rfl rfl rfl ?_
  refine q_bipush (v := 10) (pc2 := 3) C dX2_cell_1 (by decide) rfl ?_
  refine q_imul (pc2 := 4) C dX2_cell_3 rfl rfl ?_
  refine q_iload_n (pc2 := 5) C 1 dX2_cell_4 rfl rfl rfl ?_
  refine q_iadd (pc2 := 6) C dX2_cell_5 rfl rfl ?_
  exact q_zret C hQ rfl (rfl) (Nat.zero_le _) (Nat.zero_le _) dX2_cell_6 ⟨rfl, rfl⟩

set_option maxHeartbeats 4000000 in
set_option maxRecDepth 100000 in
theorem c_X2_wantedLevel (l : Launch) (D : va_G) (ct : Nat → ClassId) (a : Nat → Nat) (x : Nat → Nat → Int32) (k : Nat) (hk : k < 10) (q : Nat) (hq : x 16 0 = nI q) (hq8 : q ≤ 8) (hfd : ∀ c, c < 8 → fadeOk (x 17 c)) : qM l yX2_wantedLevel wsX2_wantedLevel ({ frames := 2, cells := 0, slots := 0, locals := 45 }) D ct [.ref (a 33), .int (nI k)] (wS ct a x) (qD (some (.int (wlX x k))) (wS ct a x)) 0 0 := by
  refine q_start (ret := some .int) (lv := [(0, .ref (a 33)), (1, .int (nI k))]) (by decide +kernel) rfl (Nat.le_of_ble_eq_true rfl) rfl ?_
  intro p e s m args below meth c A Q C hQ hnm
  have hT2 : ∀ w ∈ u_ws RX2 TX2 11, w ∈ wsX2_wantedLevel := by decide +kernel
  have f43 : (Cond.fieldLink RX2 43 "PlotPatch$Show" "ruling" "[I").before args s = true := C.w _ (by decide +kernel)
  have f9 : (Cond.fieldLink RX2 9 "PlotPatch$Show" "cueCount" "I").before args s = true := C.w _ (by decide +kernel)
  have f34 : (Cond.fieldLink RX2 34 "PlotPatch$Show" "time" "I").before args s = true := C.w _ (by decide +kernel)
  have f40 : (Cond.fieldLink RX2 40 "PlotPatch$Show" "beganAt" "[I").before args s = true := C.w _ (by decide +kernel)
  have f15 : (Cond.fieldLink RX2 15 "PlotPatch$Show" "fades" "[I").before args s = true := C.w _ (by decide +kernel)
  have f49 : (Cond.fieldLink RX2 49 "PlotPatch$Show" "to" "[I").before args s = true := C.w _ (by decide +kernel)
  have f46 : (Cond.fieldLink RX2 46 "PlotPatch$Show" "from" "[I").before args s = true := C.w _ (by decide +kernel)
  have f19 : (Cond.fieldLink RX2 19 "PlotPatch$Show" "curves" "[I").before args s = true := C.w _ (by decide +kernel)
  refine q_aload_n (pc2 := 1) C 0 dX2_wantedLevel_0 rfl rfl rfl ?_
  refine q_get (q0 := 0) (k := 8) (v := .ref (a 24)) (pc2 := 4) C hT2 f43 (wS_g0 ct a x) rfl (by decide) rfl rfl dX2_wantedLevel_1 rfl ?_
  refine q_iload_n (pc2 := 5) C 1 dX2_wantedLevel_4 rfl rfl rfl ?_
  refine q_iald (q0 := 6) (f := (x 24)) (pc2 := 6) C k (wS_g6 ct a x) rfl (rfl) (by omega) (by decide) dX2_wantedLevel_5 rfl ?_
  refine q_istore_n (lv' := [(2, .int ((x 24) k)), (0, .ref (a 33)), (1, .int (nI k))]) (pc2 := 7) C dX2_wantedLevel_6 rfl (by decide) rfl rfl ?_
  refine q_iload_n (pc2 := 8) C 0 dX2_wantedLevel_7 rfl rfl rfl ?_
  refine q_if_lt (tgt := 19) (pc2 := 11) C dX2_wantedLevel_8 (by decide) rfl (fun c8 => ?_) (fun c8 => ?_)
  · skip
    refine q_iconst (v := 0) (pc2 := 20) C dX2_wantedLevel_19 (by decide) rfl ?_
    exact q_zret C hQ rfl (rfl) (Nat.zero_le _) (Nat.zero_le _) dX2_wantedLevel_20 ⟨by unfold wlX; rw [if_pos c8], rfl⟩
  · skip
    refine q_iload_n (pc2 := 12) C 0 dX2_wantedLevel_11 rfl rfl rfl ?_
    refine q_aload_n (pc2 := 13) C 1 dX2_wantedLevel_12 rfl rfl rfl ?_
    refine q_get (q0 := 0) (k := 0) (v := .int (x 16 0)) (pc2 := 16) C hT2 f9 (wS_g0 ct a x) rfl (by decide) rfl rfl dX2_wantedLevel_13 rfl ?_
    refine q_icmp_lt (tgt := 21) (pc2 := 19) C dX2_wantedLevel_16 (by decide) rfl (fun c16 => ?_) (fun c16 => ?_)
    · skip
      obtain ⟨c0, hc0, ec0⟩ := nI_below (k := q) (b := x 24 k) (by rw [← hq]; exact ⟨Int32.not_lt.mp c8, c16⟩) (by omega)
      have hcl : (x 24 k).toNatClampNeg = c0 := by rw [ec0]; exact nI_clamp (by omega)
      have hwl : wlX x k = wlv x k c0 := by unfold wlX; rw [if_neg c8, if_neg (Int32.not_le.mpr c16), hcl]
      refine q_aload_n (pc2 := 22) C 1 dX2_wantedLevel_21 rfl rfl rfl ?_
      refine q_get (q0 := 0) (k := 5) (v := .int (x 21 0)) (pc2 := 25) C hT2 f34 (wS_g0 ct a x) rfl (by decide) rfl rfl dX2_wantedLevel_22 rfl ?_
      refine q_aload_n (pc2 := 26) C 1 dX2_wantedLevel_25 rfl rfl rfl ?_
      refine q_get (q0 := 0) (k := 7) (v := .ref (a 23)) (pc2 := 29) C hT2 f40 (wS_g0 ct a x) rfl (by decide) rfl rfl dX2_wantedLevel_26 rfl ?_
      refine q_iload_n (pc2 := 30) C 0 dX2_wantedLevel_29 rfl rfl rfl ?_
      refine q_iald (q0 := 5) (f := (x 23)) (pc2 := 31) C c0 (wS_g5 ct a x) rfl (ec0) (by omega) (by decide) dX2_wantedLevel_30 rfl ?_
      refine q_isub (pc2 := 32) C dX2_wantedLevel_31 rfl rfl ?_
      refine q_istore_n (lv' := [(3, .int ((x 21 0) - ((x 23) c0))), (2, .int ((x 24) k)), (0, .ref (a 33)), (1, .int (nI k))]) (pc2 := 33) C dX2_wantedLevel_32 rfl (by decide) rfl rfl ?_
      refine q_aload_n (pc2 := 34) C 2 dX2_wantedLevel_33 rfl rfl rfl ?_
      refine q_get (q0 := 0) (k := 1) (v := .ref (a 17)) (pc2 := 37) C hT2 f15 (wS_g0 ct a x) rfl (by decide) rfl rfl dX2_wantedLevel_34 rfl ?_
      refine q_iload_n (pc2 := 38) C 1 dX2_wantedLevel_37 rfl rfl rfl ?_
      refine q_iald (q0 := 1) (f := (x 17)) (pc2 := 39) C c0 (wS_g1 ct a x) rfl (ec0) (by omega) (by decide) dX2_wantedLevel_38 rfl ?_
      refine q_istore (lv' := [(4, .int ((x 17) c0)), (3, .int ((x 21 0) - ((x 23) c0))), (2, .int ((x 24) k)), (0, .ref (a 33)), (1, .int (nI k))]) (pc2 := 41) C dX2_wantedLevel_39 (by decide) rfl rfl ?_
      refine q_iload (pc2 := 43) C 0 dX2_wantedLevel_41 rfl rfl ?_
      refine q_if_le (tgt := 52) (pc2 := 46) C dX2_wantedLevel_43 (by decide) rfl (fun c43 => ?_) (fun c43 => ?_)
      · skip
        refine q_aload_n (pc2 := 53) C 3 dX2_wantedLevel_52 rfl rfl rfl ?_
        refine q_get (q0 := 0) (k := 10) (v := .ref (a 26)) (pc2 := 56) C hT2 f49 (wS_g0 ct a x) rfl (by decide) rfl rfl dX2_wantedLevel_53 rfl ?_
        refine q_iload_n (pc2 := 57) C 4 dX2_wantedLevel_56 rfl rfl rfl ?_
        refine q_iald (q0 := 8) (f := (x 26)) (pc2 := 58) C k (wS_g8 ct a x) rfl (rfl) (by omega) (by decide) dX2_wantedLevel_57 rfl ?_
        exact q_zret C hQ rfl (rfl) (Nat.zero_le _) (Nat.zero_le _) dX2_wantedLevel_58 ⟨by rw [hwl]; unfold wlv; rw [if_pos c43], rfl⟩
      · skip
        refine q_iload_n (pc2 := 47) C 1 dX2_wantedLevel_46 rfl rfl rfl ?_
        refine q_iload (pc2 := 49) C 0 dX2_wantedLevel_47 rfl rfl ?_
        refine q_icmp_lt (tgt := 59) (pc2 := 52) C dX2_wantedLevel_49 (by decide) rfl (fun c49 => ?_) (fun c49 => ?_)
        · skip
          refine q_aload_n (pc2 := 60) C 3 dX2_wantedLevel_59 rfl rfl rfl ?_
          refine q_get (q0 := 0) (k := 9) (v := .ref (a 25)) (pc2 := 63) C hT2 f46 (wS_g0 ct a x) rfl (by decide) rfl rfl dX2_wantedLevel_60 rfl ?_
          refine q_iload_n (pc2 := 64) C 4 dX2_wantedLevel_63 rfl rfl rfl ?_
          refine q_iald (q0 := 7) (f := (x 25)) (pc2 := 65) C k (wS_g7 ct a x) rfl (rfl) (by omega) (by decide) dX2_wantedLevel_64 rfl ?_
          refine q_aload_n (pc2 := 66) C 3 dX2_wantedLevel_65 rfl rfl rfl ?_
          refine q_get (q0 := 0) (k := 10) (v := .ref (a 26)) (pc2 := 69) C hT2 f49 (wS_g0 ct a x) rfl (by decide) rfl rfl dX2_wantedLevel_66 rfl ?_
          refine q_iload_n (pc2 := 70) C 4 dX2_wantedLevel_69 rfl rfl rfl ?_
          refine q_iald (q0 := 8) (f := (x 26)) (pc2 := 71) C k (wS_g8 ct a x) rfl (rfl) (by omega) (by decide) dX2_wantedLevel_70 rfl ?_
          refine q_aload_n (pc2 := 72) C 3 dX2_wantedLevel_71 rfl rfl rfl ?_
          refine q_get (q0 := 0) (k := 9) (v := .ref (a 25)) (pc2 := 75) C hT2 f46 (wS_g0 ct a x) rfl (by decide) rfl rfl dX2_wantedLevel_72 rfl ?_
          refine q_iload_n (pc2 := 76) C 4 dX2_wantedLevel_75 rfl rfl rfl ?_
          refine q_iald (q0 := 7) (f := (x 25)) (pc2 := 77) C k (wS_g7 ct a x) rfl (rfl) (by omega) (by decide) dX2_wantedLevel_76 rfl ?_
          refine q_isub (pc2 := 78) C dX2_wantedLevel_77 rfl rfl ?_
          refine q_iload_n (pc2 := 79) C 1 dX2_wantedLevel_78 rfl rfl rfl ?_
          refine q_iload (pc2 := 81) C 0 dX2_wantedLevel_79 rfl rfl ?_
          refine q_aload_n (pc2 := 82) C 3 dX2_wantedLevel_81 rfl rfl rfl ?_
          refine q_get (q0 := 0) (k := 2) (v := .ref (a 18)) (pc2 := 85) C hT2 f19 (wS_g0 ct a x) rfl (by decide) rfl rfl dX2_wantedLevel_82 rfl ?_
          refine q_iload_n (pc2 := 86) C 2 dX2_wantedLevel_85 rfl rfl rfl ?_
          refine q_iald (q0 := 2) (f := (x 18)) (pc2 := 87) C c0 (wS_g2 ct a x) rfl (ec0) (by omega) (by decide) dX2_wantedLevel_86 rfl ?_
          refine q_cS (pc2 := 90) (As := [.int (((x 26) k) - ((x 25) k)), .int ((x 21 0) - ((x 23) c0)), .int ((x 17) c0), .int ((x 18) c0)]) (st := [.int ((x 25) k)]) (st2 := [.int (gain (((x 26) k) - ((x 25) k)) ((x 21 0) - ((x 23) c0)) ((x 17) c0) ((x 18) c0)), .int ((x 25) k)]) (w2 := (wS ct a x)) (c2 := 0) (s2 := 0) C (c_X2_gained l D ct (((x 26) k) - ((x 25) k)) ((x 21 0) - ((x 23) c0)) ((x 17) c0) ((x 18) c0) (hfd c0 (by omega))) (va_cwS 4 C.w gX2_wantedLevel_X2_gained rfl rfl rfl (by decide +kernel) ⟨Nat.le_of_ble_eq_true rfl, Nat.le_of_ble_eq_true rfl⟩) [] [0, 1, 2, 3, 4, 5, 6, 7, 8] [0, 1, 2, 3, 4, 5, 6, 7, 8] rfl rfl (by decide) (by decide) (by decide) rfl (by decide) dX2_wantedLevel_87 rfl rfl (Nat.le_of_ble_eq_true rfl) ⟨Nat.zero_le _, Nat.zero_le _⟩ rfl rfl rfl rfl ?_
          refine q_iadd (pc2 := 91) C dX2_wantedLevel_90 rfl rfl ?_
          exact q_zret C hQ rfl (rfl) (Nat.zero_le _) (Nat.zero_le _) dX2_wantedLevel_91 ⟨by rw [hwl]; unfold wlv; rw [if_neg c43, if_neg (Int32.not_le.mpr c49)], rfl⟩
        · skip
          refine q_aload_n (pc2 := 53) C 3 dX2_wantedLevel_52 rfl rfl rfl ?_
          refine q_get (q0 := 0) (k := 10) (v := .ref (a 26)) (pc2 := 56) C hT2 f49 (wS_g0 ct a x) rfl (by decide) rfl rfl dX2_wantedLevel_53 rfl ?_
          refine q_iload_n (pc2 := 57) C 4 dX2_wantedLevel_56 rfl rfl rfl ?_
          refine q_iald (q0 := 8) (f := (x 26)) (pc2 := 58) C k (wS_g8 ct a x) rfl (rfl) (by omega) (by decide) dX2_wantedLevel_57 rfl ?_
          exact q_zret C hQ rfl (rfl) (Nat.zero_le _) (Nat.zero_le _) dX2_wantedLevel_58 ⟨by rw [hwl]; unfold wlv; rw [if_neg c43, if_pos (Int32.not_lt.mp c49)], rfl⟩
    · skip
      refine q_iconst (v := 0) (pc2 := 20) C dX2_wantedLevel_19 (by decide) rfl ?_
      exact q_zret C hQ rfl (rfl) (Nat.zero_le _) (Nat.zero_le _) dX2_wantedLevel_20 ⟨by unfold wlX; rw [if_neg c8, if_pos (Int32.not_lt.mp c16)], rfl⟩

set_option maxHeartbeats 4000000 in
set_option maxRecDepth 100000 in
theorem c_X2_addCue (l : Launch) (D : va_G) (ct : Nat → ClassId) (a : Nat → Nat) (x : Nat → Nat → Int32) (q : Nat) (hq : x 16 0 = nI q) (hq8 : q < 8) (fade curve follow : Int32) : qM l yX2_addCue wsX2_addCue ({ frames := 0, cells := 0, slots := 0, locals := 0 }) D ct [.ref (a 33), .int fade, .int curve, .int follow] (wS ct a x) (qD (some (.int (x 16 0))) (wS ct a (set2 (set2 (set2 (set2 x 16 (fun _ => x 16 0 + 1)) 17 (upd (x 17) q fade)) 18 (upd (x 18) q curve)) 19 (upd (x 19) q follow)))) 0 0 := by
  refine q_start (ret := some .int) (lv := [(0, .ref (a 33)), (1, .int fade), (2, .int curve), (3, .int follow)]) (by decide +kernel) rfl (Nat.le_of_ble_eq_true rfl) rfl ?_
  intro p e s m args below meth c A Q C hQ hnm
  have hT2 : ∀ w ∈ u_ws RX2 TX2 11, w ∈ wsX2_addCue := by decide +kernel
  have f9 : (Cond.fieldLink RX2 9 "PlotPatch$Show" "cueCount" "I").before args s = true := C.w _ (by decide +kernel)
  have f15 : (Cond.fieldLink RX2 15 "PlotPatch$Show" "fades" "[I").before args s = true := C.w _ (by decide +kernel)
  have f19 : (Cond.fieldLink RX2 19 "PlotPatch$Show" "curves" "[I").before args s = true := C.w _ (by decide +kernel)
  have f22 : (Cond.fieldLink RX2 22 "PlotPatch$Show" "follows" "[I").before args s = true := C.w _ (by decide +kernel)
  refine q_aload_n (pc2 := 1) C 0 dX2_addCue_0 rfl rfl rfl ?_
  refine q_get (q0 := 0) (k := 0) (v := .int (x 16 0)) (pc2 := 4) C hT2 f9 (wS_g0 ct a x) rfl (by decide) rfl rfl dX2_addCue_1 rfl ?_
  refine q_istore (lv' := [(4, .int (x 16 0)), (0, .ref (a 33)), (1, .int fade), (2, .int curve), (3, .int follow)]) (pc2 := 6) C dX2_addCue_4 (by decide) rfl rfl ?_
  refine q_aload_n (pc2 := 7) C 1 dX2_addCue_6 rfl rfl rfl ?_
  refine q_dup (pc2 := 8) C dX2_addCue_7 rfl rfl ?_
  refine q_get (q0 := 0) (k := 0) (v := .int (x 16 0)) (pc2 := 11) C hT2 f9 (wS_g0 ct a x) rfl (by decide) rfl rfl dX2_addCue_8 rfl ?_
  refine q_iconst (v := 1) (pc2 := 12) C dX2_addCue_11 (by decide) rfl ?_
  refine q_iadd (pc2 := 13) C dX2_addCue_12 rfl rfl ?_
  refine q_put (q0 := 0) (k := 0) (ty := .int) (ws' := (wS ct a (set2 x 16 (fun _ => ((x 16 0) + 1))))) (pc2 := 16) C hT2 tyX2_ok nmX2 f9 (wS_g0 ct a x) rfl (by decide) rfl rfl (by decide +kernel) rfl rfl (Nat.le_of_ble_eq_true rfl) (wS_s0_0 ct a x ((x 16 0) + 1)) dX2_addCue_13 rfl ?_
  refine q_aload_n (pc2 := 17) C 1 dX2_addCue_16 rfl rfl rfl ?_
  refine q_get (q0 := 0) (k := 1) (v := .ref (a 17)) (pc2 := 20) C hT2 f15 (wS_g0 ct a (set2 x 16 (fun _ => ((x 16 0) + 1)))) rfl (by decide) rfl rfl dX2_addCue_17 rfl ?_
  refine q_iload (pc2 := 22) C 0 dX2_addCue_20 rfl rfl ?_
  refine q_iload_n (pc2 := 23) C 2 dX2_addCue_22 rfl rfl rfl ?_
  refine q_iast (q0 := 1) (f := (x 17)) (ws' := (wS ct a (set2 (set2 x 16 (fun _ => ((x 16 0) + 1))) 17 (upd (x 17) q fade)))) (pc2 := 24) C q (wS_g1 ct a (set2 x 16 (fun _ => ((x 16 0) + 1)))) rfl (hq) (by omega) (by decide) (wS_a1 ct a (set2 x 16 (fun _ => ((x 16 0) + 1))) (upd (x 17) q fade)) dX2_addCue_23 rfl ?_
  refine q_aload_n (pc2 := 25) C 1 dX2_addCue_24 rfl rfl rfl ?_
  refine q_get (q0 := 0) (k := 2) (v := .ref (a 18)) (pc2 := 28) C hT2 f19 (wS_g0 ct a (set2 (set2 x 16 (fun _ => ((x 16 0) + 1))) 17 (upd (x 17) q fade))) rfl (by decide) rfl rfl dX2_addCue_25 rfl ?_
  refine q_iload (pc2 := 30) C 0 dX2_addCue_28 rfl rfl ?_
  refine q_iload_n (pc2 := 31) C 3 dX2_addCue_30 rfl rfl rfl ?_
  refine q_iast (q0 := 2) (f := (x 18)) (ws' := (wS ct a (set2 (set2 (set2 x 16 (fun _ => ((x 16 0) + 1))) 17 (upd (x 17) q fade)) 18 (upd (x 18) q curve)))) (pc2 := 32) C q (wS_g2 ct a (set2 (set2 x 16 (fun _ => ((x 16 0) + 1))) 17 (upd (x 17) q fade))) rfl (hq) (by omega) (by decide) (wS_a2 ct a (set2 (set2 x 16 (fun _ => ((x 16 0) + 1))) 17 (upd (x 17) q fade)) (upd (x 18) q curve)) dX2_addCue_31 rfl ?_
  refine q_aload_n (pc2 := 33) C 1 dX2_addCue_32 rfl rfl rfl ?_
  refine q_get (q0 := 0) (k := 3) (v := .ref (a 19)) (pc2 := 36) C hT2 f22 (wS_g0 ct a (set2 (set2 (set2 x 16 (fun _ => ((x 16 0) + 1))) 17 (upd (x 17) q fade)) 18 (upd (x 18) q curve))) rfl (by decide) rfl rfl dX2_addCue_33 rfl ?_
  refine q_iload (pc2 := 38) C 0 dX2_addCue_36 rfl rfl ?_
  refine q_iload_n (pc2 := 39) C 4 dX2_addCue_38 rfl rfl rfl ?_
  refine q_iast (q0 := 3) (f := (x 19)) (ws' := (wS ct a (set2 (set2 (set2 (set2 x 16 (fun _ => ((x 16 0) + 1))) 17 (upd (x 17) q fade)) 18 (upd (x 18) q curve)) 19 (upd (x 19) q follow)))) (pc2 := 40) C q (wS_g3 ct a (set2 (set2 (set2 x 16 (fun _ => ((x 16 0) + 1))) 17 (upd (x 17) q fade)) 18 (upd (x 18) q curve))) rfl (hq) (by omega) (by decide) (wS_a3 ct a (set2 (set2 (set2 x 16 (fun _ => ((x 16 0) + 1))) 17 (upd (x 17) q fade)) 18 (upd (x 18) q curve)) (upd (x 19) q follow)) dX2_addCue_39 rfl ?_
  refine q_iload (pc2 := 42) C 0 dX2_addCue_40 rfl rfl ?_
  exact q_zret C hQ rfl (rfl) (Nat.zero_le _) (Nat.zero_le _) dX2_addCue_42 ⟨rfl, rfl⟩

theorem fillc_0 (v : Int32) (f : Nat → Int32) : (fun k => if k < 0 then v else f k) = f := by funext k; rw [if_neg (Nat.not_lt_zero k)]

set_option maxHeartbeats 4000000 in
set_option maxRecDepth 100000 in
theorem c_J7_fill_53178 (l : Launch) (D : va_G) (ct : Nat → ClassId) (qa n : Nat) (f0 : Nat → Int32) (v : Int32) (hn31 : n < 2 ^ 31) : qM l yJ7_fill_53178 wsJ7_fill_53178 ({ frames := 0, cells := 0, slots := 0, locals := 0 }) D ct [.ref qa, .int v] [(qa, .inl (ct 0, n, .inl f0))] (qD none [(qa, .inl (ct 0, n, .inl (fun k => if k < n then v else f0 k)))]) 0 0 := by
  refine q_start (ret := none) (lv := [(0, .ref qa), (1, .int v)]) (by decide +kernel) rfl (Nat.le_of_ble_eq_true rfl) rfl ?_
  intro p e s m args below meth c A Q C hQ hnm
  refine q_iconst (v := 0) (pc2 := 1) C dJ7_fill_53178_0 (by decide) rfl ?_
  refine q_istore_n (lv' := [(2, .int 0), (0, .ref qa), (1, .int v)]) (pc2 := 2) C dJ7_fill_53178_1 rfl (by decide) rfl rfl ?_
  refine q_aload_n (pc2 := 3) C 1 dJ7_fill_53178_2 rfl rfl rfl ?_
  refine q_alen (n := 0) (q0 := 0) (t0 := 0) (v := nI n) (pc2 := 4) C rfl rfl rfl dJ7_fill_53178_3 rfl ?_
  refine q_istore_n (lv' := [(3, .int (nI n)), (2, .int 0), (0, .ref qa), (1, .int v)]) (pc2 := 5) C dJ7_fill_53178_4 rfl (by decide) rfl rfl ?_
  refine q_lv (lv' := [(2, .int 0), (3, .int (nI n)), (0, .ref qa), (1, .int v)]) [1, 0, 2, 3] rfl ?_
  refine q_eqw (ws' := [(qa, .inl (ct 0, n, .inl (fun k => if k < 0 then v else f0 k)))]) (by rw [fillc_0]) ?_
  refine lp_up (P := fun i => Cf p l e ({ frames := 0, cells := 0, slots := 0, locals := 0 }) s m args below meth c D A 4 0 0 Q 5 [(2, .int (nI i)), (3, .int (nI n)), (0, .ref qa), (1, .int v)] [] [(qa, .inl (ct 0, n, .inl (fun k => if k < i then v else f0 k)))]) (n) (fun i hi ihi => ?_) ?_
  · skip
    refine q_iload_n (pc2 := 6) C 0 dJ7_fill_53178_5 rfl rfl rfl ?_
    refine q_iload_n (pc2 := 7) C 1 dJ7_fill_53178_6 rfl rfl rfl ?_
    refine q_icmp_ge (tgt := 20) (pc2 := 10) C dJ7_fill_53178_7 (by decide) rfl (fun c7 => (q_absurd (a := n) (b := i) c7 hi hn31)) (fun _ => ?_)
    refine q_aload_n (pc2 := 11) C 2 dJ7_fill_53178_10 rfl rfl rfl ?_
    refine q_iload_n (pc2 := 12) C 0 dJ7_fill_53178_11 rfl rfl rfl ?_
    refine q_iload_n (pc2 := 13) C 3 dJ7_fill_53178_12 rfl rfl rfl ?_
    refine q_iast (q0 := 0) (f := (fun k => if k < i then v else f0 k)) (ws' := [(qa, .inl (ct 0, n, .inl (upd (fun k => if k < i then v else f0 k) i v)))]) (pc2 := 14) C i rfl rfl (rfl) (hi) hn31 rfl dJ7_fill_53178_13 rfl ?_
    refine q_iinc (v := nI (i + 1)) (lv' := [(2, .int (nI (i + 1))), (3, .int (nI n)), (0, .ref qa), (1, .int v)]) (pc2 := 17) C 0 dJ7_fill_53178_14 rfl (nI_1 i) (by decide) rfl rfl ?_
    refine q_goto (pc2 := 5) C dJ7_fill_53178_17 (by decide) ?_
    refine q_lv (lv' := [(2, .int (nI (i + 1))), (3, .int (nI n)), (0, .ref qa), (1, .int v)]) [0, 1, 2, 3] rfl ?_
    refine q_eqw (ws' := [(qa, .inl (ct 0, n, .inl (fun k => if k < (i + 1) then v else f0 k)))]) (by rw [fillc_lt v f0 i]) ?_
    exact ihi
  · skip
    refine q_iload_n (pc2 := 6) C 0 dJ7_fill_53178_5 rfl rfl rfl ?_
    refine q_iload_n (pc2 := 7) C 1 dJ7_fill_53178_6 rfl rfl rfl ?_
    refine q_icmp_ge (tgt := 20) (pc2 := 10) C dJ7_fill_53178_7 (by decide) rfl (fun _ => ?_) (fun c7 => (absurd (nI_le (Nat.le_refl (n)) hn31) c7))
    exact q_vret C hQ rfl (Nat.zero_le _) (Nat.zero_le _) dJ7_fill_53178_20 ⟨rfl, rfl⟩

set_option maxHeartbeats 4000000 in
set_option maxRecDepth 100000 in
theorem c_X2_reset (l : Launch) (D : va_G) (ct : Nat → ClassId) (a : Nat → Nat) (x : Nat → Nat → Int32) : qM l yX2_reset wsX2_reset ({ frames := 1, cells := 0, slots := 0, locals := 23 }) D ct [.ref (a 33)] (wS ct a x) (qD (some (.int (x 22 0 + 1))) (wS ct a (set2 (set2 x 22 (fun _ => -1)) 24 (fun k => if k < 10 then -1 else x 24 k)))) 0 0 := by
  refine q_start (ret := some .int) (lv := [(0, .ref (a 33))]) (by decide +kernel) rfl (Nat.le_of_ble_eq_true rfl) rfl ?_
  intro p e s m args below meth c A Q C hQ hnm
  have hT2 : ∀ w ∈ u_ws RX2 TX2 11, w ∈ wsX2_reset := by decide +kernel
  have f37 : (Cond.fieldLink RX2 37 "PlotPatch$Show" "last" "I").before args s = true := C.w _ (by decide +kernel)
  have f43 : (Cond.fieldLink RX2 43 "PlotPatch$Show" "ruling" "[I").before args s = true := C.w _ (by decide +kernel)
  refine q_aload_n (pc2 := 1) C 0 dX2_reset_0 rfl rfl rfl ?_
  refine q_get (q0 := 0) (k := 6) (v := .int (x 22 0)) (pc2 := 4) C hT2 f37 (wS_g0 ct a x) rfl (by decide) rfl rfl dX2_reset_1 rfl ?_
  refine q_iconst (v := 1) (pc2 := 5) C dX2_reset_4 (by decide) rfl ?_
  refine q_iadd (pc2 := 6) C dX2_reset_5 rfl rfl ?_
  refine q_istore_n (lv' := [(1, .int ((x 22 0) + 1)), (0, .ref (a 33))]) (pc2 := 7) C dX2_reset_6 rfl (by decide) rfl rfl ?_
  refine q_aload_n (pc2 := 8) C 1 dX2_reset_7 rfl rfl rfl ?_
  refine q_iconst (v := (-1)) (pc2 := 9) C dX2_reset_8 (by decide) rfl ?_
  refine q_put (q0 := 0) (k := 6) (ty := .int) (ws' := (wS ct a (set2 x 22 (fun _ => (-1))))) (pc2 := 12) C hT2 tyX2_ok nmX2 f37 (wS_g0 ct a x) rfl (by decide) rfl rfl (by decide +kernel) rfl rfl (Nat.le_of_ble_eq_true rfl) (wS_s0_6 ct a x (-1)) dX2_reset_9 rfl ?_
  refine q_aload_n (pc2 := 13) C 1 dX2_reset_12 rfl rfl rfl ?_
  refine q_get (q0 := 0) (k := 8) (v := .ref (a 24)) (pc2 := 16) C hT2 f43 (wS_g0 ct a (set2 x 22 (fun _ => (-1)))) rfl (by decide) rfl rfl dX2_reset_13 rfl ?_
  refine q_iconst (v := (-1)) (pc2 := 17) C dX2_reset_16 (by decide) rfl ?_
  refine q_cS (pc2 := 20) (As := [.ref (a 24), .int (-1)]) (st := []) (st2 := []) (w2 := (wS ct a (set2 (set2 x 22 (fun _ => (-1))) 24 (fun k => if k < 10 then -1 else x 24 k)))) (c2 := 0) (s2 := 0) C (c_J7_fill_53178 l D ct (a 24) 10 (x 24) (-1) (by decide)) (va_cwS 2 C.w gX2_reset_J7_fill_53178 rfl rfl rfl (by decide +kernel) ⟨Nat.le_of_ble_eq_true rfl, Nat.le_of_ble_eq_true rfl⟩) [6] [0, 1, 2, 3, 4, 5, 7, 8] [0, 1, 2, 3, 4, 5, 8, 6, 7] rfl rfl (by decide) (by decide) (by decide) rfl (by decide) dX2_reset_17 rfl rfl (Nat.le_of_ble_eq_true rfl) ⟨Nat.zero_le _, Nat.zero_le _⟩ rfl rfl rfl rfl ?_
  refine q_iload_n (pc2 := 21) C 0 dX2_reset_20 rfl rfl rfl ?_
  exact q_zret C hQ rfl (rfl) (Nat.zero_le _) (Nat.zero_le _) dX2_reset_21 ⟨rfl, rfl⟩
