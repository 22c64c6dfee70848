/-! the law's helpers -/
set_option maxHeartbeats 4000000 in
set_option maxRecDepth 100000 in
theorem c_L_bar (l : Launch) (D : va_G) (ct : Nat → ClassId) (a : Nat → Nat) (o : Nat) (g : Nat → Int64) (x x' : Nat → Nat → Int32) (v1 v2 v3 : Int32) (oc : Option String) (hoc : ∀ E, oc = some E → E ∈ ([eI, eA, eS] : List String)) (r : Int32) (hM : qMX l yX3_bar wsX3_bar ({ frames := 7, cells := ocC oc, slots := ocS oc, locals := 112 }) D ct [.ref (a 30), .int v1, .int v2, .int v3] (wX ct a x) (qDo oc (some (.int r)) (wX ct a x')) (qDx oc (wX ct a x)) (ocC oc) (ocS oc)) : qMX l yL_bar wsL_bar ({ frames := 8, cells := ocC oc, slots := ocS oc, locals := 135 }) D ct [.ref (a 30), .int v1, .int v2, .int v3, .ref o] (wXo ct a o g x) (qD (some (.int (hcod [eI, eA, eS] oc))) (wXh ct a o g x x' r.toInt64 oc)) (fun _ _ => False) (ocC oc) (ocS oc) := by
  refine q_startH (ret := some .int) (lv := [(0, .ref (a 30)), (1, .int v1), (2, .int v2), (3, .int v3), (4, .ref o)]) (by decide +kernel) rfl (Nat.le_of_ble_eq_true rfl) rfl ?_
  intro p e s m args below meth c A Q C hQ htab
  refine q_aload (pc2 := 2) C 4 dL_bar_0 rfl rfl ?_
  refine q_iconst (v := 0) (pc2 := 3) C dL_bar_2 (by decide) rfl ?_
  refine q_aload_n (pc2 := 4) C 0 dL_bar_3 rfl rfl rfl ?_
  refine q_iload_n (pc2 := 5) C 1 dL_bar_4 rfl rfl rfl ?_
  refine q_iload_n (pc2 := 6) C 2 dL_bar_5 rfl rfl rfl ?_
  refine q_iload_n (pc2 := 7) C 3 dL_bar_6 rfl rfl rfl ?_
  refine q_tV (pc2 := 10) (As := [.int v1, .int v2, .int v3]) (b := a 30) (st := [.int 0, .ref o]) (st2 := [.int r, .int 0, .ref o]) (q0 := 0) (w2 := wXo ct a o g x') C hM (cwV 3 C.w gL_bar_X3_bar rfl rfl rfl (by decide +kernel) ⟨Nat.le_of_ble_eq_true rfl, Nat.le_of_ble_eq_true rfl⟩) (wX_g0 ct a x) rfl [0, 1, 2, 3, 4, 5, 6, 7, 8, 9, 10, 11, 12, 13, 14, 15, 16, 17, 18, 19, 20, 21, 22, 23, 24, 25] [26] [1, 2, 3, 4, 5, 6, 7, 8, 9, 10, 11, 12, 13, 14, 15, 16, 17, 18, 19, 20, 21, 22, 23, 24, 25, 26, 0] (wXo_C ct a o g x) (wXo_R ct a o g x) (by decide) (by decide) (by decide) (wXo_2 ct a o g x x') (by decide) (wXo_2 ct a o g x x) dL_bar_7 rfl rfl (Nat.le_of_ble_eq_true rfl) ⟨Nat.le_of_eq (Nat.zero_add _), Nat.le_of_eq (Nat.zero_add _)⟩ rfl rfl (fun E hE => ?_) (fun hE => ?_)
  · have hm := hoc E hE
    rcases List.mem_cons.mp hm with hm1 | hm
    · subst hm1
      refine q_catch (pc2 := 15) (E := eI) C htab 0 (q := (0, 12, 15, 13)) rfl (fun z hz => nomatch hz) (by decide) (by decide) (by decide +kernel) (by decide +kernel) rfl (fun q9 => ?_)
      refine q_astore (lv' := [(5, .ref q9), (0, .ref (a 30)), (1, .int v1), (2, .int v2), (3, .int v3), (4, .ref o)]) (pc2 := 17) C dL_bar_15 (by decide) rfl rfl ?_
      refine q_iconst (v := 1) (pc2 := 18) C dL_bar_17 (by decide) rfl ?_
      exact q_zretX C hQ rfl rfl (ocC_of hE) (ocS_of hE) dL_bar_18 ⟨by rw [hE]; decide +kernel, by rw [hE]; rfl⟩
    rcases List.mem_cons.mp hm with hm1 | hm
    · subst hm1
      refine q_catch (pc2 := 19) (E := eA) C htab 1 (q := (0, 12, 19, 15)) rfl (fun z hz => by obtain rfl := List.mem_singleton.mp hz; exact ⟨by decide, _, (by decide +kernel : Cond.classLink yL_bar.cls 13 eI ∈ wsL_bar), by decide +kernel⟩) (by decide) (by decide) (by decide +kernel) (by decide +kernel) rfl (fun q9 => ?_)
      refine q_astore (lv' := [(5, .ref q9), (0, .ref (a 30)), (1, .int v1), (2, .int v2), (3, .int v3), (4, .ref o)]) (pc2 := 21) C dL_bar_19 (by decide) rfl rfl ?_
      refine q_iconst (v := 2) (pc2 := 22) C dL_bar_21 (by decide) rfl ?_
      exact q_zretX C hQ rfl rfl (ocC_of hE) (ocS_of hE) dL_bar_22 ⟨by rw [hE]; decide +kernel, by rw [hE]; rfl⟩
    obtain hm1 := List.mem_singleton.mp hm
    subst hm1
    refine q_catch (pc2 := 23) (E := eS) C htab 2 (q := (0, 12, 23, 17)) rfl (fun z hz => by rcases List.mem_cons.mp hz with rfl | hz2; exact ⟨by decide, _, (by decide +kernel : Cond.classLink yL_bar.cls 13 eI ∈ wsL_bar), by decide +kernel⟩; obtain rfl := List.mem_singleton.mp hz2; exact ⟨by decide, _, (by decide +kernel : Cond.classLink yL_bar.cls 15 eA ∈ wsL_bar), by decide +kernel⟩) (by decide) (by decide) (by decide +kernel) (by decide +kernel) rfl (fun q9 => ?_)
    refine q_astore (lv' := [(5, .ref q9), (0, .ref (a 30)), (1, .int v1), (2, .int v2), (3, .int v3), (4, .ref o)]) (pc2 := 25) C dL_bar_23 (by decide) rfl rfl ?_
    refine q_iconst (v := 3) (pc2 := 26) C dL_bar_25 (by decide) rfl ?_
    exact q_zretX C hQ rfl rfl (ocC_of hE) (ocS_of hE) dL_bar_26 ⟨by rw [hE]; decide +kernel, by rw [hE]; rfl⟩
  · skip
    refine q_i2l (pc2 := 11) C dL_bar_10 rfl rfl ?_
    refine q_last (ws' := wXo ct a o (vp_updL g 0 r.toInt64) x') (pc2 := 12) C 0 (wXo_g26 ct a o g x') rfl rfl (by decide) (by decide) (wXo_a26 ct a o g _ x') dL_bar_11 rfl ?_
    refine q_goto (pc2 := 27) C dL_bar_12 (by decide) ?_
    refine q_iconst (v := 0) (pc2 := 28) C dL_bar_27 (by decide) rfl ?_
    exact q_zretX C hQ rfl rfl (Nat.zero_le _) (Nat.zero_le _) dL_bar_28 ⟨by rw [hE]; rfl, by rw [hE]; rfl⟩

set_option maxHeartbeats 4000000 in
set_option maxRecDepth 100000 in
theorem c_L_lamp (l : Launch) (D : va_G) (ct : Nat → ClassId) (a : Nat → Nat) (o : Nat) (g : Nat → Int64) (x x' : Nat → Nat → Int32) (v1 v2 : Int32) (oc : Option String) (hoc : ∀ E, oc = some E → E ∈ ([eA, eS] : List String)) (r : Int32) (hM : qMX l yX3_lamp wsX3_lamp ({ frames := 7, cells := ocC oc, slots := ocS oc, locals := 112 }) D ct [.ref (a 30), .int v1, .int v2] (wX ct a x) (qDo oc (some (.int r)) (wX ct a x')) (qDx oc (wX ct a x)) (ocC oc) (ocS oc)) : qMX l yL_lamp wsL_lamp ({ frames := 8, cells := ocC oc, slots := ocS oc, locals := 135 }) D ct [.ref (a 30), .int v1, .int v2, .ref o] (wXo ct a o g x) (qD (some (.int (hcod [eA, eS] oc))) (wXh ct a o g x x' r.toInt64 oc)) (fun _ _ => False) (ocC oc) (ocS oc) := by
  refine q_startH (ret := some .int) (lv := [(0, .ref (a 30)), (1, .int v1), (2, .int v2), (3, .ref o)]) (by decide +kernel) rfl (Nat.le_of_ble_eq_true rfl) rfl ?_
  intro p e s m args below meth c A Q C hQ htab
  refine q_aload_n (pc2 := 1) C 3 dL_lamp_0 rfl rfl rfl ?_
  refine q_iconst (v := 0) (pc2 := 2) C dL_lamp_1 (by decide) rfl ?_
  refine q_aload_n (pc2 := 3) C 0 dL_lamp_2 rfl rfl rfl ?_
  refine q_iload_n (pc2 := 4) C 1 dL_lamp_3 rfl rfl rfl ?_
  refine q_iload_n (pc2 := 5) C 2 dL_lamp_4 rfl rfl rfl ?_
  refine q_tV (pc2 := 8) (As := [.int v1, .int v2]) (b := a 30) (st := [.int 0, .ref o]) (st2 := [.int r, .int 0, .ref o]) (q0 := 0) (w2 := wXo ct a o g x') C hM (cwV 2 C.w gL_lamp_X3_lamp rfl rfl rfl (by decide +kernel) ⟨Nat.le_of_ble_eq_true rfl, Nat.le_of_ble_eq_true rfl⟩) (wX_g0 ct a x) rfl [0, 1, 2, 3, 4, 5, 6, 7, 8, 9, 10, 11, 12, 13, 14, 15, 16, 17, 18, 19, 20, 21, 22, 23, 24, 25] [26] [1, 2, 3, 4, 5, 6, 7, 8, 9, 10, 11, 12, 13, 14, 15, 16, 17, 18, 19, 20, 21, 22, 23, 24, 25, 26, 0] (wXo_C ct a o g x) (wXo_R ct a o g x) (by decide) (by decide) (by decide) (wXo_2 ct a o g x x') (by decide) (wXo_2 ct a o g x x) dL_lamp_5 rfl rfl (Nat.le_of_ble_eq_true rfl) ⟨Nat.le_of_eq (Nat.zero_add _), Nat.le_of_eq (Nat.zero_add _)⟩ rfl rfl (fun E hE => ?_) (fun hE => ?_)
  · have hm := hoc E hE
    rcases List.mem_cons.mp hm with hm1 | hm
    · subst hm1
      refine q_catch (pc2 := 13) (E := eA) C htab 0 (q := (0, 10, 13, 15)) rfl (fun z hz => nomatch hz) (by decide) (by decide) (by decide +kernel) (by decide +kernel) rfl (fun q9 => ?_)
      refine q_astore (lv' := [(4, .ref q9), (0, .ref (a 30)), (1, .int v1), (2, .int v2), (3, .ref o)]) (pc2 := 15) C dL_lamp_13 (by decide) rfl rfl ?_
      refine q_iconst (v := 1) (pc2 := 16) C dL_lamp_15 (by decide) rfl ?_
      exact q_zretX C hQ rfl rfl (ocC_of hE) (ocS_of hE) dL_lamp_16 ⟨by rw [hE]; decide +kernel, by rw [hE]; rfl⟩
    obtain hm1 := List.mem_singleton.mp hm
    subst hm1
    refine q_catch (pc2 := 17) (E := eS) C htab 1 (q := (0, 10, 17, 17)) rfl (fun z hz => by obtain rfl := List.mem_singleton.mp hz; exact ⟨by decide, _, (by decide +kernel : Cond.classLink yL_lamp.cls 15 eA ∈ wsL_lamp), by decide +kernel⟩) (by decide) (by decide) (by decide +kernel) (by decide +kernel) rfl (fun q9 => ?_)
    refine q_astore (lv' := [(4, .ref q9), (0, .ref (a 30)), (1, .int v1), (2, .int v2), (3, .ref o)]) (pc2 := 19) C dL_lamp_17 (by decide) rfl rfl ?_
    refine q_iconst (v := 2) (pc2 := 20) C dL_lamp_19 (by decide) rfl ?_
    exact q_zretX C hQ rfl rfl (ocC_of hE) (ocS_of hE) dL_lamp_20 ⟨by rw [hE]; decide +kernel, by rw [hE]; rfl⟩
  · skip
    refine q_i2l (pc2 := 9) C dL_lamp_8 rfl rfl ?_
    refine q_last (ws' := wXo ct a o (vp_updL g 0 r.toInt64) x') (pc2 := 10) C 0 (wXo_g26 ct a o g x') rfl rfl (by decide) (by decide) (wXo_a26 ct a o g _ x') dL_lamp_9 rfl ?_
    refine q_goto (pc2 := 21) C dL_lamp_10 (by decide) ?_
    refine q_iconst (v := 0) (pc2 := 22) C dL_lamp_21 (by decide) rfl ?_
    exact q_zretX C hQ rfl rfl (Nat.zero_le _) (Nat.zero_le _) dL_lamp_22 ⟨by rw [hE]; rfl, by rw [hE]; rfl⟩

set_option maxHeartbeats 4000000 in
set_option maxRecDepth 100000 in
theorem c_L_hang (l : Launch) (D : va_G) (ct : Nat → ClassId) (a : Nat → Nat) (o : Nat) (g : Nat → Int64) (x x' : Nat → Nat → Int32) (v1 v2 v3 : Int32) (oc : Option String) (hoc : ∀ E, oc = some E → E ∈ ([eI, eS] : List String)) (r : Int32) (hM : qMX l yX3_hang wsX3_hang ({ frames := 7, cells := ocC oc, slots := ocS oc, locals := 111 }) D ct [.ref (a 30), .int v1, .int v2, .int v3] (wX ct a x) (qDo oc (some (.int r)) (wX ct a x')) (qDx oc (wX ct a x)) (ocC oc) (ocS oc)) : qMX l yL_hang wsL_hang ({ frames := 8, cells := ocC oc, slots := ocS oc, locals := 134 }) D ct [.ref (a 30), .int v1, .int v2, .int v3, .ref o] (wXo ct a o g x) (qD (some (.int (hcod [eI, eS] oc))) (wXh ct a o g x x' r.toInt64 oc)) (fun _ _ => False) (ocC oc) (ocS oc) := by
  refine q_startH (ret := some .int) (lv := [(0, .ref (a 30)), (1, .int v1), (2, .int v2), (3, .int v3), (4, .ref o)]) (by decide +kernel) rfl (Nat.le_of_ble_eq_true rfl) rfl ?_
  intro p e s m args below meth c A Q C hQ htab
  refine q_aload (pc2 := 2) C 4 dL_hang_0 rfl rfl ?_
  refine q_iconst (v := 0) (pc2 := 3) C dL_hang_2 (by decide) rfl ?_
  refine q_aload_n (pc2 := 4) C 0 dL_hang_3 rfl rfl rfl ?_
  refine q_iload_n (pc2 := 5) C 1 dL_hang_4 rfl rfl rfl ?_
  refine q_iload_n (pc2 := 6) C 2 dL_hang_5 rfl rfl rfl ?_
  refine q_iload_n (pc2 := 7) C 3 dL_hang_6 rfl rfl rfl ?_
  refine q_tV (pc2 := 10) (As := [.int v1, .int v2, .int v3]) (b := a 30) (st := [.int 0, .ref o]) (st2 := [.int r, .int 0, .ref o]) (q0 := 0) (w2 := wXo ct a o g x') C hM (cwV 3 C.w gL_hang_X3_hang rfl rfl rfl (by decide +kernel) ⟨Nat.le_of_ble_eq_true rfl, Nat.le_of_ble_eq_true rfl⟩) (wX_g0 ct a x) rfl [0, 1, 2, 3, 4, 5, 6, 7, 8, 9, 10, 11, 12, 13, 14, 15, 16, 17, 18, 19, 20, 21, 22, 23, 24, 25] [26] [1, 2, 3, 4, 5, 6, 7, 8, 9, 10, 11, 12, 13, 14, 15, 16, 17, 18, 19, 20, 21, 22, 23, 24, 25, 26, 0] (wXo_C ct a o g x) (wXo_R ct a o g x) (by decide) (by decide) (by decide) (wXo_2 ct a o g x x') (by decide) (wXo_2 ct a o g x x) dL_hang_7 rfl rfl (Nat.le_of_ble_eq_true rfl) ⟨Nat.le_of_eq (Nat.zero_add _), Nat.le_of_eq (Nat.zero_add _)⟩ rfl rfl (fun E hE => ?_) (fun hE => ?_)
  · have hm := hoc E hE
    rcases List.mem_cons.mp hm with hm1 | hm
    · subst hm1
      refine q_catch (pc2 := 15) (E := eI) C htab 0 (q := (0, 12, 15, 13)) rfl (fun z hz => nomatch hz) (by decide) (by decide) (by decide +kernel) (by decide +kernel) rfl (fun q9 => ?_)
      refine q_astore (lv' := [(5, .ref q9), (0, .ref (a 30)), (1, .int v1), (2, .int v2), (3, .int v3), (4, .ref o)]) (pc2 := 17) C dL_hang_15 (by decide) rfl rfl ?_
      refine q_iconst (v := 1) (pc2 := 18) C dL_hang_17 (by decide) rfl ?_
      exact q_zretX C hQ rfl rfl (ocC_of hE) (ocS_of hE) dL_hang_18 ⟨by rw [hE]; decide +kernel, by rw [hE]; rfl⟩
    obtain hm1 := List.mem_singleton.mp hm
    subst hm1
    refine q_catch (pc2 := 19) (E := eS) C htab 1 (q := (0, 12, 19, 17)) rfl (fun z hz => by obtain rfl := List.mem_singleton.mp hz; exact ⟨by decide, _, (by decide +kernel : Cond.classLink yL_hang.cls 13 eI ∈ wsL_hang), by decide +kernel⟩) (by decide) (by decide) (by decide +kernel) (by decide +kernel) rfl (fun q9 => ?_)
    refine q_astore (lv' := [(5, .ref q9), (0, .ref (a 30)), (1, .int v1), (2, .int v2), (3, .int v3), (4, .ref o)]) (pc2 := 21) C dL_hang_19 (by decide) rfl rfl ?_
    refine q_iconst (v := 2) (pc2 := 22) C dL_hang_21 (by decide) rfl ?_
    exact q_zretX C hQ rfl rfl (ocC_of hE) (ocS_of hE) dL_hang_22 ⟨by rw [hE]; decide +kernel, by rw [hE]; rfl⟩
  · skip
    refine q_i2l (pc2 := 11) C dL_hang_10 rfl rfl ?_
    refine q_last (ws' := wXo ct a o (vp_updL g 0 r.toInt64) x') (pc2 := 12) C 0 (wXo_g26 ct a o g x') rfl rfl (by decide) (by decide) (wXo_a26 ct a o g _ x') dL_hang_11 rfl ?_
    refine q_goto (pc2 := 23) C dL_hang_12 (by decide) ?_
    refine q_iconst (v := 0) (pc2 := 24) C dL_hang_23 (by decide) rfl ?_
    exact q_zretX C hQ rfl rfl (Nat.zero_le _) (Nat.zero_le _) dL_hang_24 ⟨by rw [hE]; rfl, by rw [hE]; rfl⟩

set_option maxHeartbeats 4000000 in
set_option maxRecDepth 100000 in
theorem c_L_down (l : Launch) (D : va_G) (ct : Nat → ClassId) (a : Nat → Nat) (o : Nat) (g : Nat → Int64) (x x' : Nat → Nat → Int32) (v1 : Int32) (oc : Option String) (hoc : ∀ E, oc = some E → E ∈ ([eI] : List String)) (r : Int32) (hM : qMX l yX3_down wsX3_down ({ frames := 7, cells := ocC oc, slots := ocS oc, locals := 111 }) D ct [.ref (a 30), .int v1] (wX ct a x) (qDo oc (some (.int r)) (wX ct a x')) (qDx oc (wX ct a x)) (ocC oc) (ocS oc)) : qMX l yL_down wsL_down ({ frames := 8, cells := ocC oc, slots := ocS oc, locals := 133 }) D ct [.ref (a 30), .int v1, .ref o] (wXo ct a o g x) (qD (some (.int (hcod [eI] oc))) (wXh ct a o g x x' (if r = 0 then (0 : Int64) else 1) oc)) (fun _ _ => False) (ocC oc) (ocS oc) := by
  refine q_startH (ret := some .int) (lv := [(0, .ref (a 30)), (1, .int v1), (2, .ref o)]) (by decide +kernel) rfl (Nat.le_of_ble_eq_true rfl) rfl ?_
  intro p e s m args below meth c A Q C hQ htab
  refine q_aload_n (pc2 := 1) C 2 dL_down_0 rfl rfl rfl ?_
  refine q_iconst (v := 0) (pc2 := 2) C dL_down_1 (by decide) rfl ?_
  refine q_aload_n (pc2 := 3) C 0 dL_down_2 rfl rfl rfl ?_
  refine q_iload_n (pc2 := 4) C 1 dL_down_3 rfl rfl rfl ?_
  refine q_tV (pc2 := 7) (As := [.int v1]) (b := a 30) (st := [.int 0, .ref o]) (st2 := [.int r, .int 0, .ref o]) (q0 := 0) (w2 := wXo ct a o g x') C hM (cwV 1 C.w gL_down_X3_down rfl rfl rfl (by decide +kernel) ⟨Nat.le_of_ble_eq_true rfl, Nat.le_of_ble_eq_true rfl⟩) (wX_g0 ct a x) rfl [0, 1, 2, 3, 4, 5, 6, 7, 8, 9, 10, 11, 12, 13, 14, 15, 16, 17, 18, 19, 20, 21, 22, 23, 24, 25] [26] [1, 2, 3, 4, 5, 6, 7, 8, 9, 10, 11, 12, 13, 14, 15, 16, 17, 18, 19, 20, 21, 22, 23, 24, 25, 26, 0] (wXo_C ct a o g x) (wXo_R ct a o g x) (by decide) (by decide) (by decide) (wXo_2 ct a o g x x') (by decide) (wXo_2 ct a o g x x) dL_down_4 rfl rfl (Nat.le_of_ble_eq_true rfl) ⟨Nat.le_of_eq (Nat.zero_add _), Nat.le_of_eq (Nat.zero_add _)⟩ rfl rfl (fun E hE => ?_) (fun hE => ?_)
  · have hm := hoc E hE
    obtain hm1 := List.mem_singleton.mp hm
    subst hm1
    refine q_catch (pc2 := 19) (E := eI) C htab 0 (q := (0, 16, 19, 13)) rfl (fun z hz => nomatch hz) (by decide) (by decide) (by decide +kernel) (by decide +kernel) rfl (fun q9 => ?_)
    refine q_astore_n (lv' := [(3, .ref q9), (0, .ref (a 30)), (1, .int v1), (2, .ref o)]) (pc2 := 20) C dL_down_19 rfl (by decide) rfl rfl ?_
    refine q_iconst (v := 1) (pc2 := 21) C dL_down_20 (by decide) rfl ?_
    exact q_zretX C hQ rfl rfl (ocC_of hE) (ocS_of hE) dL_down_21 ⟨by rw [hE]; decide +kernel, by rw [hE]; rfl⟩
  · skip
    refine q_if_eq (tgt := 14) (pc2 := 10) C dL_down_7 (by decide) rfl (fun c7 => ?_) (fun c7 => ?_)
    · skip
      refine q_lconst (v := 0) (pc2 := 15) C dL_down_14 (by decide) rfl ?_
      refine q_last (ws' := wXo ct a o (vp_updL g 0 0) x') (pc2 := 16) C 0 (wXo_g26 ct a o g x') rfl rfl (by decide) (by decide) (wXo_a26 ct a o g _ x') dL_down_15 rfl ?_
      refine q_goto (pc2 := 22) C dL_down_16 (by decide) ?_
      refine q_iconst (v := 0) (pc2 := 23) C dL_down_22 (by decide) rfl ?_
      exact q_zretX C hQ rfl rfl (Nat.zero_le _) (Nat.zero_le _) dL_down_23 ⟨by rw [hE]; rfl, by rw [hE, if_pos c7]; rfl⟩
    · skip
      refine q_lconst (v := 1) (pc2 := 11) C dL_down_10 (by decide) rfl ?_
      refine q_goto (pc2 := 15) C dL_down_11 (by decide) ?_
      refine q_last (ws' := wXo ct a o (vp_updL g 0 1) x') (pc2 := 16) C 0 (wXo_g26 ct a o g x') rfl rfl (by decide) (by decide) (wXo_a26 ct a o g _ x') dL_down_15 rfl ?_
      refine q_goto (pc2 := 22) C dL_down_16 (by decide) ?_
      refine q_iconst (v := 0) (pc2 := 23) C dL_down_22 (by decide) rfl ?_
      exact q_zretX C hQ rfl rfl (Nat.zero_le _) (Nat.zero_le _) dL_down_23 ⟨by rw [hE]; rfl, by rw [hE, if_neg c7]; rfl⟩

set_option maxHeartbeats 4000000 in
set_option maxRecDepth 100000 in
theorem c_L_onBar (l : Launch) (D : va_G) (ct : Nat → ClassId) (a : Nat → Nat) (o : Nat) (g : Nat → Int64) (x x' : Nat → Nat → Int32) (v1 v2 : Int32) (oc : Option String) (hoc : ∀ E, oc = some E → E ∈ ([eI] : List String)) (r : Int32) (hM : qMX l yX3_onBar wsX3_onBar ({ frames := 7, cells := ocC oc, slots := ocS oc, locals := 111 }) D ct [.ref (a 30), .int v1, .int v2] (wX ct a x) (qDo oc (some (.int r)) (wX ct a x')) (qDx oc (wX ct a x)) (ocC oc) (ocS oc)) : qMX l yL_onBar wsL_onBar ({ frames := 8, cells := ocC oc, slots := ocS oc, locals := 134 }) D ct [.ref (a 30), .int v1, .int v2, .ref o] (wXo ct a o g x) (qD (some (.int (hcod [eI] oc))) (wXh ct a o g x x' r.toInt64 oc)) (fun _ _ => False) (ocC oc) (ocS oc) := by
  refine q_startH (ret := some .int) (lv := [(0, .ref (a 30)), (1, .int v1), (2, .int v2), (3, .ref o)]) (by decide +kernel) rfl (Nat.le_of_ble_eq_true rfl) rfl ?_
  intro p e s m args below meth c A Q C hQ htab
  refine q_aload_n (pc2 := 1) C 3 dL_onBar_0 rfl rfl rfl ?_
  refine q_iconst (v := 0) (pc2 := 2) C dL_onBar_1 (by decide) rfl ?_
  refine q_aload_n (pc2 := 3) C 0 dL_onBar_2 rfl rfl rfl ?_
  refine q_iload_n (pc2 := 4) C 1 dL_onBar_3 rfl rfl rfl ?_
  refine q_iload_n (pc2 := 5) C 2 dL_onBar_4 rfl rfl rfl ?_
  refine q_tV (pc2 := 8) (As := [.int v1, .int v2]) (b := a 30) (st := [.int 0, .ref o]) (st2 := [.int r, .int 0, .ref o]) (q0 := 0) (w2 := wXo ct a o g x') C hM (cwV 2 C.w gL_onBar_X3_onBar rfl rfl rfl (by decide +kernel) ⟨Nat.le_of_ble_eq_true rfl, Nat.le_of_ble_eq_true rfl⟩) (wX_g0 ct a x) rfl [0, 1, 2, 3, 4, 5, 6, 7, 8, 9, 10, 11, 12, 13, 14, 15, 16, 17, 18, 19, 20, 21, 22, 23, 24, 25] [26] [1, 2, 3, 4, 5, 6, 7, 8, 9, 10, 11, 12, 13, 14, 15, 16, 17, 18, 19, 20, 21, 22, 23, 24, 25, 26, 0] (wXo_C ct a o g x) (wXo_R ct a o g x) (by decide) (by decide) (by decide) (wXo_2 ct a o g x x') (by decide) (wXo_2 ct a o g x x) dL_onBar_5 rfl rfl (Nat.le_of_ble_eq_true rfl) ⟨Nat.le_of_eq (Nat.zero_add _), Nat.le_of_eq (Nat.zero_add _)⟩ rfl rfl (fun E hE => ?_) (fun hE => ?_)
  · have hm := hoc E hE
    obtain hm1 := List.mem_singleton.mp hm
    subst hm1
    refine q_catch (pc2 := 13) (E := eI) C htab 0 (q := (0, 10, 13, 13)) rfl (fun z hz => nomatch hz) (by decide) (by decide) (by decide +kernel) (by decide +kernel) rfl (fun q9 => ?_)
    refine q_astore (lv' := [(4, .ref q9), (0, .ref (a 30)), (1, .int v1), (2, .int v2), (3, .ref o)]) (pc2 := 15) C dL_onBar_13 (by decide) rfl rfl ?_
    refine q_iconst (v := 1) (pc2 := 16) C dL_onBar_15 (by decide) rfl ?_
    exact q_zretX C hQ rfl rfl (ocC_of hE) (ocS_of hE) dL_onBar_16 ⟨by rw [hE]; decide +kernel, by rw [hE]; rfl⟩
  · skip
    refine q_i2l (pc2 := 9) C dL_onBar_8 rfl rfl ?_
    refine q_last (ws' := wXo ct a o (vp_updL g 0 r.toInt64) x') (pc2 := 10) C 0 (wXo_g26 ct a o g x') rfl rfl (by decide) (by decide) (wXo_a26 ct a o g _ x') dL_onBar_9 rfl ?_
    refine q_goto (pc2 := 17) C dL_onBar_10 (by decide) ?_
    refine q_iconst (v := 0) (pc2 := 18) C dL_onBar_17 (by decide) rfl ?_
    exact q_zretX C hQ rfl rfl (Nat.zero_le _) (Nat.zero_le _) dL_onBar_18 ⟨by rw [hE]; rfl, by rw [hE]; rfl⟩

set_option maxHeartbeats 4000000 in
set_option maxRecDepth 100000 in
theorem c_L_where (l : Launch) (D : va_G) (ct : Nat → ClassId) (a : Nat → Nat) (o : Nat) (g : Nat → Int64) (x x' : Nat → Nat → Int32) (v1 : Int32) (oc : Option String) (hoc : ∀ E, oc = some E → E ∈ ([eI] : List String)) (r : Int32) (hM : qMX l yX3_where wsX3_where ({ frames := 7, cells := ocC oc, slots := ocS oc, locals := 111 }) D ct [.ref (a 30), .int v1] (wX ct a x) (qDo oc (some (.int r)) (wX ct a x')) (qDx oc (wX ct a x)) (ocC oc) (ocS oc)) : qMX l yL_where wsL_where ({ frames := 8, cells := ocC oc, slots := ocS oc, locals := 132 }) D ct [.ref (a 30), .int v1, .ref o] (wXo ct a o g x) (qD (some (.int (hcod [eI] oc))) (wXh ct a o g x x' r.toInt64 oc)) (fun _ _ => False) (ocC oc) (ocS oc) := by
  refine q_startH (ret := some .int) (lv := [(0, .ref (a 30)), (1, .int v1), (2, .ref o)]) (by decide +kernel) rfl (Nat.le_of_ble_eq_true rfl) rfl ?_
  intro p e s m args below meth c A Q C hQ htab
  refine q_aload_n (pc2 := 1) C 2 dL_where_0 rfl rfl rfl ?_
  refine q_iconst (v := 0) (pc2 := 2) C dL_where_1 (by decide) rfl ?_
  refine q_aload_n (pc2 := 3) C 0 dL_where_2 rfl rfl rfl ?_
  refine q_iload_n (pc2 := 4) C 1 dL_where_3 rfl rfl rfl ?_
  refine q_tV (pc2 := 7) (As := [.int v1]) (b := a 30) (st := [.int 0, .ref o]) (st2 := [.int r, .int 0, .ref o]) (q0 := 0) (w2 := wXo ct a o g x') C hM (cwV 1 C.w gL_where_X3_where rfl rfl rfl (by decide +kernel) ⟨Nat.le_of_ble_eq_true rfl, Nat.le_of_ble_eq_true rfl⟩) (wX_g0 ct a x) rfl [0, 1, 2, 3, 4, 5, 6, 7, 8, 9, 10, 11, 12, 13, 14, 15, 16, 17, 18, 19, 20, 21, 22, 23, 24, 25] [26] [1, 2, 3, 4, 5, 6, 7, 8, 9, 10, 11, 12, 13, 14, 15, 16, 17, 18, 19, 20, 21, 22, 23, 24, 25, 26, 0] (wXo_C ct a o g x) (wXo_R ct a o g x) (by decide) (by decide) (by decide) (wXo_2 ct a o g x x') (by decide) (wXo_2 ct a o g x x) dL_where_4 rfl rfl (Nat.le_of_ble_eq_true rfl) ⟨Nat.le_of_eq (Nat.zero_add _), Nat.le_of_eq (Nat.zero_add _)⟩ rfl rfl (fun E hE => ?_) (fun hE => ?_)
  · have hm := hoc E hE
    obtain hm1 := List.mem_singleton.mp hm
    subst hm1
    refine q_catch (pc2 := 12) (E := eI) C htab 0 (q := (0, 9, 12, 13)) rfl (fun z hz => nomatch hz) (by decide) (by decide) (by decide +kernel) (by decide +kernel) rfl (fun q9 => ?_)
    refine q_astore_n (lv' := [(3, .ref q9), (0, .ref (a 30)), (1, .int v1), (2, .ref o)]) (pc2 := 13) C dL_where_12 rfl (by decide) rfl rfl ?_
    refine q_iconst (v := 1) (pc2 := 14) C dL_where_13 (by decide) rfl ?_
    exact q_zretX C hQ rfl rfl (ocC_of hE) (ocS_of hE) dL_where_14 ⟨by rw [hE]; decide +kernel, by rw [hE]; rfl⟩
  · skip
    refine q_i2l (pc2 := 8) C dL_where_7 rfl rfl ?_
    refine q_last (ws' := wXo ct a o (vp_updL g 0 r.toInt64) x') (pc2 := 9) C 0 (wXo_g26 ct a o g x') rfl rfl (by decide) (by decide) (wXo_a26 ct a o g _ x') dL_where_8 rfl ?_
    refine q_goto (pc2 := 15) C dL_where_9 (by decide) ?_
    refine q_iconst (v := 0) (pc2 := 16) C dL_where_15 (by decide) rfl ?_
    exact q_zretX C hQ rfl rfl (Nat.zero_le _) (Nat.zero_le _) dL_where_16 ⟨by rw [hE]; rfl, by rw [hE]; rfl⟩

set_option maxHeartbeats 4000000 in
set_option maxRecDepth 100000 in
theorem c_L_patch (l : Launch) (D : va_G) (ct : Nat → ClassId) (a : Nat → Nat) (o : Nat) (g : Nat → Int64) (x x' : Nat → Nat → Int32) (v1 v2 : Int32) (oc : Option String) (hoc : ∀ E, oc = some E → E ∈ ([eI, eA] : List String)) (r : Int32) (hM : qMX l yX3_patch wsX3_patch ({ frames := 7, cells := ocC oc, slots := ocS oc, locals := 112 }) D ct [.ref (a 30), .int v1, .int v2] (wX ct a x) (qDo oc (some (.int r)) (wX ct a x')) (qDx oc (wX ct a x)) (ocC oc) (ocS oc)) : qMX l yL_patch wsL_patch ({ frames := 8, cells := ocC oc, slots := ocS oc, locals := 134 }) D ct [.ref (a 30), .int v1, .int v2, .ref o] (wXo ct a o g x) (qD (some (.int (hcod [eI, eA] oc))) (wXh ct a o g x x' r.toInt64 oc)) (fun _ _ => False) (ocC oc) (ocS oc) := by
  refine q_startH (ret := some .int) (lv := [(0, .ref (a 30)), (1, .int v1), (2, .int v2), (3, .ref o)]) (by decide +kernel) rfl (Nat.le_of_ble_eq_true rfl) rfl ?_
  intro p e s m args below meth c A Q C hQ htab
  refine q_aload_n (pc2 := 1) C 3 dL_patch_0 rfl rfl rfl ?_
  refine q_iconst (v := 0) (pc2 := 2) C dL_patch_1 (by decide) rfl ?_
  refine q_aload_n (pc2 := 3) C 0 dL_patch_2 rfl rfl rfl ?_
  refine q_iload_n (pc2 := 4) C 1 dL_patch_3 rfl rfl rfl ?_
  refine q_iload_n (pc2 := 5) C 2 dL_patch_4 rfl rfl rfl ?_
  refine q_tV (pc2 := 8) (As := [.int v1, .int v2]) (b := a 30) (st := [.int 0, .ref o]) (st2 := [.int r, .int 0, .ref o]) (q0 := 0) (w2 := wXo ct a o g x') C hM (cwV 2 C.w gL_patch_X3_patch rfl rfl rfl (by decide +kernel) ⟨Nat.le_of_ble_eq_true rfl, Nat.le_of_ble_eq_true rfl⟩) (wX_g0 ct a x) rfl [0, 1, 2, 3, 4, 5, 6, 7, 8, 9, 10, 11, 12, 13, 14, 15, 16, 17, 18, 19, 20, 21, 22, 23, 24, 25] [26] [1, 2, 3, 4, 5, 6, 7, 8, 9, 10, 11, 12, 13, 14, 15, 16, 17, 18, 19, 20, 21, 22, 23, 24, 25, 26, 0] (wXo_C ct a o g x) (wXo_R ct a o g x) (by decide) (by decide) (by decide) (wXo_2 ct a o g x x') (by decide) (wXo_2 ct a o g x x) dL_patch_5 rfl rfl (Nat.le_of_ble_eq_true rfl) ⟨Nat.le_of_eq (Nat.zero_add _), Nat.le_of_eq (Nat.zero_add _)⟩ rfl rfl (fun E hE => ?_) (fun hE => ?_)
  · have hm := hoc E hE
    rcases List.mem_cons.mp hm with hm1 | hm
    · subst hm1
      refine q_catch (pc2 := 13) (E := eI) C htab 0 (q := (0, 10, 13, 13)) rfl (fun z hz => nomatch hz) (by decide) (by decide) (by decide +kernel) (by decide +kernel) rfl (fun q9 => ?_)
      refine q_astore (lv' := [(4, .ref q9), (0, .ref (a 30)), (1, .int v1), (2, .int v2), (3, .ref o)]) (pc2 := 15) C dL_patch_13 (by decide) rfl rfl ?_
      refine q_iconst (v := 1) (pc2 := 16) C dL_patch_15 (by decide) rfl ?_
      exact q_zretX C hQ rfl rfl (ocC_of hE) (ocS_of hE) dL_patch_16 ⟨by rw [hE]; decide +kernel, by rw [hE]; rfl⟩
    obtain hm1 := List.mem_singleton.mp hm
    subst hm1
    refine q_catch (pc2 := 17) (E := eA) C htab 1 (q := (0, 10, 17, 15)) rfl (fun z hz => by obtain rfl := List.mem_singleton.mp hz; exact ⟨by decide, _, (by decide +kernel : Cond.classLink yL_patch.cls 13 eI ∈ wsL_patch), by decide +kernel⟩) (by decide) (by decide) (by decide +kernel) (by decide +kernel) rfl (fun q9 => ?_)
    refine q_astore (lv' := [(4, .ref q9), (0, .ref (a 30)), (1, .int v1), (2, .int v2), (3, .ref o)]) (pc2 := 19) C dL_patch_17 (by decide) rfl rfl ?_
    refine q_iconst (v := 2) (pc2 := 20) C dL_patch_19 (by decide) rfl ?_
    exact q_zretX C hQ rfl rfl (ocC_of hE) (ocS_of hE) dL_patch_20 ⟨by rw [hE]; decide +kernel, by rw [hE]; rfl⟩
  · skip
    refine q_i2l (pc2 := 9) C dL_patch_8 rfl rfl ?_
    refine q_last (ws' := wXo ct a o (vp_updL g 0 r.toInt64) x') (pc2 := 10) C 0 (wXo_g26 ct a o g x') rfl rfl (by decide) (by decide) (wXo_a26 ct a o g _ x') dL_patch_9 rfl ?_
    refine q_goto (pc2 := 21) C dL_patch_10 (by decide) ?_
    refine q_iconst (v := 0) (pc2 := 22) C dL_patch_21 (by decide) rfl ?_
    exact q_zretX C hQ rfl rfl (Nat.zero_le _) (Nat.zero_le _) dL_patch_22 ⟨by rw [hE]; rfl, by rw [hE]; rfl⟩

set_option maxHeartbeats 4000000 in
set_option maxRecDepth 100000 in
theorem c_L_gap (l : Launch) (D : va_G) (ct : Nat → ClassId) (a : Nat → Nat) (o : Nat) (g : Nat → Int64) (x x' : Nat → Nat → Int32) (v1 : Int32) (oc : Option String) (hoc : ∀ E, oc = some E → E ∈ ([eA] : List String)) (r : Int32) (hM : qMX l yX3_gap wsX3_gap ({ frames := 7, cells := ocC oc, slots := ocS oc, locals := 112 }) D ct [.ref (a 30), .int v1] (wX ct a x) (qDo oc (some (.int r)) (wX ct a x')) (qDx oc (wX ct a x)) (ocC oc) (ocS oc)) : qMX l yL_gap wsL_gap ({ frames := 8, cells := ocC oc, slots := ocS oc, locals := 133 }) D ct [.ref (a 30), .int v1, .ref o] (wXo ct a o g x) (qD (some (.int (hcod [eA] oc))) (wXh ct a o g x x' r.toInt64 oc)) (fun _ _ => False) (ocC oc) (ocS oc) := by
  refine q_startH (ret := some .int) (lv := [(0, .ref (a 30)), (1, .int v1), (2, .ref o)]) (by decide +kernel) rfl (Nat.le_of_ble_eq_true rfl) rfl ?_
  intro p e s m args below meth c A Q C hQ htab
  refine q_aload_n (pc2 := 1) C 2 dL_gap_0 rfl rfl rfl ?_
  refine q_iconst (v := 0) (pc2 := 2) C dL_gap_1 (by decide) rfl ?_
  refine q_aload_n (pc2 := 3) C 0 dL_gap_2 rfl rfl rfl ?_
  refine q_iload_n (pc2 := 4) C 1 dL_gap_3 rfl rfl rfl ?_
  refine q_tV (pc2 := 7) (As := [.int v1]) (b := a 30) (st := [.int 0, .ref o]) (st2 := [.int r, .int 0, .ref o]) (q0 := 0) (w2 := wXo ct a o g x') C hM (cwV 1 C.w gL_gap_X3_gap rfl rfl rfl (by decide +kernel) ⟨Nat.le_of_ble_eq_true rfl, Nat.le_of_ble_eq_true rfl⟩) (wX_g0 ct a x) rfl [0, 1, 2, 3, 4, 5, 6, 7, 8, 9, 10, 11, 12, 13, 14, 15, 16, 17, 18, 19, 20, 21, 22, 23, 24, 25] [26] [1, 2, 3, 4, 5, 6, 7, 8, 9, 10, 11, 12, 13, 14, 15, 16, 17, 18, 19, 20, 21, 22, 23, 24, 25, 26, 0] (wXo_C ct a o g x) (wXo_R ct a o g x) (by decide) (by decide) (by decide) (wXo_2 ct a o g x x') (by decide) (wXo_2 ct a o g x x) dL_gap_4 rfl rfl (Nat.le_of_ble_eq_true rfl) ⟨Nat.le_of_eq (Nat.zero_add _), Nat.le_of_eq (Nat.zero_add _)⟩ rfl rfl (fun E hE => ?_) (fun hE => ?_)
  · have hm := hoc E hE
    obtain hm1 := List.mem_singleton.mp hm
    subst hm1
    refine q_catch (pc2 := 12) (E := eA) C htab 0 (q := (0, 9, 12, 15)) rfl (fun z hz => nomatch hz) (by decide) (by decide) (by decide +kernel) (by decide +kernel) rfl (fun q9 => ?_)
    refine q_astore_n (lv' := [(3, .ref q9), (0, .ref (a 30)), (1, .int v1), (2, .ref o)]) (pc2 := 13) C dL_gap_12 rfl (by decide) rfl rfl ?_
    refine q_iconst (v := 1) (pc2 := 14) C dL_gap_13 (by decide) rfl ?_
    exact q_zretX C hQ rfl rfl (ocC_of hE) (ocS_of hE) dL_gap_14 ⟨by rw [hE]; decide +kernel, by rw [hE]; rfl⟩
  · skip
    refine q_i2l (pc2 := 8) C dL_gap_7 rfl rfl ?_
    refine q_last (ws' := wXo ct a o (vp_updL g 0 r.toInt64) x') (pc2 := 9) C 0 (wXo_g26 ct a o g x') rfl rfl (by decide) (by decide) (wXo_a26 ct a o g _ x') dL_gap_8 rfl ?_
    refine q_goto (pc2 := 15) C dL_gap_9 (by decide) ?_
    refine q_iconst (v := 0) (pc2 := 16) C dL_gap_15 (by decide) rfl ?_
    exact q_zretX C hQ rfl rfl (Nat.zero_le _) (Nat.zero_le _) dL_gap_16 ⟨by rw [hE]; rfl, by rw [hE]; rfl⟩

set_option maxHeartbeats 4000000 in
set_option maxRecDepth 100000 in
theorem c_L_plug (l : Launch) (D : va_G) (ct : Nat → ClassId) (a : Nat → Nat) (o : Nat) (g : Nat → Int64) (x x' : Nat → Nat → Int32) (v1 v2 : Int32) (oc : Option String) (hoc : ∀ E, oc = some E → E ∈ ([eI] : List String)) (r : Int32) (hM : qMX l yX3_plug wsX3_plug ({ frames := 7, cells := ocC oc, slots := ocS oc, locals := 111 }) D ct [.ref (a 30), .int v1, .int v2] (wX ct a x) (qDo oc (some (.int r)) (wX ct a x')) (qDx oc (wX ct a x)) (ocC oc) (ocS oc)) : qMX l yL_plug wsL_plug ({ frames := 8, cells := ocC oc, slots := ocS oc, locals := 134 }) D ct [.ref (a 30), .int v1, .int v2, .ref o] (wXo ct a o g x) (qD (some (.int (hcod [eI] oc))) (wXh ct a o g x x' r.toInt64 oc)) (fun _ _ => False) (ocC oc) (ocS oc) := by
  refine q_startH (ret := some .int) (lv := [(0, .ref (a 30)), (1, .int v1), (2, .int v2), (3, .ref o)]) (by decide +kernel) rfl (Nat.le_of_ble_eq_true rfl) rfl ?_
  intro p e s m args below meth c A Q C hQ htab
  refine q_aload_n (pc2 := 1) C 3 dL_plug_0 rfl rfl rfl ?_
  refine q_iconst (v := 0) (pc2 := 2) C dL_plug_1 (by decide) rfl ?_
  refine q_aload_n (pc2 := 3) C 0 dL_plug_2 rfl rfl rfl ?_
  refine q_iload_n (pc2 := 4) C 1 dL_plug_3 rfl rfl rfl ?_
  refine q_iload_n (pc2 := 5) C 2 dL_plug_4 rfl rfl rfl ?_
  refine q_tV (pc2 := 8) (As := [.int v1, .int v2]) (b := a 30) (st := [.int 0, .ref o]) (st2 := [.int r, .int 0, .ref o]) (q0 := 0) (w2 := wXo ct a o g x') C hM (cwV 2 C.w gL_plug_X3_plug rfl rfl rfl (by decide +kernel) ⟨Nat.le_of_ble_eq_true rfl, Nat.le_of_ble_eq_true rfl⟩) (wX_g0 ct a x) rfl [0, 1, 2, 3, 4, 5, 6, 7, 8, 9, 10, 11, 12, 13, 14, 15, 16, 17, 18, 19, 20, 21, 22, 23, 24, 25] [26] [1, 2, 3, 4, 5, 6, 7, 8, 9, 10, 11, 12, 13, 14, 15, 16, 17, 18, 19, 20, 21, 22, 23, 24, 25, 26, 0] (wXo_C ct a o g x) (wXo_R ct a o g x) (by decide) (by decide) (by decide) (wXo_2 ct a o g x x') (by decide) (wXo_2 ct a o g x x) dL_plug_5 rfl rfl (Nat.le_of_ble_eq_true rfl) ⟨Nat.le_of_eq (Nat.zero_add _), Nat.le_of_eq (Nat.zero_add _)⟩ rfl rfl (fun E hE => ?_) (fun hE => ?_)
  · have hm := hoc E hE
    obtain hm1 := List.mem_singleton.mp hm
    subst hm1
    refine q_catch (pc2 := 13) (E := eI) C htab 0 (q := (0, 10, 13, 13)) rfl (fun z hz => nomatch hz) (by decide) (by decide) (by decide +kernel) (by decide +kernel) rfl (fun q9 => ?_)
    refine q_astore (lv' := [(4, .ref q9), (0, .ref (a 30)), (1, .int v1), (2, .int v2), (3, .ref o)]) (pc2 := 15) C dL_plug_13 (by decide) rfl rfl ?_
    refine q_iconst (v := 1) (pc2 := 16) C dL_plug_15 (by decide) rfl ?_
    exact q_zretX C hQ rfl rfl (ocC_of hE) (ocS_of hE) dL_plug_16 ⟨by rw [hE]; decide +kernel, by rw [hE]; rfl⟩
  · skip
    refine q_i2l (pc2 := 9) C dL_plug_8 rfl rfl ?_
    refine q_last (ws' := wXo ct a o (vp_updL g 0 r.toInt64) x') (pc2 := 10) C 0 (wXo_g26 ct a o g x') rfl rfl (by decide) (by decide) (wXo_a26 ct a o g _ x') dL_plug_9 rfl ?_
    refine q_goto (pc2 := 17) C dL_plug_10 (by decide) ?_
    refine q_iconst (v := 0) (pc2 := 18) C dL_plug_17 (by decide) rfl ?_
    exact q_zretX C hQ rfl rfl (Nat.zero_le _) (Nat.zero_le _) dL_plug_18 ⟨by rw [hE]; rfl, by rw [hE]; rfl⟩

set_option maxHeartbeats 4000000 in
set_option maxRecDepth 100000 in
theorem c_L_load (l : Launch) (D : va_G) (ct : Nat → ClassId) (a : Nat → Nat) (o : Nat) (g : Nat → Int64) (x x' : Nat → Nat → Int32) (v1 : Int32) (oc : Option String) (hoc : ∀ E, oc = some E → E ∈ ([eI] : List String)) (r : Int32) (hM : qMX l yX3_load wsX3_load ({ frames := 7, cells := ocC oc, slots := ocS oc, locals := 110 }) D ct [.ref (a 30), .int v1] (wX ct a x) (qDo oc (some (.int r)) (wX ct a x')) (qDx oc (wX ct a x)) (ocC oc) (ocS oc)) : qMX l yL_load wsL_load ({ frames := 8, cells := ocC oc, slots := ocS oc, locals := 133 }) D ct [.ref (a 30), .int v1, .ref o] (wXo ct a o g x) (qD (some (.int (hcod [eI] oc))) (wXh ct a o g x x' r.toInt64 oc)) (fun _ _ => False) (ocC oc) (ocS oc) := by
  refine q_startH (ret := some .int) (lv := [(0, .ref (a 30)), (1, .int v1), (2, .ref o)]) (by decide +kernel) rfl (Nat.le_of_ble_eq_true rfl) rfl ?_
  intro p e s m args below meth c A Q C hQ htab
  refine q_aload_n (pc2 := 1) C 2 dL_load_0 rfl rfl rfl ?_
  refine q_iconst (v := 0) (pc2 := 2) C dL_load_1 (by decide) rfl ?_
  refine q_aload_n (pc2 := 3) C 0 dL_load_2 rfl rfl rfl ?_
  refine q_iload_n (pc2 := 4) C 1 dL_load_3 rfl rfl rfl ?_
  refine q_tV (pc2 := 7) (As := [.int v1]) (b := a 30) (st := [.int 0, .ref o]) (st2 := [.int r, .int 0, .ref o]) (q0 := 0) (w2 := wXo ct a o g x') C hM (cwV 1 C.w gL_load_X3_load rfl rfl rfl (by decide +kernel) ⟨Nat.le_of_ble_eq_true rfl, Nat.le_of_ble_eq_true rfl⟩) (wX_g0 ct a x) rfl [0, 1, 2, 3, 4, 5, 6, 7, 8, 9, 10, 11, 12, 13, 14, 15, 16, 17, 18, 19, 20, 21, 22, 23, 24, 25] [26] [1, 2, 3, 4, 5, 6, 7, 8, 9, 10, 11, 12, 13, 14, 15, 16, 17, 18, 19, 20, 21, 22, 23, 24, 25, 26, 0] (wXo_C ct a o g x) (wXo_R ct a o g x) (by decide) (by decide) (by decide) (wXo_2 ct a o g x x') (by decide) (wXo_2 ct a o g x x) dL_load_4 rfl rfl (Nat.le_of_ble_eq_true rfl) ⟨Nat.le_of_eq (Nat.zero_add _), Nat.le_of_eq (Nat.zero_add _)⟩ rfl rfl (fun E hE => ?_) (fun hE => ?_)
  · have hm := hoc E hE
    obtain hm1 := List.mem_singleton.mp hm
    subst hm1
    refine q_catch (pc2 := 12) (E := eI) C htab 0 (q := (0, 9, 12, 13)) rfl (fun z hz => nomatch hz) (by decide) (by decide) (by decide +kernel) (by decide +kernel) rfl (fun q9 => ?_)
    refine q_astore_n (lv' := [(3, .ref q9), (0, .ref (a 30)), (1, .int v1), (2, .ref o)]) (pc2 := 13) C dL_load_12 rfl (by decide) rfl rfl ?_
    refine q_iconst (v := 1) (pc2 := 14) C dL_load_13 (by decide) rfl ?_
    exact q_zretX C hQ rfl rfl (ocC_of hE) (ocS_of hE) dL_load_14 ⟨by rw [hE]; decide +kernel, by rw [hE]; rfl⟩
  · skip
    refine q_i2l (pc2 := 8) C dL_load_7 rfl rfl ?_
    refine q_last (ws' := wXo ct a o (vp_updL g 0 r.toInt64) x') (pc2 := 9) C 0 (wXo_g26 ct a o g x') rfl rfl (by decide) (by decide) (wXo_a26 ct a o g _ x') dL_load_8 rfl ?_
    refine q_goto (pc2 := 15) C dL_load_9 (by decide) ?_
    refine q_iconst (v := 0) (pc2 := 16) C dL_load_15 (by decide) rfl ?_
    exact q_zretX C hQ rfl rfl (Nat.zero_le _) (Nat.zero_le _) dL_load_16 ⟨by rw [hE]; rfl, by rw [hE]; rfl⟩

set_option maxHeartbeats 4000000 in
set_option maxRecDepth 100000 in
theorem c_L_cue (l : Launch) (D : va_G) (ct : Nat → ClassId) (a : Nat → Nat) (o : Nat) (g : Nat → Int64) (x x' : Nat → Nat → Int32) (v1 v2 v3 : Int32) (oc : Option String) (hoc : ∀ E, oc = some E → E ∈ ([eA, eS] : List String)) (r : Int32) (hM : qMX l yX3_cue wsX3_cue ({ frames := 7, cells := ocC oc, slots := ocS oc, locals := 112 }) D ct [.ref (a 30), .int v1, .int v2, .int v3] (wX ct a x) (qDo oc (some (.int r)) (wX ct a x')) (qDx oc (wX ct a x)) (ocC oc) (ocS oc)) : qMX l yL_cue wsL_cue ({ frames := 8, cells := ocC oc, slots := ocS oc, locals := 135 }) D ct [.ref (a 30), .int v1, .int v2, .int v3, .ref o] (wXo ct a o g x) (qD (some (.int (hcod [eA, eS] oc))) (wXh ct a o g x x' r.toInt64 oc)) (fun _ _ => False) (ocC oc) (ocS oc) := by
  refine q_startH (ret := some .int) (lv := [(0, .ref (a 30)), (1, .int v1), (2, .int v2), (3, .int v3), (4, .ref o)]) (by decide +kernel) rfl (Nat.le_of_ble_eq_true rfl) rfl ?_
  intro p e s m args below meth c A Q C hQ htab
  refine q_aload (pc2 := 2) C 4 dL_cue_0 rfl rfl ?_
  refine q_iconst (v := 0) (pc2 := 3) C dL_cue_2 (by decide) rfl ?_
  refine q_aload_n (pc2 := 4) C 0 dL_cue_3 rfl rfl rfl ?_
  refine q_iload_n (pc2 := 5) C 1 dL_cue_4 rfl rfl rfl ?_
  refine q_iload_n (pc2 := 6) C 2 dL_cue_5 rfl rfl rfl ?_
  refine q_iload_n (pc2 := 7) C 3 dL_cue_6 rfl rfl rfl ?_
  refine q_tV (pc2 := 10) (As := [.int v1, .int v2, .int v3]) (b := a 30) (st := [.int 0, .ref o]) (st2 := [.int r, .int 0, .ref o]) (q0 := 0) (w2 := wXo ct a o g x') C hM (cwV 3 C.w gL_cue_X3_cue rfl rfl rfl (by decide +kernel) ⟨Nat.le_of_ble_eq_true rfl, Nat.le_of_ble_eq_true rfl⟩) (wX_g0 ct a x) rfl [0, 1, 2, 3, 4, 5, 6, 7, 8, 9, 10, 11, 12, 13, 14, 15, 16, 17, 18, 19, 20, 21, 22, 23, 24, 25] [26] [1, 2, 3, 4, 5, 6, 7, 8, 9, 10, 11, 12, 13, 14, 15, 16, 17, 18, 19, 20, 21, 22, 23, 24, 25, 26, 0] (wXo_C ct a o g x) (wXo_R ct a o g x) (by decide) (by decide) (by decide) (wXo_2 ct a o g x x') (by decide) (wXo_2 ct a o g x x) dL_cue_7 rfl rfl (Nat.le_of_ble_eq_true rfl) ⟨Nat.le_of_eq (Nat.zero_add _), Nat.le_of_eq (Nat.zero_add _)⟩ rfl rfl (fun E hE => ?_) (fun hE => ?_)
  · have hm := hoc E hE
    rcases List.mem_cons.mp hm with hm1 | hm
    · subst hm1
      refine q_catch (pc2 := 15) (E := eA) C htab 0 (q := (0, 12, 15, 15)) rfl (fun z hz => nomatch hz) (by decide) (by decide) (by decide +kernel) (by decide +kernel) rfl (fun q9 => ?_)
      refine q_astore (lv' := [(5, .ref q9), (0, .ref (a 30)), (1, .int v1), (2, .int v2), (3, .int v3), (4, .ref o)]) (pc2 := 17) C dL_cue_15 (by decide) rfl rfl ?_
      refine q_iconst (v := 1) (pc2 := 18) C dL_cue_17 (by decide) rfl ?_
      exact q_zretX C hQ rfl rfl (ocC_of hE) (ocS_of hE) dL_cue_18 ⟨by rw [hE]; decide +kernel, by rw [hE]; rfl⟩
    obtain hm1 := List.mem_singleton.mp hm
    subst hm1
    refine q_catch (pc2 := 19) (E := eS) C htab 1 (q := (0, 12, 19, 17)) rfl (fun z hz => by obtain rfl := List.mem_singleton.mp hz; exact ⟨by decide, _, (by decide +kernel : Cond.classLink yL_cue.cls 15 eA ∈ wsL_cue), by decide +kernel⟩) (by decide) (by decide) (by decide +kernel) (by decide +kernel) rfl (fun q9 => ?_)
    refine q_astore (lv' := [(5, .ref q9), (0, .ref (a 30)), (1, .int v1), (2, .int v2), (3, .int v3), (4, .ref o)]) (pc2 := 21) C dL_cue_19 (by decide) rfl rfl ?_
    refine q_iconst (v := 2) (pc2 := 22) C dL_cue_21 (by decide) rfl ?_
    exact q_zretX C hQ rfl rfl (ocC_of hE) (ocS_of hE) dL_cue_22 ⟨by rw [hE]; decide +kernel, by rw [hE]; rfl⟩
  · skip
    refine q_i2l (pc2 := 11) C dL_cue_10 rfl rfl ?_
    refine q_last (ws' := wXo ct a o (vp_updL g 0 r.toInt64) x') (pc2 := 12) C 0 (wXo_g26 ct a o g x') rfl rfl (by decide) (by decide) (wXo_a26 ct a o g _ x') dL_cue_11 rfl ?_
    refine q_goto (pc2 := 23) C dL_cue_12 (by decide) ?_
    refine q_iconst (v := 0) (pc2 := 24) C dL_cue_23 (by decide) rfl ?_
    exact q_zretX C hQ rfl rfl (Nat.zero_le _) (Nat.zero_le _) dL_cue_24 ⟨by rw [hE]; rfl, by rw [hE]; rfl⟩

set_option maxHeartbeats 4000000 in
set_option maxRecDepth 100000 in
theorem c_L_name (l : Launch) (D : va_G) (ct : Nat → ClassId) (a : Nat → Nat) (o : Nat) (g : Nat → Int64) (x x' : Nat → Nat → Int32) (v1 v2 v3 : Int32) (oc : Option String) (hoc : ∀ E, oc = some E → E ∈ ([eI, eA] : List String)) (r : Int32) (hM : qMX l yX3_name wsX3_name ({ frames := 7, cells := ocC oc, slots := ocS oc, locals := 112 }) D ct [.ref (a 30), .int v1, .int v2, .int v3] (wX ct a x) (qDo oc (some (.int r)) (wX ct a x')) (qDx oc (wX ct a x)) (ocC oc) (ocS oc)) : qMX l yL_name wsL_name ({ frames := 8, cells := ocC oc, slots := ocS oc, locals := 137 }) D ct [.ref (a 30), .int v1, .int v2, .int v3, .ref o] (wXo ct a o g x) (qD (some (.int (hcod [eI, eA] oc))) (wXh ct a o g x x' r.toInt64 oc)) (fun _ _ => False) (ocC oc) (ocS oc) := by
  refine q_startH (ret := some .int) (lv := [(0, .ref (a 30)), (1, .int v1), (2, .int v2), (3, .int v3), (4, .ref o)]) (by decide +kernel) rfl (Nat.le_of_ble_eq_true rfl) rfl ?_
  intro p e s m args below meth c A Q C hQ htab
  refine q_aload (pc2 := 2) C 4 dL_name_0 rfl rfl ?_
  refine q_iconst (v := 0) (pc2 := 3) C dL_name_2 (by decide) rfl ?_
  refine q_aload_n (pc2 := 4) C 0 dL_name_3 rfl rfl rfl ?_
  refine q_iload_n (pc2 := 5) C 1 dL_name_4 rfl rfl rfl ?_
  refine q_iload_n (pc2 := 6) C 2 dL_name_5 rfl rfl rfl ?_
  refine q_iload_n (pc2 := 7) C 3 dL_name_6 rfl rfl rfl ?_
  refine q_tV (pc2 := 10) (As := [.int v1, .int v2, .int v3]) (b := a 30) (st := [.int 0, .ref o]) (st2 := [.int r, .int 0, .ref o]) (q0 := 0) (w2 := wXo ct a o g x') C hM (cwV 3 C.w gL_name_X3_name rfl rfl rfl (by decide +kernel) ⟨Nat.le_of_ble_eq_true rfl, Nat.le_of_ble_eq_true rfl⟩) (wX_g0 ct a x) rfl [0, 1, 2, 3, 4, 5, 6, 7, 8, 9, 10, 11, 12, 13, 14, 15, 16, 17, 18, 19, 20, 21, 22, 23, 24, 25] [26] [1, 2, 3, 4, 5, 6, 7, 8, 9, 10, 11, 12, 13, 14, 15, 16, 17, 18, 19, 20, 21, 22, 23, 24, 25, 26, 0] (wXo_C ct a o g x) (wXo_R ct a o g x) (by decide) (by decide) (by decide) (wXo_2 ct a o g x x') (by decide) (wXo_2 ct a o g x x) dL_name_7 rfl rfl (Nat.le_of_ble_eq_true rfl) ⟨Nat.le_of_eq (Nat.zero_add _), Nat.le_of_eq (Nat.zero_add _)⟩ rfl rfl (fun E hE => ?_) (fun hE => ?_)
  · have hm := hoc E hE
    rcases List.mem_cons.mp hm with hm1 | hm
    · subst hm1
      refine q_catch (pc2 := 15) (E := eI) C htab 0 (q := (0, 12, 15, 13)) rfl (fun z hz => nomatch hz) (by decide) (by decide) (by decide +kernel) (by decide +kernel) rfl (fun q9 => ?_)
      refine q_astore (lv' := [(5, .ref q9), (0, .ref (a 30)), (1, .int v1), (2, .int v2), (3, .int v3), (4, .ref o)]) (pc2 := 17) C dL_name_15 (by decide) rfl rfl ?_
      refine q_iconst (v := 1) (pc2 := 18) C dL_name_17 (by decide) rfl ?_
      exact q_zretX C hQ rfl rfl (ocC_of hE) (ocS_of hE) dL_name_18 ⟨by rw [hE]; decide +kernel, by rw [hE]; rfl⟩
    obtain hm1 := List.mem_singleton.mp hm
    subst hm1
    refine q_catch (pc2 := 19) (E := eA) C htab 1 (q := (0, 12, 19, 15)) rfl (fun z hz => by obtain rfl := List.mem_singleton.mp hz; exact ⟨by decide, _, (by decide +kernel : Cond.classLink yL_name.cls 13 eI ∈ wsL_name), by decide +kernel⟩) (by decide) (by decide) (by decide +kernel) (by decide +kernel) rfl (fun q9 => ?_)
    refine q_astore (lv' := [(5, .ref q9), (0, .ref (a 30)), (1, .int v1), (2, .int v2), (3, .int v3), (4, .ref o)]) (pc2 := 21) C dL_name_19 (by decide) rfl rfl ?_
    refine q_iconst (v := 2) (pc2 := 22) C dL_name_21 (by decide) rfl ?_
    exact q_zretX C hQ rfl rfl (ocC_of hE) (ocS_of hE) dL_name_22 ⟨by rw [hE]; decide +kernel, by rw [hE]; rfl⟩
  · skip
    refine q_i2l (pc2 := 11) C dL_name_10 rfl rfl ?_
    refine q_last (ws' := wXo ct a o (vp_updL g 0 r.toInt64) x') (pc2 := 12) C 0 (wXo_g26 ct a o g x') rfl rfl (by decide) (by decide) (wXo_a26 ct a o g _ x') dL_name_11 rfl ?_
    refine q_goto (pc2 := 23) C dL_name_12 (by decide) ?_
    refine q_iconst (v := 0) (pc2 := 24) C dL_name_23 (by decide) rfl ?_
    exact q_zretX C hQ rfl rfl (Nat.zero_le _) (Nat.zero_le _) dL_name_24 ⟨by rw [hE]; rfl, by rw [hE]; rfl⟩

set_option maxHeartbeats 4000000 in
set_option maxRecDepth 100000 in
theorem c_L_go (l : Launch) (D : va_G) (ct : Nat → ClassId) (a : Nat → Nat) (o : Nat) (g : Nat → Int64) (x x' : Nat → Nat → Int32) (oc : Option String) (hoc : ∀ E, oc = some E → E ∈ ([eS] : List String)) (r : Int32) (hM : qMX l yX3_go wsX3_go ({ frames := 6, cells := ocC oc, slots := ocS oc, locals := 114 }) D ct [.ref (a 30)] (wX ct a x) (qDo oc (some (.int r)) (wX ct a x')) (qDx oc (wX ct a x)) (ocC oc) (ocS oc)) : qMX l yL_go wsL_go ({ frames := 7, cells := ocC oc, slots := ocS oc, locals := 134 }) D ct [.ref (a 30), .ref o] (wXo ct a o g x) (qD (some (.int (hcod [eS] oc))) (wXh ct a o g x x' r.toInt64 oc)) (fun _ _ => False) (ocC oc) (ocS oc) := by
  refine q_startH (ret := some .int) (lv := [(0, .ref (a 30)), (1, .ref o)]) (by decide +kernel) rfl (Nat.le_of_ble_eq_true rfl) rfl ?_
  intro p e s m args below meth c A Q C hQ htab
  refine q_aload_n (pc2 := 1) C 1 dL_go_0 rfl rfl rfl ?_
  refine q_iconst (v := 0) (pc2 := 2) C dL_go_1 (by decide) rfl ?_
  refine q_aload_n (pc2 := 3) C 0 dL_go_2 rfl rfl rfl ?_
  refine q_tV (pc2 := 6) (As := []) (b := a 30) (st := [.int 0, .ref o]) (st2 := [.int r, .int 0, .ref o]) (q0 := 0) (w2 := wXo ct a o g x') C hM (cwV 0 C.w gL_go_X3_go rfl rfl rfl (by decide +kernel) ⟨Nat.le_of_ble_eq_true rfl, Nat.le_of_ble_eq_true rfl⟩) (wX_g0 ct a x) rfl [0, 1, 2, 3, 4, 5, 6, 7, 8, 9, 10, 11, 12, 13, 14, 15, 16, 17, 18, 19, 20, 21, 22, 23, 24, 25] [26] [1, 2, 3, 4, 5, 6, 7, 8, 9, 10, 11, 12, 13, 14, 15, 16, 17, 18, 19, 20, 21, 22, 23, 24, 25, 26, 0] (wXo_C ct a o g x) (wXo_R ct a o g x) (by decide) (by decide) (by decide) (wXo_2 ct a o g x x') (by decide) (wXo_2 ct a o g x x) dL_go_3 rfl rfl (Nat.le_of_ble_eq_true rfl) ⟨Nat.le_of_eq (Nat.zero_add _), Nat.le_of_eq (Nat.zero_add _)⟩ rfl rfl (fun E hE => ?_) (fun hE => ?_)
  · have hm := hoc E hE
    obtain hm1 := List.mem_singleton.mp hm
    subst hm1
    refine q_catch (pc2 := 11) (E := eS) C htab 0 (q := (0, 8, 11, 17)) rfl (fun z hz => nomatch hz) (by decide) (by decide) (by decide +kernel) (by decide +kernel) rfl (fun q9 => ?_)
    refine q_astore_n (lv' := [(2, .ref q9), (0, .ref (a 30)), (1, .ref o)]) (pc2 := 12) C dL_go_11 rfl (by decide) rfl rfl ?_
    refine q_iconst (v := 1) (pc2 := 13) C dL_go_12 (by decide) rfl ?_
    exact q_zretX C hQ rfl rfl (ocC_of hE) (ocS_of hE) dL_go_13 ⟨by rw [hE]; decide +kernel, by rw [hE]; rfl⟩
  · skip
    refine q_i2l (pc2 := 7) C dL_go_6 rfl rfl ?_
    refine q_last (ws' := wXo ct a o (vp_updL g 0 r.toInt64) x') (pc2 := 8) C 0 (wXo_g26 ct a o g x') rfl rfl (by decide) (by decide) (wXo_a26 ct a o g _ x') dL_go_7 rfl ?_
    refine q_goto (pc2 := 14) C dL_go_8 (by decide) ?_
    refine q_iconst (v := 0) (pc2 := 15) C dL_go_14 (by decide) rfl ?_
    exact q_zretX C hQ rfl rfl (Nat.zero_le _) (Nat.zero_le _) dL_go_15 ⟨by rw [hE]; rfl, by rw [hE]; rfl⟩

set_option maxHeartbeats 4000000 in
set_option maxRecDepth 100000 in
theorem c_L_tick (l : Launch) (D : va_G) (ct : Nat → ClassId) (a : Nat → Nat) (o : Nat) (g : Nat → Int64) (x x' : Nat → Nat → Int32) (v1 : Int32) (oc : Option String) (hoc : ∀ E, oc = some E → E ∈ ([eA] : List String)) (r : Int32) (hM : qMX l yX3_tick wsX3_tick ({ frames := 7, cells := ocC oc, slots := ocS oc, locals := 134 }) D ct [.ref (a 30), .int v1] (wX ct a x) (qDo oc (some (.int r)) (wX ct a x')) (qDx oc (wX ct a x)) (ocC oc) (ocS oc)) : qMX l yL_tick wsL_tick ({ frames := 8, cells := ocC oc, slots := ocS oc, locals := 157 }) D ct [.ref (a 30), .int v1, .ref o] (wXo ct a o g x) (qD (some (.int (hcod [eA] oc))) (wXh ct a o g x x' r.toInt64 oc)) (fun _ _ => False) (ocC oc) (ocS oc) := by
  refine q_startH (ret := some .int) (lv := [(0, .ref (a 30)), (1, .int v1), (2, .ref o)]) (by decide +kernel) rfl (Nat.le_of_ble_eq_true rfl) rfl ?_
  intro p e s m args below meth c A Q C hQ htab
  refine q_aload_n (pc2 := 1) C 2 dL_tick_0 rfl rfl rfl ?_
  refine q_iconst (v := 0) (pc2 := 2) C dL_tick_1 (by decide) rfl ?_
  refine q_aload_n (pc2 := 3) C 0 dL_tick_2 rfl rfl rfl ?_
  refine q_iload_n (pc2 := 4) C 1 dL_tick_3 rfl rfl rfl ?_
  refine q_tV (pc2 := 7) (As := [.int v1]) (b := a 30) (st := [.int 0, .ref o]) (st2 := [.int r, .int 0, .ref o]) (q0 := 0) (w2 := wXo ct a o g x') C hM (cwV 1 C.w gL_tick_X3_tick rfl rfl rfl (by decide +kernel) ⟨Nat.le_of_ble_eq_true rfl, Nat.le_of_ble_eq_true rfl⟩) (wX_g0 ct a x) rfl [0, 1, 2, 3, 4, 5, 6, 7, 8, 9, 10, 11, 12, 13, 14, 15, 16, 17, 18, 19, 20, 21, 22, 23, 24, 25] [26] [1, 2, 3, 4, 5, 6, 7, 8, 9, 10, 11, 12, 13, 14, 15, 16, 17, 18, 19, 20, 21, 22, 23, 24, 25, 26, 0] (wXo_C ct a o g x) (wXo_R ct a o g x) (by decide) (by decide) (by decide) (wXo_2 ct a o g x x') (by decide) (wXo_2 ct a o g x x) dL_tick_4 rfl rfl (Nat.le_of_ble_eq_true rfl) ⟨Nat.le_of_eq (Nat.zero_add _), Nat.le_of_eq (Nat.zero_add _)⟩ rfl rfl (fun E hE => ?_) (fun hE => ?_)
  · have hm := hoc E hE
    obtain hm1 := List.mem_singleton.mp hm
    subst hm1
    refine q_catch (pc2 := 12) (E := eA) C htab 0 (q := (0, 9, 12, 15)) rfl (fun z hz => nomatch hz) (by decide) (by decide) (by decide +kernel) (by decide +kernel) rfl (fun q9 => ?_)
    refine q_astore_n (lv' := [(3, .ref q9), (0, .ref (a 30)), (1, .int v1), (2, .ref o)]) (pc2 := 13) C dL_tick_12 rfl (by decide) rfl rfl ?_
    refine q_iconst (v := 1) (pc2 := 14) C dL_tick_13 (by decide) rfl ?_
    exact q_zretX C hQ rfl rfl (ocC_of hE) (ocS_of hE) dL_tick_14 ⟨by rw [hE]; decide +kernel, by rw [hE]; rfl⟩
  · skip
    refine q_i2l (pc2 := 8) C dL_tick_7 rfl rfl ?_
    refine q_last (ws' := wXo ct a o (vp_updL g 0 r.toInt64) x') (pc2 := 9) C 0 (wXo_g26 ct a o g x') rfl rfl (by decide) (by decide) (wXo_a26 ct a o g _ x') dL_tick_8 rfl ?_
    refine q_goto (pc2 := 15) C dL_tick_9 (by decide) ?_
    refine q_iconst (v := 0) (pc2 := 16) C dL_tick_15 (by decide) rfl ?_
    exact q_zretX C hQ rfl rfl (Nat.zero_le _) (Nat.zero_le _) dL_tick_16 ⟨by rw [hE]; rfl, by rw [hE]; rfl⟩

set_option maxHeartbeats 4000000 in
set_option maxRecDepth 100000 in
theorem c_L_level (l : Launch) (D : va_G) (ct : Nat → ClassId) (a : Nat → Nat) (o : Nat) (g : Nat → Int64) (x x' : Nat → Nat → Int32) (v1 : Int32) (oc : Option String) (hoc : ∀ E, oc = some E → E ∈ ([eI] : List String)) (r : Int32) (hM : qMX l yX3_level wsX3_level ({ frames := 7, cells := ocC oc, slots := ocS oc, locals := 111 }) D ct [.ref (a 30), .int v1] (wX ct a x) (qDo oc (some (.int r)) (wX ct a x')) (qDx oc (wX ct a x)) (ocC oc) (ocS oc)) : qMX l yL_level wsL_level ({ frames := 8, cells := ocC oc, slots := ocS oc, locals := 132 }) D ct [.ref (a 30), .int v1, .ref o] (wXo ct a o g x) (qD (some (.int (hcod [eI] oc))) (wXh ct a o g x x' r.toInt64 oc)) (fun _ _ => False) (ocC oc) (ocS oc) := by
  refine q_startH (ret := some .int) (lv := [(0, .ref (a 30)), (1, .int v1), (2, .ref o)]) (by decide +kernel) rfl (Nat.le_of_ble_eq_true rfl) rfl ?_
  intro p e s m args below meth c A Q C hQ htab
  refine q_aload_n (pc2 := 1) C 2 dL_level_0 rfl rfl rfl ?_
  refine q_iconst (v := 0) (pc2 := 2) C dL_level_1 (by decide) rfl ?_
  refine q_aload_n (pc2 := 3) C 0 dL_level_2 rfl rfl rfl ?_
  refine q_iload_n (pc2 := 4) C 1 dL_level_3 rfl rfl rfl ?_
  refine q_tV (pc2 := 7) (As := [.int v1]) (b := a 30) (st := [.int 0, .ref o]) (st2 := [.int r, .int 0, .ref o]) (q0 := 0) (w2 := wXo ct a o g x') C hM (cwV 1 C.w gL_level_X3_level rfl rfl rfl (by decide +kernel) ⟨Nat.le_of_ble_eq_true rfl, Nat.le_of_ble_eq_true rfl⟩) (wX_g0 ct a x) rfl [0, 1, 2, 3, 4, 5, 6, 7, 8, 9, 10, 11, 12, 13, 14, 15, 16, 17, 18, 19, 20, 21, 22, 23, 24, 25] [26] [1, 2, 3, 4, 5, 6, 7, 8, 9, 10, 11, 12, 13, 14, 15, 16, 17, 18, 19, 20, 21, 22, 23, 24, 25, 26, 0] (wXo_C ct a o g x) (wXo_R ct a o g x) (by decide) (by decide) (by decide) (wXo_2 ct a o g x x') (by decide) (wXo_2 ct a o g x x) dL_level_4 rfl rfl (Nat.le_of_ble_eq_true rfl) ⟨Nat.le_of_eq (Nat.zero_add _), Nat.le_of_eq (Nat.zero_add _)⟩ rfl rfl (fun E hE => ?_) (fun hE => ?_)
  · have hm := hoc E hE
    obtain hm1 := List.mem_singleton.mp hm
    subst hm1
    refine q_catch (pc2 := 12) (E := eI) C htab 0 (q := (0, 9, 12, 13)) rfl (fun z hz => nomatch hz) (by decide) (by decide) (by decide +kernel) (by decide +kernel) rfl (fun q9 => ?_)
    refine q_astore_n (lv' := [(3, .ref q9), (0, .ref (a 30)), (1, .int v1), (2, .ref o)]) (pc2 := 13) C dL_level_12 rfl (by decide) rfl rfl ?_
    refine q_iconst (v := 1) (pc2 := 14) C dL_level_13 (by decide) rfl ?_
    exact q_zretX C hQ rfl rfl (ocC_of hE) (ocS_of hE) dL_level_14 ⟨by rw [hE]; decide +kernel, by rw [hE]; rfl⟩
  · skip
    refine q_i2l (pc2 := 8) C dL_level_7 rfl rfl ?_
    refine q_last (ws' := wXo ct a o (vp_updL g 0 r.toInt64) x') (pc2 := 9) C 0 (wXo_g26 ct a o g x') rfl rfl (by decide) (by decide) (wXo_a26 ct a o g _ x') dL_level_8 rfl ?_
    refine q_goto (pc2 := 15) C dL_level_9 (by decide) ?_
    refine q_iconst (v := 0) (pc2 := 16) C dL_level_15 (by decide) rfl ?_
    exact q_zretX C hQ rfl rfl (Nat.zero_le _) (Nat.zero_le _) dL_level_16 ⟨by rw [hE]; rfl, by rw [hE]; rfl⟩

set_option maxHeartbeats 4000000 in
set_option maxRecDepth 100000 in
theorem c_L_wanted (l : Launch) (D : va_G) (ct : Nat → ClassId) (a : Nat → Nat) (o : Nat) (g : Nat → Int64) (x x' : Nat → Nat → Int32) (v1 : Int32) (oc : Option String) (hoc : ∀ E, oc = some E → E ∈ ([eI] : List String)) (r : Int32) (hM : qMX l yX3_wanted wsX3_wanted ({ frames := 7, cells := ocC oc, slots := ocS oc, locals := 111 }) D ct [.ref (a 30), .int v1] (wX ct a x) (qDo oc (some (.int r)) (wX ct a x')) (qDx oc (wX ct a x)) (ocC oc) (ocS oc)) : qMX l yL_wanted wsL_wanted ({ frames := 8, cells := ocC oc, slots := ocS oc, locals := 132 }) D ct [.ref (a 30), .int v1, .ref o] (wXo ct a o g x) (qD (some (.int (hcod [eI] oc))) (wXh ct a o g x x' r.toInt64 oc)) (fun _ _ => False) (ocC oc) (ocS oc) := by
  refine q_startH (ret := some .int) (lv := [(0, .ref (a 30)), (1, .int v1), (2, .ref o)]) (by decide +kernel) rfl (Nat.le_of_ble_eq_true rfl) rfl ?_
  intro p e s m args below meth c A Q C hQ htab
  refine q_aload_n (pc2 := 1) C 2 dL_wanted_0 rfl rfl rfl ?_
  refine q_iconst (v := 0) (pc2 := 2) C dL_wanted_1 (by decide) rfl ?_
  refine q_aload_n (pc2 := 3) C 0 dL_wanted_2 rfl rfl rfl ?_
  refine q_iload_n (pc2 := 4) C 1 dL_wanted_3 rfl rfl rfl ?_
  refine q_tV (pc2 := 7) (As := [.int v1]) (b := a 30) (st := [.int 0, .ref o]) (st2 := [.int r, .int 0, .ref o]) (q0 := 0) (w2 := wXo ct a o g x') C hM (cwV 1 C.w gL_wanted_X3_wanted rfl rfl rfl (by decide +kernel) ⟨Nat.le_of_ble_eq_true rfl, Nat.le_of_ble_eq_true rfl⟩) (wX_g0 ct a x) rfl [0, 1, 2, 3, 4, 5, 6, 7, 8, 9, 10, 11, 12, 13, 14, 15, 16, 17, 18, 19, 20, 21, 22, 23, 24, 25] [26] [1, 2, 3, 4, 5, 6, 7, 8, 9, 10, 11, 12, 13, 14, 15, 16, 17, 18, 19, 20, 21, 22, 23, 24, 25, 26, 0] (wXo_C ct a o g x) (wXo_R ct a o g x) (by decide) (by decide) (by decide) (wXo_2 ct a o g x x') (by decide) (wXo_2 ct a o g x x) dL_wanted_4 rfl rfl (Nat.le_of_ble_eq_true rfl) ⟨Nat.le_of_eq (Nat.zero_add _), Nat.le_of_eq (Nat.zero_add _)⟩ rfl rfl (fun E hE => ?_) (fun hE => ?_)
  · have hm := hoc E hE
    obtain hm1 := List.mem_singleton.mp hm
    subst hm1
    refine q_catch (pc2 := 12) (E := eI) C htab 0 (q := (0, 9, 12, 13)) rfl (fun z hz => nomatch hz) (by decide) (by decide) (by decide +kernel) (by decide +kernel) rfl (fun q9 => ?_)
    refine q_astore_n (lv' := [(3, .ref q9), (0, .ref (a 30)), (1, .int v1), (2, .ref o)]) (pc2 := 13) C dL_wanted_12 rfl (by decide) rfl rfl ?_
    refine q_iconst (v := 1) (pc2 := 14) C dL_wanted_13 (by decide) rfl ?_
    exact q_zretX C hQ rfl rfl (ocC_of hE) (ocS_of hE) dL_wanted_14 ⟨by rw [hE]; decide +kernel, by rw [hE]; rfl⟩
  · skip
    refine q_i2l (pc2 := 8) C dL_wanted_7 rfl rfl ?_
    refine q_last (ws' := wXo ct a o (vp_updL g 0 r.toInt64) x') (pc2 := 9) C 0 (wXo_g26 ct a o g x') rfl rfl (by decide) (by decide) (wXo_a26 ct a o g _ x') dL_wanted_8 rfl ?_
    refine q_goto (pc2 := 15) C dL_wanted_9 (by decide) ?_
    refine q_iconst (v := 0) (pc2 := 16) C dL_wanted_15 (by decide) rfl ?_
    exact q_zretX C hQ rfl rfl (Nat.zero_le _) (Nat.zero_le _) dL_wanted_16 ⟨by rw [hE]; rfl, by rw [hE]; rfl⟩

set_option maxHeartbeats 4000000 in
set_option maxRecDepth 100000 in
theorem c_L_wantedByCues (l : Launch) (D : va_G) (ct : Nat → ClassId) (a : Nat → Nat) (o : Nat) (g : Nat → Int64) (x x' : Nat → Nat → Int32) (v1 : Int32) (oc : Option String) (hoc : ∀ E, oc = some E → E ∈ ([eI] : List String)) (r : Int32) (hM : qMX l yX3_wantedByCues wsX3_wantedByCues ({ frames := 7, cells := ocC oc, slots := ocS oc, locals := 111 }) D ct [.ref (a 30), .int v1] (wX ct a x) (qDo oc (some (.int r)) (wX ct a x')) (qDx oc (wX ct a x)) (ocC oc) (ocS oc)) : qMX l yL_wantedByCues wsL_wantedByCues ({ frames := 8, cells := ocC oc, slots := ocS oc, locals := 132 }) D ct [.ref (a 30), .int v1, .ref o] (wXo ct a o g x) (qD (some (.int (hcod [eI] oc))) (wXh ct a o g x x' r.toInt64 oc)) (fun _ _ => False) (ocC oc) (ocS oc) := by
  refine q_startH (ret := some .int) (lv := [(0, .ref (a 30)), (1, .int v1), (2, .ref o)]) (by decide +kernel) rfl (Nat.le_of_ble_eq_true rfl) rfl ?_
  intro p e s m args below meth c A Q C hQ htab
  refine q_aload_n (pc2 := 1) C 2 dL_wantedByCues_0 rfl rfl rfl ?_
  refine q_iconst (v := 0) (pc2 := 2) C dL_wantedByCues_1 (by decide) rfl ?_
  refine q_aload_n (pc2 := 3) C 0 dL_wantedByCues_2 rfl rfl rfl ?_
  refine q_iload_n (pc2 := 4) C 1 dL_wantedByCues_3 rfl rfl rfl ?_
  refine q_tV (pc2 := 7) (As := [.int v1]) (b := a 30) (st := [.int 0, .ref o]) (st2 := [.int r, .int 0, .ref o]) (q0 := 0) (w2 := wXo ct a o g x') C hM (cwV 1 C.w gL_wantedByCues_X3_wantedByCues rfl rfl rfl (by decide +kernel) ⟨Nat.le_of_ble_eq_true rfl, Nat.le_of_ble_eq_true rfl⟩) (wX_g0 ct a x) rfl [0, 1, 2, 3, 4, 5, 6, 7, 8, 9, 10, 11, 12, 13, 14, 15, 16, 17, 18, 19, 20, 21, 22, 23, 24, 25] [26] [1, 2, 3, 4, 5, 6, 7, 8, 9, 10, 11, 12, 13, 14, 15, 16, 17, 18, 19, 20, 21, 22, 23, 24, 25, 26, 0] (wXo_C ct a o g x) (wXo_R ct a o g x) (by decide) (by decide) (by decide) (wXo_2 ct a o g x x') (by decide) (wXo_2 ct a o g x x) dL_wantedByCues_4 rfl rfl (Nat.le_of_ble_eq_true rfl) ⟨Nat.le_of_eq (Nat.zero_add _), Nat.le_of_eq (Nat.zero_add _)⟩ rfl rfl (fun E hE => ?_) (fun hE => ?_)
  · have hm := hoc E hE
    obtain hm1 := List.mem_singleton.mp hm
    subst hm1
    refine q_catch (pc2 := 12) (E := eI) C htab 0 (q := (0, 9, 12, 13)) rfl (fun z hz => nomatch hz) (by decide) (by decide) (by decide +kernel) (by decide +kernel) rfl (fun q9 => ?_)
    refine q_astore_n (lv' := [(3, .ref q9), (0, .ref (a 30)), (1, .int v1), (2, .ref o)]) (pc2 := 13) C dL_wantedByCues_12 rfl (by decide) rfl rfl ?_
    refine q_iconst (v := 1) (pc2 := 14) C dL_wantedByCues_13 (by decide) rfl ?_
    exact q_zretX C hQ rfl rfl (ocC_of hE) (ocS_of hE) dL_wantedByCues_14 ⟨by rw [hE]; decide +kernel, by rw [hE]; rfl⟩
  · skip
    refine q_i2l (pc2 := 8) C dL_wantedByCues_7 rfl rfl ?_
    refine q_last (ws' := wXo ct a o (vp_updL g 0 r.toInt64) x') (pc2 := 9) C 0 (wXo_g26 ct a o g x') rfl rfl (by decide) (by decide) (wXo_a26 ct a o g _ x') dL_wantedByCues_8 rfl ?_
    refine q_goto (pc2 := 15) C dL_wantedByCues_9 (by decide) ?_
    refine q_iconst (v := 0) (pc2 := 16) C dL_wantedByCues_15 (by decide) rfl ?_
    exact q_zretX C hQ rfl rfl (Nat.zero_le _) (Nat.zero_le _) dL_wantedByCues_16 ⟨by rw [hE]; rfl, by rw [hE]; rfl⟩

set_option maxHeartbeats 4000000 in
set_option maxRecDepth 100000 in
theorem c_L_bulb (l : Launch) (D : va_G) (ct : Nat → ClassId) (a : Nat → Nat) (o : Nat) (g : Nat → Int64) (x x' : Nat → Nat → Int32) (v1 : Int32) (oc : Option String) (hoc : ∀ E, oc = some E → E ∈ ([eI] : List String)) (r : Int32) (hM : qMX l yX3_bulb wsX3_bulb ({ frames := 7, cells := ocC oc, slots := ocS oc, locals := 111 }) D ct [.ref (a 30), .int v1] (wX ct a x) (qDo oc (some (.int r)) (wX ct a x')) (qDx oc (wX ct a x)) (ocC oc) (ocS oc)) : qMX l yL_bulb wsL_bulb ({ frames := 8, cells := ocC oc, slots := ocS oc, locals := 132 }) D ct [.ref (a 30), .int v1, .ref o] (wXo ct a o g x) (qD (some (.int (hcod [eI] oc))) (wXh ct a o g x x' (if r = 0 then (0 : Int64) else 1) oc)) (fun _ _ => False) (ocC oc) (ocS oc) := by
  refine q_startH (ret := some .int) (lv := [(0, .ref (a 30)), (1, .int v1), (2, .ref o)]) (by decide +kernel) rfl (Nat.le_of_ble_eq_true rfl) rfl ?_
  intro p e s m args below meth c A Q C hQ htab
  refine q_aload_n (pc2 := 1) C 2 dL_bulb_0 rfl rfl rfl ?_
  refine q_iconst (v := 0) (pc2 := 2) C dL_bulb_1 (by decide) rfl ?_
  refine q_aload_n (pc2 := 3) C 0 dL_bulb_2 rfl rfl rfl ?_
  refine q_iload_n (pc2 := 4) C 1 dL_bulb_3 rfl rfl rfl ?_
  refine q_tV (pc2 := 7) (As := [.int v1]) (b := a 30) (st := [.int 0, .ref o]) (st2 := [.int r, .int 0, .ref o]) (q0 := 0) (w2 := wXo ct a o g x') C hM (cwV 1 C.w gL_bulb_X3_bulb rfl rfl rfl (by decide +kernel) ⟨Nat.le_of_ble_eq_true rfl, Nat.le_of_ble_eq_true rfl⟩) (wX_g0 ct a x) rfl [0, 1, 2, 3, 4, 5, 6, 7, 8, 9, 10, 11, 12, 13, 14, 15, 16, 17, 18, 19, 20, 21, 22, 23, 24, 25] [26] [1, 2, 3, 4, 5, 6, 7, 8, 9, 10, 11, 12, 13, 14, 15, 16, 17, 18, 19, 20, 21, 22, 23, 24, 25, 26, 0] (wXo_C ct a o g x) (wXo_R ct a o g x) (by decide) (by decide) (by decide) (wXo_2 ct a o g x x') (by decide) (wXo_2 ct a o g x x) dL_bulb_4 rfl rfl (Nat.le_of_ble_eq_true rfl) ⟨Nat.le_of_eq (Nat.zero_add _), Nat.le_of_eq (Nat.zero_add _)⟩ rfl rfl (fun E hE => ?_) (fun hE => ?_)
  · have hm := hoc E hE
    obtain hm1 := List.mem_singleton.mp hm
    subst hm1
    refine q_catch (pc2 := 19) (E := eI) C htab 0 (q := (0, 16, 19, 13)) rfl (fun z hz => nomatch hz) (by decide) (by decide) (by decide +kernel) (by decide +kernel) rfl (fun q9 => ?_)
    refine q_astore_n (lv' := [(3, .ref q9), (0, .ref (a 30)), (1, .int v1), (2, .ref o)]) (pc2 := 20) C dL_bulb_19 rfl (by decide) rfl rfl ?_
    refine q_iconst (v := 1) (pc2 := 21) C dL_bulb_20 (by decide) rfl ?_
    exact q_zretX C hQ rfl rfl (ocC_of hE) (ocS_of hE) dL_bulb_21 ⟨by rw [hE]; decide +kernel, by rw [hE]; rfl⟩
  · skip
    refine q_if_eq (tgt := 14) (pc2 := 10) C dL_bulb_7 (by decide) rfl (fun c7 => ?_) (fun c7 => ?_)
    · skip
      refine q_lconst (v := 0) (pc2 := 15) C dL_bulb_14 (by decide) rfl ?_
      refine q_last (ws' := wXo ct a o (vp_updL g 0 0) x') (pc2 := 16) C 0 (wXo_g26 ct a o g x') rfl rfl (by decide) (by decide) (wXo_a26 ct a o g _ x') dL_bulb_15 rfl ?_
      refine q_goto (pc2 := 22) C dL_bulb_16 (by decide) ?_
      refine q_iconst (v := 0) (pc2 := 23) C dL_bulb_22 (by decide) rfl ?_
      exact q_zretX C hQ rfl rfl (Nat.zero_le _) (Nat.zero_le _) dL_bulb_23 ⟨by rw [hE]; rfl, by rw [hE, if_pos c7]; rfl⟩
    · skip
      refine q_lconst (v := 1) (pc2 := 11) C dL_bulb_10 (by decide) rfl ?_
      refine q_goto (pc2 := 15) C dL_bulb_11 (by decide) ?_
      refine q_last (ws' := wXo ct a o (vp_updL g 0 1) x') (pc2 := 16) C 0 (wXo_g26 ct a o g x') rfl rfl (by decide) (by decide) (wXo_a26 ct a o g _ x') dL_bulb_15 rfl ?_
      refine q_goto (pc2 := 22) C dL_bulb_16 (by decide) ?_
      refine q_iconst (v := 0) (pc2 := 23) C dL_bulb_22 (by decide) rfl ?_
      exact q_zretX C hQ rfl rfl (Nat.zero_le _) (Nat.zero_le _) dL_bulb_23 ⟨by rw [hE]; rfl, by rw [hE, if_neg c7]; rfl⟩

set_option maxHeartbeats 4000000 in
set_option maxRecDepth 100000 in
theorem c_L_standIn (l : Launch) (D : va_G) (ct : Nat → ClassId) (a : Nat → Nat) (o : Nat) (g : Nat → Int64) (x x' : Nat → Nat → Int32) (v1 v2 : Int32) (oc : Option String) (hoc : ∀ E, oc = some E → E ∈ ([eI, eA, eS] : List String)) (r : Int32) (hM : qMX l yX3_standIn wsX3_standIn ({ frames := 7, cells := ocC oc, slots := ocS oc, locals := 111 }) D ct [.ref (a 30), .int v1, .int v2] (wX ct a x) (qDo oc (some (.int r)) (wX ct a x')) (qDx oc (wX ct a x)) (ocC oc) (ocS oc)) : qMX l yL_standIn wsL_standIn ({ frames := 8, cells := ocC oc, slots := ocS oc, locals := 133 }) D ct [.ref (a 30), .int v1, .int v2, .ref o] (wXo ct a o g x) (qD (some (.int (hcod [eI, eA, eS] oc))) (wXh ct a o g x x' r.toInt64 oc)) (fun _ _ => False) (ocC oc) (ocS oc) := by
  refine q_startH (ret := some .int) (lv := [(0, .ref (a 30)), (1, .int v1), (2, .int v2), (3, .ref o)]) (by decide +kernel) rfl (Nat.le_of_ble_eq_true rfl) rfl ?_
  intro p e s m args below meth c A Q C hQ htab
  refine q_aload_n (pc2 := 1) C 3 dL_standIn_0 rfl rfl rfl ?_
  refine q_iconst (v := 0) (pc2 := 2) C dL_standIn_1 (by decide) rfl ?_
  refine q_aload_n (pc2 := 3) C 0 dL_standIn_2 rfl rfl rfl ?_
  refine q_iload_n (pc2 := 4) C 1 dL_standIn_3 rfl rfl rfl ?_
  refine q_iload_n (pc2 := 5) C 2 dL_standIn_4 rfl rfl rfl ?_
  refine q_tV (pc2 := 8) (As := [.int v1, .int v2]) (b := a 30) (st := [.int 0, .ref o]) (st2 := [.int r, .int 0, .ref o]) (q0 := 0) (w2 := wXo ct a o g x') C hM (cwV 2 C.w gL_standIn_X3_standIn rfl rfl rfl (by decide +kernel) ⟨Nat.le_of_ble_eq_true rfl, Nat.le_of_ble_eq_true rfl⟩) (wX_g0 ct a x) rfl [0, 1, 2, 3, 4, 5, 6, 7, 8, 9, 10, 11, 12, 13, 14, 15, 16, 17, 18, 19, 20, 21, 22, 23, 24, 25] [26] [1, 2, 3, 4, 5, 6, 7, 8, 9, 10, 11, 12, 13, 14, 15, 16, 17, 18, 19, 20, 21, 22, 23, 24, 25, 26, 0] (wXo_C ct a o g x) (wXo_R ct a o g x) (by decide) (by decide) (by decide) (wXo_2 ct a o g x x') (by decide) (wXo_2 ct a o g x x) dL_standIn_5 rfl rfl (Nat.le_of_ble_eq_true rfl) ⟨Nat.le_of_eq (Nat.zero_add _), Nat.le_of_eq (Nat.zero_add _)⟩ rfl rfl (fun E hE => ?_) (fun hE => ?_)
  · have hm := hoc E hE
    rcases List.mem_cons.mp hm with hm1 | hm
    · subst hm1
      refine q_catch (pc2 := 13) (E := eI) C htab 0 (q := (0, 10, 13, 13)) rfl (fun z hz => nomatch hz) (by decide) (by decide) (by decide +kernel) (by decide +kernel) rfl (fun q9 => ?_)
      refine q_astore (lv' := [(4, .ref q9), (0, .ref (a 30)), (1, .int v1), (2, .int v2), (3, .ref o)]) (pc2 := 15) C dL_standIn_13 (by decide) rfl rfl ?_
      refine q_iconst (v := 1) (pc2 := 16) C dL_standIn_15 (by decide) rfl ?_
      exact q_zretX C hQ rfl rfl (ocC_of hE) (ocS_of hE) dL_standIn_16 ⟨by rw [hE]; decide +kernel, by rw [hE]; rfl⟩
    rcases List.mem_cons.mp hm with hm1 | hm
    · subst hm1
      refine q_catch (pc2 := 17) (E := eA) C htab 1 (q := (0, 10, 17, 15)) rfl (fun z hz => by obtain rfl := List.mem_singleton.mp hz; exact ⟨by decide, _, (by decide +kernel : Cond.classLink yL_standIn.cls 13 eI ∈ wsL_standIn), by decide +kernel⟩) (by decide) (by decide) (by decide +kernel) (by decide +kernel) rfl (fun q9 => ?_)
      refine q_astore (lv' := [(4, .ref q9), (0, .ref (a 30)), (1, .int v1), (2, .int v2), (3, .ref o)]) (pc2 := 19) C dL_standIn_17 (by decide) rfl rfl ?_
      refine q_iconst (v := 2) (pc2 := 20) C dL_standIn_19 (by decide) rfl ?_
      exact q_zretX C hQ rfl rfl (ocC_of hE) (ocS_of hE) dL_standIn_20 ⟨by rw [hE]; decide +kernel, by rw [hE]; rfl⟩
    obtain hm1 := List.mem_singleton.mp hm
    subst hm1
    refine q_catch (pc2 := 21) (E := eS) C htab 2 (q := (0, 10, 21, 17)) rfl (fun z hz => by rcases List.mem_cons.mp hz with rfl | hz2; exact ⟨by decide, _, (by decide +kernel : Cond.classLink yL_standIn.cls 13 eI ∈ wsL_standIn), by decide +kernel⟩; obtain rfl := List.mem_singleton.mp hz2; exact ⟨by decide, _, (by decide +kernel : Cond.classLink yL_standIn.cls 15 eA ∈ wsL_standIn), by decide +kernel⟩) (by decide) (by decide) (by decide +kernel) (by decide +kernel) rfl (fun q9 => ?_)
    refine q_astore (lv' := [(4, .ref q9), (0, .ref (a 30)), (1, .int v1), (2, .int v2), (3, .ref o)]) (pc2 := 23) C dL_standIn_21 (by decide) rfl rfl ?_
    refine q_iconst (v := 3) (pc2 := 24) C dL_standIn_23 (by decide) rfl ?_
    exact q_zretX C hQ rfl rfl (ocC_of hE) (ocS_of hE) dL_standIn_24 ⟨by rw [hE]; decide +kernel, by rw [hE]; rfl⟩
  · skip
    refine q_i2l (pc2 := 9) C dL_standIn_8 rfl rfl ?_
    refine q_last (ws' := wXo ct a o (vp_updL g 0 r.toInt64) x') (pc2 := 10) C 0 (wXo_g26 ct a o g x') rfl rfl (by decide) (by decide) (wXo_a26 ct a o g _ x') dL_standIn_9 rfl ?_
    refine q_goto (pc2 := 25) C dL_standIn_10 (by decide) ?_
    refine q_iconst (v := 0) (pc2 := 26) C dL_standIn_25 (by decide) rfl ?_
    exact q_zretX C hQ rfl rfl (Nat.zero_le _) (Nat.zero_le _) dL_standIn_26 ⟨by rw [hE]; rfl, by rw [hE]; rfl⟩

set_option maxHeartbeats 4000000 in
set_option maxRecDepth 100000 in
theorem c_L_colour (l : Launch) (D : va_G) (ct : Nat → ClassId) (a : Nat → Nat) (o : Nat) (g : Nat → Int64) (x x' : Nat → Nat → Int32) (v1 v2 : Int32) (oc : Option String) (hoc : ∀ E, oc = some E → E ∈ ([eI, eA] : List String)) (r : Int32) (hM : qMX l yX3_colour wsX3_colour ({ frames := 7, cells := ocC oc, slots := ocS oc, locals := 112 }) D ct [.ref (a 30), .int v1, .int v2] (wX ct a x) (qDo oc (some (.int r)) (wX ct a x')) (qDx oc (wX ct a x)) (ocC oc) (ocS oc)) : qMX l yL_colour wsL_colour ({ frames := 8, cells := ocC oc, slots := ocS oc, locals := 135 }) D ct [.ref (a 30), .int v1, .int v2, .ref o] (wXo ct a o g x) (qD (some (.int (hcod [eI, eA] oc))) (wXh ct a o g x x' r.toInt64 oc)) (fun _ _ => False) (ocC oc) (ocS oc) := by
  refine q_startH (ret := some .int) (lv := [(0, .ref (a 30)), (1, .int v1), (2, .int v2), (3, .ref o)]) (by decide +kernel) rfl (Nat.le_of_ble_eq_true rfl) rfl ?_
  intro p e s m args below meth c A Q C hQ htab
  refine q_aload_n (pc2 := 1) C 3 dL_colour_0 rfl rfl rfl ?_
  refine q_iconst (v := 0) (pc2 := 2) C dL_colour_1 (by decide) rfl ?_
  refine q_aload_n (pc2 := 3) C 0 dL_colour_2 rfl rfl rfl ?_
  refine q_iload_n (pc2 := 4) C 1 dL_colour_3 rfl rfl rfl ?_
  refine q_iload_n (pc2 := 5) C 2 dL_colour_4 rfl rfl rfl ?_
  refine q_tV (pc2 := 8) (As := [.int v1, .int v2]) (b := a 30) (st := [.int 0, .ref o]) (st2 := [.int r, .int 0, .ref o]) (q0 := 0) (w2 := wXo ct a o g x') C hM (cwV 2 C.w gL_colour_X3_colour rfl rfl rfl (by decide +kernel) ⟨Nat.le_of_ble_eq_true rfl, Nat.le_of_ble_eq_true rfl⟩) (wX_g0 ct a x) rfl [0, 1, 2, 3, 4, 5, 6, 7, 8, 9, 10, 11, 12, 13, 14, 15, 16, 17, 18, 19, 20, 21, 22, 23, 24, 25] [26] [1, 2, 3, 4, 5, 6, 7, 8, 9, 10, 11, 12, 13, 14, 15, 16, 17, 18, 19, 20, 21, 22, 23, 24, 25, 26, 0] (wXo_C ct a o g x) (wXo_R ct a o g x) (by decide) (by decide) (by decide) (wXo_2 ct a o g x x') (by decide) (wXo_2 ct a o g x x) dL_colour_5 rfl rfl (Nat.le_of_ble_eq_true rfl) ⟨Nat.le_of_eq (Nat.zero_add _), Nat.le_of_eq (Nat.zero_add _)⟩ rfl rfl (fun E hE => ?_) (fun hE => ?_)
  · have hm := hoc E hE
    rcases List.mem_cons.mp hm with hm1 | hm
    · subst hm1
      refine q_catch (pc2 := 13) (E := eI) C htab 0 (q := (0, 10, 13, 13)) rfl (fun z hz => nomatch hz) (by decide) (by decide) (by decide +kernel) (by decide +kernel) rfl (fun q9 => ?_)
      refine q_astore (lv' := [(4, .ref q9), (0, .ref (a 30)), (1, .int v1), (2, .int v2), (3, .ref o)]) (pc2 := 15) C dL_colour_13 (by decide) rfl rfl ?_
      refine q_iconst (v := 1) (pc2 := 16) C dL_colour_15 (by decide) rfl ?_
      exact q_zretX C hQ rfl rfl (ocC_of hE) (ocS_of hE) dL_colour_16 ⟨by rw [hE]; decide +kernel, by rw [hE]; rfl⟩
    obtain hm1 := List.mem_singleton.mp hm
    subst hm1
    refine q_catch (pc2 := 17) (E := eA) C htab 1 (q := (0, 10, 17, 15)) rfl (fun z hz => by obtain rfl := List.mem_singleton.mp hz; exact ⟨by decide, _, (by decide +kernel : Cond.classLink yL_colour.cls 13 eI ∈ wsL_colour), by decide +kernel⟩) (by decide) (by decide) (by decide +kernel) (by decide +kernel) rfl (fun q9 => ?_)
    refine q_astore (lv' := [(4, .ref q9), (0, .ref (a 30)), (1, .int v1), (2, .int v2), (3, .ref o)]) (pc2 := 19) C dL_colour_17 (by decide) rfl rfl ?_
    refine q_iconst (v := 2) (pc2 := 20) C dL_colour_19 (by decide) rfl ?_
    exact q_zretX C hQ rfl rfl (ocC_of hE) (ocS_of hE) dL_colour_20 ⟨by rw [hE]; decide +kernel, by rw [hE]; rfl⟩
  · skip
    refine q_i2l (pc2 := 9) C dL_colour_8 rfl rfl ?_
    refine q_last (ws' := wXo ct a o (vp_updL g 0 r.toInt64) x') (pc2 := 10) C 0 (wXo_g26 ct a o g x') rfl rfl (by decide) (by decide) (wXo_a26 ct a o g _ x') dL_colour_9 rfl ?_
    refine q_goto (pc2 := 21) C dL_colour_10 (by decide) ?_
    refine q_iconst (v := 0) (pc2 := 22) C dL_colour_21 (by decide) rfl ?_
    exact q_zretX C hQ rfl rfl (Nat.zero_le _) (Nat.zero_le _) dL_colour_22 ⟨by rw [hE]; rfl, by rw [hE]; rfl⟩

