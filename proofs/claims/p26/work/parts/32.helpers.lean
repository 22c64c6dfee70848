/-! the law's helpers: each road calls one method of the class and turns what it throws into a number -/
section QCATCH
variable {p : Program} {l : Launch} {e : Env} {R : Room} {s : State} {m : MethodId} {args : Array Value} {below : List Frame} {meth : Method} {c : Code} {D : va_G} {ct : Nat → ClassId} {A : Nat → Prop} {nL cells slots : Nat} {Q : State → Prop}
variable {cc : ByteArray} {ret : Option FieldType} {Ts : List Cond} {own : String} {pc pc2 : Nat} {lv : List (Nat × Value)} {st : List Value} {ws : va_W}
theorem q_catch (C : Cx p s m args c meth cc nL ret Ts own D ct A) {hh : List (Nat × Nat × Nat × Nat)} (htab : c.exceptionTable.toList = tableOf hh) (k : Nat) {q : Nat × Nat × Nat × Nat} (hk : hh = hh.take k ++ q :: hh.drop (k + 1)) {E : String}
    (hpass : ∀ z ∈ hh.take k, z.2.2.2 ≠ 0 ∧ ∃ nm : String, Cond.classLink own z.2.2.2 nm ∈ Ts ∧ (E, nm) ∈ qNC) (hcov : covers ⟨q.1, q.2.1, q.2.2.1, q.2.2.2⟩ pc = true) (h0 : q.2.2.2 ≠ 0) (hlink : Cond.classLink own q.2.2.2 E ∈ Ts) (hca : E ∈ qCA) (hpc : q.2.2.1 = pc2)
    (kk : ∀ q9 : Nat, Cf p l e R s m args below meth c D A nL cells slots Q pc2 lv [.ref q9] ws) : CfX p l e R s m args below meth c D A nL cells slots Q pc lv st ws E := by
  subst hpc
  intro H locs ls ce q9 hP hD hS hl h1 h2 h3
  refine vx_catch (name := E) C.1.2.2.2.1 (tableOf (hh.take k)) ⟨q.1, q.2.1, q.2.2.1, q.2.2.2⟩ (tableOf (hh.drop (k + 1))) ?_ ?_ hcov h0 (C.w _ hlink) (va_Nw.use rfl (C.2.1.2.2.2.2.2.1 E hca)) h1 h2 h3 (kk q9 H locs ls hP hD hS hl)
  · rw [htab]
    show tableOf hh = _
    conv => lhs; rw [hk]
    show List.map _ _ = _
    rw [List.map_append]; rfl
  · intro z hz
    obtain ⟨w, hw, rfl⟩ := List.mem_map.mp hz
    obtain ⟨a1, nm, a2, a3⟩ := hpass w hw
    exact Or.inr ⟨a1, nm, C.w _ a2, C.2.1.2.2.2.2.1 _ a3⟩
end QCATCH
set_option maxHeartbeats 4000000 in
set_option maxRecDepth 100000 in
theorem c_L_hangs0 (l : Launch) (D : va_G) (ct : Nat → ClassId) (a : Nat → Nat) (x x' : Nat → Nat → Int32) (v1 v2 v3 : Int32) (oc : Option String) (r : Int32) (hM : qMX l yX3_bar wsX3_bar ({ frames := 7, cells := ocC oc, slots := ocS oc, locals := 112 }) D ct [.ref (a 30), .int v1, .int v2, .int v3] (wX ct a x) (qDo oc (some (.int r)) (wX ct a x')) (qDx oc (wX ct a x)) (ocC oc) (ocS oc)) (hoc : ∀ E, oc = some E → E ∈ ([eI, eA, eS] : List String)) : qMX l yL_hangs wsL_hangs ({ frames := 8, cells := ocC oc, slots := ocS oc, locals := 135 }) D ct [.ref (a 30), .int (nI 0), .int v1, .int v2, .int v3] (wX ct a x) (qD (some (.int (hcd [eI, eA, eS] r oc))) (wXq ct a x x' oc)) (fun _ _ => False) (ocC oc) (ocS oc) := by
  refine q_startH (ret := some .int) (lv := [(0, .ref (a 30)), (1, .int (nI 0)), (2, .int v1), (3, .int v2), (4, .int v3)]) (by decide +kernel) rfl (Nat.le_of_ble_eq_true rfl) rfl ?_
  intro p e s m args below meth c A Q C hQ htab
  refine q_iload_n (pc2 := 1) C 1 dL_hangs_0 rfl rfl rfl ?_
  refine q_if_ne (tgt := 15) (pc2 := 4) C dL_hangs_1 (by decide) rfl (fun h9 => absurd (by decide) h9) (fun _ => ?_)
  refine q_aload_n (pc2 := 5) C 0 dL_hangs_4 rfl rfl rfl ?_
  refine q_iload_n (pc2 := 6) C 2 dL_hangs_5 rfl rfl rfl ?_
  refine q_iload_n (pc2 := 7) C 3 dL_hangs_6 rfl rfl rfl ?_
  refine q_iload (pc2 := 9) C 4 dL_hangs_7 rfl rfl ?_
  refine q_tV (pc2 := 12) (As := [.int v1, .int v2, .int v3]) (b := a 30) (st := []) (st2 := [.int r]) (q0 := 0) (w2 := wX ct a x') C hM (cwV 3 C.w gL_hangs_X3_bar rfl rfl rfl (by decide +kernel) ⟨Nat.le_of_ble_eq_true rfl, Nat.le_of_ble_eq_true rfl⟩) (wX_g0 ct a x) rfl [0, 1, 2, 3, 4, 5, 6, 7, 8, 9, 10, 11, 12, 13, 14, 15, 16, 17, 18, 19, 20, 21, 22, 23, 24, 25] [] [0, 1, 2, 3, 4, 5, 6, 7, 8, 9, 10, 11, 12, 13, 14, 15, 16, 17, 18, 19, 20, 21, 22, 23, 24, 25] (wX_S ct a x) rfl (by decide) (by decide) (by decide) (wX_S ct a x') (by decide) (wX_S ct a x) dL_hangs_9 rfl rfl (Nat.le_of_ble_eq_true rfl) ⟨Nat.le_of_eq (Nat.zero_add _), Nat.le_of_eq (Nat.zero_add _)⟩ rfl rfl (fun E hE => ?_) (fun hE => ?_)
  · have hm := hoc E hE
    rcases List.mem_cons.mp hm with hm1 | hm
    · subst hm1
      refine q_catch (pc2 := 24) (E := eI) C htab 0 (q := (0, 23, 24, 36)) rfl (fun z hz => nomatch hz) (by decide) (by decide) (by decide +kernel) (by decide +kernel) rfl (fun q9 => ?_)
      refine q_astore (lv' := [(5, .ref q9), (0, .ref (a 30)), (1, .int (nI 0)), (2, .int v1), (3, .int v2), (4, .int v3)]) (pc2 := 26) C dL_hangs_24 (by decide) rfl rfl ?_
      refine q_bipush (v := (-101)) (pc2 := 28) C dL_hangs_26 (by decide) rfl ?_
      exact q_zretX C hQ rfl rfl (ocC_of hE) (ocS_of hE) dL_hangs_28 ⟨by rw [hE]; rfl, by rw [hE]; rfl⟩
    rcases List.mem_cons.mp hm with hm1 | hm
    · subst hm1
      refine q_catch (pc2 := 29) (E := eA) C htab 1 (q := (0, 23, 29, 38)) rfl (fun z hz => by obtain rfl := List.mem_singleton.mp hz; exact ⟨by decide, _, (by decide +kernel : Cond.classLink yL_hangs.cls 36 eI ∈ wsL_hangs), by decide +kernel⟩) (by decide) (by decide) (by decide +kernel) (by decide +kernel) rfl (fun q9 => ?_)
      refine q_astore (lv' := [(5, .ref q9), (0, .ref (a 30)), (1, .int (nI 0)), (2, .int v1), (3, .int v2), (4, .int v3)]) (pc2 := 31) C dL_hangs_29 (by decide) rfl rfl ?_
      refine q_bipush (v := (-102)) (pc2 := 33) C dL_hangs_31 (by decide) rfl ?_
      exact q_zretX C hQ rfl rfl (ocC_of hE) (ocS_of hE) dL_hangs_33 ⟨by rw [hE]; rfl, by rw [hE]; rfl⟩
    obtain hm1 := List.mem_singleton.mp hm
    subst hm1
    refine q_catch (pc2 := 34) (E := eS) C htab 2 (q := (0, 23, 34, 40)) rfl (fun z hz => by rcases List.mem_cons.mp hz with rfl | hz2; exact ⟨by decide, _, (by decide +kernel : Cond.classLink yL_hangs.cls 36 eI ∈ wsL_hangs), by decide +kernel⟩; obtain rfl := List.mem_singleton.mp hz2; exact ⟨by decide, _, (by decide +kernel : Cond.classLink yL_hangs.cls 38 eA ∈ wsL_hangs), by decide +kernel⟩) (by decide) (by decide) (by decide +kernel) (by decide +kernel) rfl (fun q9 => ?_)
    refine q_astore (lv' := [(5, .ref q9), (0, .ref (a 30)), (1, .int (nI 0)), (2, .int v1), (3, .int v2), (4, .int v3)]) (pc2 := 36) C dL_hangs_34 (by decide) rfl rfl ?_
    refine q_bipush (v := (-103)) (pc2 := 38) C dL_hangs_36 (by decide) rfl ?_
    exact q_zretX C hQ rfl rfl (ocC_of hE) (ocS_of hE) dL_hangs_38 ⟨by rw [hE]; rfl, by rw [hE]; rfl⟩
  · skip
    refine q_goto (pc2 := 23) C dL_hangs_12 (by decide) ?_
    exact q_zretX C hQ rfl rfl (Nat.zero_le _) (Nat.zero_le _) dL_hangs_23 ⟨by rw [hE]; rfl, by rw [hE]; rfl⟩

set_option maxHeartbeats 4000000 in
set_option maxRecDepth 100000 in
theorem c_L_hangs1 (l : Launch) (D : va_G) (ct : Nat → ClassId) (a : Nat → Nat) (x x' : Nat → Nat → Int32) (v1 v2 v3 : Int32) (oc : Option String) (r : Int32) (hM : qMX l yX3_hang wsX3_hang ({ frames := 7, cells := ocC oc, slots := ocS oc, locals := 111 }) D ct [.ref (a 30), .int v1, .int v2, .int v3] (wX ct a x) (qDo oc (some (.int r)) (wX ct a x')) (qDx oc (wX ct a x)) (ocC oc) (ocS oc)) (hoc : ∀ E, oc = some E → E ∈ ([eI, eA, eS] : List String)) : qMX l yL_hangs wsL_hangs ({ frames := 8, cells := ocC oc, slots := ocS oc, locals := 134 }) D ct [.ref (a 30), .int (nI 1), .int v1, .int v2, .int v3] (wX ct a x) (qD (some (.int (hcd [eI, eA, eS] r oc))) (wXq ct a x x' oc)) (fun _ _ => False) (ocC oc) (ocS oc) := by
  refine q_startH (ret := some .int) (lv := [(0, .ref (a 30)), (1, .int (nI 1)), (2, .int v1), (3, .int v2), (4, .int v3)]) (by decide +kernel) rfl (Nat.le_of_ble_eq_true rfl) rfl ?_
  intro p e s m args below meth c A Q C hQ htab
  refine q_iload_n (pc2 := 1) C 1 dL_hangs_0 rfl rfl rfl ?_
  refine q_if_ne (tgt := 15) (pc2 := 4) C dL_hangs_1 (by decide) rfl (fun _ => ?_) (fun h9 => absurd h9 (by decide))
  refine q_aload_n (pc2 := 16) C 0 dL_hangs_15 rfl rfl rfl ?_
  refine q_iload_n (pc2 := 17) C 2 dL_hangs_16 rfl rfl rfl ?_
  refine q_iload_n (pc2 := 18) C 3 dL_hangs_17 rfl rfl rfl ?_
  refine q_iload (pc2 := 20) C 4 dL_hangs_18 rfl rfl ?_
  refine q_tV (pc2 := 23) (As := [.int v1, .int v2, .int v3]) (b := a 30) (st := []) (st2 := [.int r]) (q0 := 0) (w2 := wX ct a x') C hM (cwV 3 C.w gL_hangs_X3_hang rfl rfl rfl (by decide +kernel) ⟨Nat.le_of_ble_eq_true rfl, Nat.le_of_ble_eq_true rfl⟩) (wX_g0 ct a x) rfl [0, 1, 2, 3, 4, 5, 6, 7, 8, 9, 10, 11, 12, 13, 14, 15, 16, 17, 18, 19, 20, 21, 22, 23, 24, 25] [] [0, 1, 2, 3, 4, 5, 6, 7, 8, 9, 10, 11, 12, 13, 14, 15, 16, 17, 18, 19, 20, 21, 22, 23, 24, 25] (wX_S ct a x) rfl (by decide) (by decide) (by decide) (wX_S ct a x') (by decide) (wX_S ct a x) dL_hangs_20 rfl rfl (Nat.le_of_ble_eq_true rfl) ⟨Nat.le_of_eq (Nat.zero_add _), Nat.le_of_eq (Nat.zero_add _)⟩ rfl rfl (fun E hE => ?_) (fun hE => ?_)
  · have hm := hoc E hE
    rcases List.mem_cons.mp hm with hm1 | hm
    · subst hm1
      refine q_catch (pc2 := 24) (E := eI) C htab 0 (q := (0, 23, 24, 36)) rfl (fun z hz => nomatch hz) (by decide) (by decide) (by decide +kernel) (by decide +kernel) rfl (fun q9 => ?_)
      refine q_astore (lv' := [(5, .ref q9), (0, .ref (a 30)), (1, .int (nI 1)), (2, .int v1), (3, .int v2), (4, .int v3)]) (pc2 := 26) C dL_hangs_24 (by decide) rfl rfl ?_
      refine q_bipush (v := (-101)) (pc2 := 28) C dL_hangs_26 (by decide) rfl ?_
      exact q_zretX C hQ rfl rfl (ocC_of hE) (ocS_of hE) dL_hangs_28 ⟨by rw [hE]; rfl, by rw [hE]; rfl⟩
    rcases List.mem_cons.mp hm with hm1 | hm
    · subst hm1
      refine q_catch (pc2 := 29) (E := eA) C htab 1 (q := (0, 23, 29, 38)) rfl (fun z hz => by obtain rfl := List.mem_singleton.mp hz; exact ⟨by decide, _, (by decide +kernel : Cond.classLink yL_hangs.cls 36 eI ∈ wsL_hangs), by decide +kernel⟩) (by decide) (by decide) (by decide +kernel) (by decide +kernel) rfl (fun q9 => ?_)
      refine q_astore (lv' := [(5, .ref q9), (0, .ref (a 30)), (1, .int (nI 1)), (2, .int v1), (3, .int v2), (4, .int v3)]) (pc2 := 31) C dL_hangs_29 (by decide) rfl rfl ?_
      refine q_bipush (v := (-102)) (pc2 := 33) C dL_hangs_31 (by decide) rfl ?_
      exact q_zretX C hQ rfl rfl (ocC_of hE) (ocS_of hE) dL_hangs_33 ⟨by rw [hE]; rfl, by rw [hE]; rfl⟩
    obtain hm1 := List.mem_singleton.mp hm
    subst hm1
    refine q_catch (pc2 := 34) (E := eS) C htab 2 (q := (0, 23, 34, 40)) rfl (fun z hz => by rcases List.mem_cons.mp hz with rfl | hz2; exact ⟨by decide, _, (by decide +kernel : Cond.classLink yL_hangs.cls 36 eI ∈ wsL_hangs), by decide +kernel⟩; obtain rfl := List.mem_singleton.mp hz2; exact ⟨by decide, _, (by decide +kernel : Cond.classLink yL_hangs.cls 38 eA ∈ wsL_hangs), by decide +kernel⟩) (by decide) (by decide) (by decide +kernel) (by decide +kernel) rfl (fun q9 => ?_)
    refine q_astore (lv' := [(5, .ref q9), (0, .ref (a 30)), (1, .int (nI 1)), (2, .int v1), (3, .int v2), (4, .int v3)]) (pc2 := 36) C dL_hangs_34 (by decide) rfl rfl ?_
    refine q_bipush (v := (-103)) (pc2 := 38) C dL_hangs_36 (by decide) rfl ?_
    exact q_zretX C hQ rfl rfl (ocC_of hE) (ocS_of hE) dL_hangs_38 ⟨by rw [hE]; rfl, by rw [hE]; rfl⟩
  · skip
    exact q_zretX C hQ rfl rfl (Nat.zero_le _) (Nat.zero_le _) dL_hangs_23 ⟨by rw [hE]; rfl, by rw [hE]; rfl⟩

set_option maxHeartbeats 4000000 in
set_option maxRecDepth 100000 in
theorem c_L_made0 (l : Launch) (D : va_G) (ct : Nat → ClassId) (a : Nat → Nat) (x x' : Nat → Nat → Int32) (v1 v2 v3 : Int32) (oc : Option String) (r : Int32) (hM : qMX l yX3_lamp wsX3_lamp ({ frames := 7, cells := ocC oc, slots := ocS oc, locals := 112 }) D ct [.ref (a 30), .int v1, .int v2] (wX ct a x) (qDo oc (some (.int r)) (wX ct a x')) (qDx oc (wX ct a x)) (ocC oc) (ocS oc)) (hoc : ∀ E, oc = some E → E ∈ ([eA, eS] : List String)) : qMX l yL_made wsL_made ({ frames := 8, cells := ocC oc, slots := ocS oc, locals := 135 }) D ct [.ref (a 30), .int (nI 0), .int v1, .int v2, .int v3] (wX ct a x) (qD (some (.int (hcd [eA, eS] r oc))) (wXq ct a x x' oc)) (fun _ _ => False) (ocC oc) (ocS oc) := by
  refine q_startH (ret := some .int) (lv := [(0, .ref (a 30)), (1, .int (nI 0)), (2, .int v1), (3, .int v2), (4, .int v3)]) (by decide +kernel) rfl (Nat.le_of_ble_eq_true rfl) rfl ?_
  intro p e s m args below meth c A Q C hQ htab
  refine q_iload_n (pc2 := 1) C 1 dL_made_0 rfl rfl rfl ?_
  refine q_if_ne (tgt := 13) (pc2 := 4) C dL_made_1 (by decide) rfl (fun h9 => absurd (by decide) h9) (fun _ => ?_)
  refine q_aload_n (pc2 := 5) C 0 dL_made_4 rfl rfl rfl ?_
  refine q_iload_n (pc2 := 6) C 2 dL_made_5 rfl rfl rfl ?_
  refine q_iload_n (pc2 := 7) C 3 dL_made_6 rfl rfl rfl ?_
  refine q_tV (pc2 := 10) (As := [.int v1, .int v2]) (b := a 30) (st := []) (st2 := [.int r]) (q0 := 0) (w2 := wX ct a x') C hM (cwV 2 C.w gL_made_X3_lamp rfl rfl rfl (by decide +kernel) ⟨Nat.le_of_ble_eq_true rfl, Nat.le_of_ble_eq_true rfl⟩) (wX_g0 ct a x) rfl [0, 1, 2, 3, 4, 5, 6, 7, 8, 9, 10, 11, 12, 13, 14, 15, 16, 17, 18, 19, 20, 21, 22, 23, 24, 25] [] [0, 1, 2, 3, 4, 5, 6, 7, 8, 9, 10, 11, 12, 13, 14, 15, 16, 17, 18, 19, 20, 21, 22, 23, 24, 25] (wX_S ct a x) rfl (by decide) (by decide) (by decide) (wX_S ct a x') (by decide) (wX_S ct a x) dL_made_7 rfl rfl (Nat.le_of_ble_eq_true rfl) ⟨Nat.le_of_eq (Nat.zero_add _), Nat.le_of_eq (Nat.zero_add _)⟩ rfl rfl (fun E hE => ?_) (fun hE => ?_)
  · have hm := hoc E hE
    rcases List.mem_cons.mp hm with hm1 | hm
    · subst hm1
      refine q_catch (pc2 := 22) (E := eA) C htab 0 (q := (0, 21, 22, 38)) rfl (fun z hz => nomatch hz) (by decide) (by decide) (by decide +kernel) (by decide +kernel) rfl (fun q9 => ?_)
      refine q_astore (lv' := [(5, .ref q9), (0, .ref (a 30)), (1, .int (nI 0)), (2, .int v1), (3, .int v2), (4, .int v3)]) (pc2 := 24) C dL_made_22 (by decide) rfl rfl ?_
      refine q_bipush (v := (-101)) (pc2 := 26) C dL_made_24 (by decide) rfl ?_
      exact q_zretX C hQ rfl rfl (ocC_of hE) (ocS_of hE) dL_made_26 ⟨by rw [hE]; rfl, by rw [hE]; rfl⟩
    obtain hm1 := List.mem_singleton.mp hm
    subst hm1
    refine q_catch (pc2 := 27) (E := eS) C htab 1 (q := (0, 21, 27, 40)) rfl (fun z hz => by obtain rfl := List.mem_singleton.mp hz; exact ⟨by decide, _, (by decide +kernel : Cond.classLink yL_made.cls 38 eA ∈ wsL_made), by decide +kernel⟩) (by decide) (by decide) (by decide +kernel) (by decide +kernel) rfl (fun q9 => ?_)
    refine q_astore (lv' := [(5, .ref q9), (0, .ref (a 30)), (1, .int (nI 0)), (2, .int v1), (3, .int v2), (4, .int v3)]) (pc2 := 29) C dL_made_27 (by decide) rfl rfl ?_
    refine q_bipush (v := (-102)) (pc2 := 31) C dL_made_29 (by decide) rfl ?_
    exact q_zretX C hQ rfl rfl (ocC_of hE) (ocS_of hE) dL_made_31 ⟨by rw [hE]; rfl, by rw [hE]; rfl⟩
  · skip
    refine q_goto (pc2 := 21) C dL_made_10 (by decide) ?_
    exact q_zretX C hQ rfl rfl (Nat.zero_le _) (Nat.zero_le _) dL_made_21 ⟨by rw [hE]; rfl, by rw [hE]; rfl⟩

set_option maxHeartbeats 4000000 in
set_option maxRecDepth 100000 in
theorem c_L_made1 (l : Launch) (D : va_G) (ct : Nat → ClassId) (a : Nat → Nat) (x x' : Nat → Nat → Int32) (v1 v2 v3 : Int32) (oc : Option String) (r : Int32) (hM : qMX l yX3_cue wsX3_cue ({ frames := 7, cells := ocC oc, slots := ocS oc, locals := 112 }) D ct [.ref (a 30), .int v1, .int v2, .int v3] (wX ct a x) (qDo oc (some (.int r)) (wX ct a x')) (qDx oc (wX ct a x)) (ocC oc) (ocS oc)) (hoc : ∀ E, oc = some E → E ∈ ([eA, eS] : List String)) : qMX l yL_made wsL_made ({ frames := 8, cells := ocC oc, slots := ocS oc, locals := 135 }) D ct [.ref (a 30), .int (nI 1), .int v1, .int v2, .int v3] (wX ct a x) (qD (some (.int (hcd [eA, eS] r oc))) (wXq ct a x x' oc)) (fun _ _ => False) (ocC oc) (ocS oc) := by
  refine q_startH (ret := some .int) (lv := [(0, .ref (a 30)), (1, .int (nI 1)), (2, .int v1), (3, .int v2), (4, .int v3)]) (by decide +kernel) rfl (Nat.le_of_ble_eq_true rfl) rfl ?_
  intro p e s m args below meth c A Q C hQ htab
  refine q_iload_n (pc2 := 1) C 1 dL_made_0 rfl rfl rfl ?_
  refine q_if_ne (tgt := 13) (pc2 := 4) C dL_made_1 (by decide) rfl (fun _ => ?_) (fun h9 => absurd h9 (by decide))
  refine q_aload_n (pc2 := 14) C 0 dL_made_13 rfl rfl rfl ?_
  refine q_iload_n (pc2 := 15) C 2 dL_made_14 rfl rfl rfl ?_
  refine q_iload_n (pc2 := 16) C 3 dL_made_15 rfl rfl rfl ?_
  refine q_iload (pc2 := 18) C 4 dL_made_16 rfl rfl ?_
  refine q_tV (pc2 := 21) (As := [.int v1, .int v2, .int v3]) (b := a 30) (st := []) (st2 := [.int r]) (q0 := 0) (w2 := wX ct a x') C hM (cwV 3 C.w gL_made_X3_cue rfl rfl rfl (by decide +kernel) ⟨Nat.le_of_ble_eq_true rfl, Nat.le_of_ble_eq_true rfl⟩) (wX_g0 ct a x) rfl [0, 1, 2, 3, 4, 5, 6, 7, 8, 9, 10, 11, 12, 13, 14, 15, 16, 17, 18, 19, 20, 21, 22, 23, 24, 25] [] [0, 1, 2, 3, 4, 5, 6, 7, 8, 9, 10, 11, 12, 13, 14, 15, 16, 17, 18, 19, 20, 21, 22, 23, 24, 25] (wX_S ct a x) rfl (by decide) (by decide) (by decide) (wX_S ct a x') (by decide) (wX_S ct a x) dL_made_18 rfl rfl (Nat.le_of_ble_eq_true rfl) ⟨Nat.le_of_eq (Nat.zero_add _), Nat.le_of_eq (Nat.zero_add _)⟩ rfl rfl (fun E hE => ?_) (fun hE => ?_)
  · have hm := hoc E hE
    rcases List.mem_cons.mp hm with hm1 | hm
    · subst hm1
      refine q_catch (pc2 := 22) (E := eA) C htab 0 (q := (0, 21, 22, 38)) rfl (fun z hz => nomatch hz) (by decide) (by decide) (by decide +kernel) (by decide +kernel) rfl (fun q9 => ?_)
      refine q_astore (lv' := [(5, .ref q9), (0, .ref (a 30)), (1, .int (nI 1)), (2, .int v1), (3, .int v2), (4, .int v3)]) (pc2 := 24) C dL_made_22 (by decide) rfl rfl ?_
      refine q_bipush (v := (-101)) (pc2 := 26) C dL_made_24 (by decide) rfl ?_
      exact q_zretX C hQ rfl rfl (ocC_of hE) (ocS_of hE) dL_made_26 ⟨by rw [hE]; rfl, by rw [hE]; rfl⟩
    obtain hm1 := List.mem_singleton.mp hm
    subst hm1
    refine q_catch (pc2 := 27) (E := eS) C htab 1 (q := (0, 21, 27, 40)) rfl (fun z hz => by obtain rfl := List.mem_singleton.mp hz; exact ⟨by decide, _, (by decide +kernel : Cond.classLink yL_made.cls 38 eA ∈ wsL_made), by decide +kernel⟩) (by decide) (by decide) (by decide +kernel) (by decide +kernel) rfl (fun q9 => ?_)
    refine q_astore (lv' := [(5, .ref q9), (0, .ref (a 30)), (1, .int (nI 1)), (2, .int v1), (3, .int v2), (4, .int v3)]) (pc2 := 29) C dL_made_27 (by decide) rfl rfl ?_
    refine q_bipush (v := (-102)) (pc2 := 31) C dL_made_29 (by decide) rfl ?_
    exact q_zretX C hQ rfl rfl (ocC_of hE) (ocS_of hE) dL_made_31 ⟨by rw [hE]; rfl, by rw [hE]; rfl⟩
  · skip
    exact q_zretX C hQ rfl rfl (Nat.zero_le _) (Nat.zero_le _) dL_made_21 ⟨by rw [hE]; rfl, by rw [hE]; rfl⟩

set_option maxHeartbeats 4000000 in
set_option maxRecDepth 100000 in
theorem c_L_set0 (l : Launch) (D : va_G) (ct : Nat → ClassId) (a : Nat → Nat) (x x' : Nat → Nat → Int32) (v1 v2 v3 : Int32) (oc : Option String) (r : Int32) (hM : qMX l yX3_patch wsX3_patch ({ frames := 7, cells := ocC oc, slots := ocS oc, locals := 112 }) D ct [.ref (a 30), .int v1, .int v2] (wX ct a x) (qDo oc (some (.int r)) (wX ct a x')) (qDx oc (wX ct a x)) (ocC oc) (ocS oc)) (hoc : ∀ E, oc = some E → E ∈ ([eI, eA, eS] : List String)) : qMX l yL_set wsL_set ({ frames := 8, cells := ocC oc, slots := ocS oc, locals := 134 }) D ct [.ref (a 30), .int (nI 0), .int v1, .int v2, .int v3] (wX ct a x) (qD (some (.int (hcd [eI, eA, eS] r oc))) (wXq ct a x x' oc)) (fun _ _ => False) (ocC oc) (ocS oc) := by
  refine q_startH (ret := some .int) (lv := [(0, .ref (a 30)), (1, .int (nI 0)), (2, .int v1), (3, .int v2), (4, .int v3)]) (by decide +kernel) rfl (Nat.le_of_ble_eq_true rfl) rfl ?_
  intro p e s m args below meth c A Q C hQ htab
  refine q_iload_n (pc2 := 1) C 1 dL_set_0 rfl rfl rfl ?_
  refine q_if_ne (tgt := 13) (pc2 := 4) C dL_set_1 (by decide) rfl (fun h9 => absurd (by decide) h9) (fun _ => ?_)
  refine q_aload_n (pc2 := 5) C 0 dL_set_4 rfl rfl rfl ?_
  refine q_iload_n (pc2 := 6) C 2 dL_set_5 rfl rfl rfl ?_
  refine q_iload_n (pc2 := 7) C 3 dL_set_6 rfl rfl rfl ?_
  refine q_tV (pc2 := 10) (As := [.int v1, .int v2]) (b := a 30) (st := []) (st2 := [.int r]) (q0 := 0) (w2 := wX ct a x') C hM (cwV 2 C.w gL_set_X3_patch rfl rfl rfl (by decide +kernel) ⟨Nat.le_of_ble_eq_true rfl, Nat.le_of_ble_eq_true rfl⟩) (wX_g0 ct a x) rfl [0, 1, 2, 3, 4, 5, 6, 7, 8, 9, 10, 11, 12, 13, 14, 15, 16, 17, 18, 19, 20, 21, 22, 23, 24, 25] [] [0, 1, 2, 3, 4, 5, 6, 7, 8, 9, 10, 11, 12, 13, 14, 15, 16, 17, 18, 19, 20, 21, 22, 23, 24, 25] (wX_S ct a x) rfl (by decide) (by decide) (by decide) (wX_S ct a x') (by decide) (wX_S ct a x) dL_set_7 rfl rfl (Nat.le_of_ble_eq_true rfl) ⟨Nat.le_of_eq (Nat.zero_add _), Nat.le_of_eq (Nat.zero_add _)⟩ rfl rfl (fun E hE => ?_) (fun hE => ?_)
  · have hm := hoc E hE
    rcases List.mem_cons.mp hm with hm1 | hm
    · subst hm1
      refine q_catch (pc2 := 50) (E := eI) C htab 0 (q := (0, 49, 50, 36)) rfl (fun z hz => nomatch hz) (by decide) (by decide) (by decide +kernel) (by decide +kernel) rfl (fun q9 => ?_)
      refine q_astore (lv' := [(5, .ref q9), (0, .ref (a 30)), (1, .int (nI 0)), (2, .int v1), (3, .int v2), (4, .int v3)]) (pc2 := 52) C dL_set_50 (by decide) rfl rfl ?_
      refine q_bipush (v := (-101)) (pc2 := 54) C dL_set_52 (by decide) rfl ?_
      exact q_zretX C hQ rfl rfl (ocC_of hE) (ocS_of hE) dL_set_54 ⟨by rw [hE]; rfl, by rw [hE]; rfl⟩
    rcases List.mem_cons.mp hm with hm1 | hm
    · subst hm1
      refine q_catch (pc2 := 55) (E := eA) C htab 1 (q := (0, 49, 55, 38)) rfl (fun z hz => by obtain rfl := List.mem_singleton.mp hz; exact ⟨by decide, _, (by decide +kernel : Cond.classLink yL_set.cls 36 eI ∈ wsL_set), by decide +kernel⟩) (by decide) (by decide) (by decide +kernel) (by decide +kernel) rfl (fun q9 => ?_)
      refine q_astore (lv' := [(5, .ref q9), (0, .ref (a 30)), (1, .int (nI 0)), (2, .int v1), (3, .int v2), (4, .int v3)]) (pc2 := 57) C dL_set_55 (by decide) rfl rfl ?_
      refine q_bipush (v := (-102)) (pc2 := 59) C dL_set_57 (by decide) rfl ?_
      exact q_zretX C hQ rfl rfl (ocC_of hE) (ocS_of hE) dL_set_59 ⟨by rw [hE]; rfl, by rw [hE]; rfl⟩
    obtain hm1 := List.mem_singleton.mp hm
    subst hm1
    refine q_catch (pc2 := 60) (E := eS) C htab 2 (q := (0, 49, 60, 40)) rfl (fun z hz => by rcases List.mem_cons.mp hz with rfl | hz2; exact ⟨by decide, _, (by decide +kernel : Cond.classLink yL_set.cls 36 eI ∈ wsL_set), by decide +kernel⟩; obtain rfl := List.mem_singleton.mp hz2; exact ⟨by decide, _, (by decide +kernel : Cond.classLink yL_set.cls 38 eA ∈ wsL_set), by decide +kernel⟩) (by decide) (by decide) (by decide +kernel) (by decide +kernel) rfl (fun q9 => ?_)
    refine q_astore (lv' := [(5, .ref q9), (0, .ref (a 30)), (1, .int (nI 0)), (2, .int v1), (3, .int v2), (4, .int v3)]) (pc2 := 62) C dL_set_60 (by decide) rfl rfl ?_
    refine q_bipush (v := (-103)) (pc2 := 64) C dL_set_62 (by decide) rfl ?_
    exact q_zretX C hQ rfl rfl (ocC_of hE) (ocS_of hE) dL_set_64 ⟨by rw [hE]; rfl, by rw [hE]; rfl⟩
  · skip
    refine q_goto (pc2 := 49) C dL_set_10 (by decide) ?_
    exact q_zretX C hQ rfl rfl (Nat.zero_le _) (Nat.zero_le _) dL_set_49 ⟨by rw [hE]; rfl, by rw [hE]; rfl⟩

set_option maxHeartbeats 4000000 in
set_option maxRecDepth 100000 in
theorem c_L_set1 (l : Launch) (D : va_G) (ct : Nat → ClassId) (a : Nat → Nat) (x x' : Nat → Nat → Int32) (v1 v2 v3 : Int32) (oc : Option String) (r : Int32) (hM : qMX l yX3_name wsX3_name ({ frames := 7, cells := ocC oc, slots := ocS oc, locals := 112 }) D ct [.ref (a 30), .int v1, .int v2, .int v3] (wX ct a x) (qDo oc (some (.int r)) (wX ct a x')) (qDx oc (wX ct a x)) (ocC oc) (ocS oc)) (hoc : ∀ E, oc = some E → E ∈ ([eI, eA, eS] : List String)) : qMX l yL_set wsL_set ({ frames := 8, cells := ocC oc, slots := ocS oc, locals := 137 }) D ct [.ref (a 30), .int (nI 1), .int v1, .int v2, .int v3] (wX ct a x) (qD (some (.int (hcd [eI, eA, eS] r oc))) (wXq ct a x x' oc)) (fun _ _ => False) (ocC oc) (ocS oc) := by
  refine q_startH (ret := some .int) (lv := [(0, .ref (a 30)), (1, .int (nI 1)), (2, .int v1), (3, .int v2), (4, .int v3)]) (by decide +kernel) rfl (Nat.le_of_ble_eq_true rfl) rfl ?_
  intro p e s m args below meth c A Q C hQ htab
  refine q_iload_n (pc2 := 1) C 1 dL_set_0 rfl rfl rfl ?_
  refine q_if_ne (tgt := 13) (pc2 := 4) C dL_set_1 (by decide) rfl (fun _ => ?_) (fun h9 => absurd h9 (by decide))
  refine q_iload_n (pc2 := 14) C 1 dL_set_13 rfl rfl rfl ?_
  refine q_iconst (v := nI 1) (pc2 := 15) C dL_set_14 (by decide) rfl ?_
  refine q_icmp_ne (tgt := 29) (pc2 := 18) C dL_set_15 (by decide) rfl (fun h9 => absurd (by decide) h9) (fun _ => ?_)
  refine q_aload_n (pc2 := 19) C 0 dL_set_18 rfl rfl rfl ?_
  refine q_iload_n (pc2 := 20) C 2 dL_set_19 rfl rfl rfl ?_
  refine q_iload_n (pc2 := 21) C 3 dL_set_20 rfl rfl rfl ?_
  refine q_iload (pc2 := 23) C 4 dL_set_21 rfl rfl ?_
  refine q_tV (pc2 := 26) (As := [.int v1, .int v2, .int v3]) (b := a 30) (st := []) (st2 := [.int r]) (q0 := 0) (w2 := wX ct a x') C hM (cwV 3 C.w gL_set_X3_name rfl rfl rfl (by decide +kernel) ⟨Nat.le_of_ble_eq_true rfl, Nat.le_of_ble_eq_true rfl⟩) (wX_g0 ct a x) rfl [0, 1, 2, 3, 4, 5, 6, 7, 8, 9, 10, 11, 12, 13, 14, 15, 16, 17, 18, 19, 20, 21, 22, 23, 24, 25] [] [0, 1, 2, 3, 4, 5, 6, 7, 8, 9, 10, 11, 12, 13, 14, 15, 16, 17, 18, 19, 20, 21, 22, 23, 24, 25] (wX_S ct a x) rfl (by decide) (by decide) (by decide) (wX_S ct a x') (by decide) (wX_S ct a x) dL_set_23 rfl rfl (Nat.le_of_ble_eq_true rfl) ⟨Nat.le_of_eq (Nat.zero_add _), Nat.le_of_eq (Nat.zero_add _)⟩ rfl rfl (fun E hE => ?_) (fun hE => ?_)
  · have hm := hoc E hE
    rcases List.mem_cons.mp hm with hm1 | hm
    · subst hm1
      refine q_catch (pc2 := 50) (E := eI) C htab 0 (q := (0, 49, 50, 36)) rfl (fun z hz => nomatch hz) (by decide) (by decide) (by decide +kernel) (by decide +kernel) rfl (fun q9 => ?_)
      refine q_astore (lv' := [(5, .ref q9), (0, .ref (a 30)), (1, .int (nI 1)), (2, .int v1), (3, .int v2), (4, .int v3)]) (pc2 := 52) C dL_set_50 (by decide) rfl rfl ?_
      refine q_bipush (v := (-101)) (pc2 := 54) C dL_set_52 (by decide) rfl ?_
      exact q_zretX C hQ rfl rfl (ocC_of hE) (ocS_of hE) dL_set_54 ⟨by rw [hE]; rfl, by rw [hE]; rfl⟩
    rcases List.mem_cons.mp hm with hm1 | hm
    · subst hm1
      refine q_catch (pc2 := 55) (E := eA) C htab 1 (q := (0, 49, 55, 38)) rfl (fun z hz => by obtain rfl := List.mem_singleton.mp hz; exact ⟨by decide, _, (by decide +kernel : Cond.classLink yL_set.cls 36 eI ∈ wsL_set), by decide +kernel⟩) (by decide) (by decide) (by decide +kernel) (by decide +kernel) rfl (fun q9 => ?_)
      refine q_astore (lv' := [(5, .ref q9), (0, .ref (a 30)), (1, .int (nI 1)), (2, .int v1), (3, .int v2), (4, .int v3)]) (pc2 := 57) C dL_set_55 (by decide) rfl rfl ?_
      refine q_bipush (v := (-102)) (pc2 := 59) C dL_set_57 (by decide) rfl ?_
      exact q_zretX C hQ rfl rfl (ocC_of hE) (ocS_of hE) dL_set_59 ⟨by rw [hE]; rfl, by rw [hE]; rfl⟩
    obtain hm1 := List.mem_singleton.mp hm
    subst hm1
    refine q_catch (pc2 := 60) (E := eS) C htab 2 (q := (0, 49, 60, 40)) rfl (fun z hz => by rcases List.mem_cons.mp hz with rfl | hz2; exact ⟨by decide, _, (by decide +kernel : Cond.classLink yL_set.cls 36 eI ∈ wsL_set), by decide +kernel⟩; obtain rfl := List.mem_singleton.mp hz2; exact ⟨by decide, _, (by decide +kernel : Cond.classLink yL_set.cls 38 eA ∈ wsL_set), by decide +kernel⟩) (by decide) (by decide) (by decide +kernel) (by decide +kernel) rfl (fun q9 => ?_)
    refine q_astore (lv' := [(5, .ref q9), (0, .ref (a 30)), (1, .int (nI 1)), (2, .int v1), (3, .int v2), (4, .int v3)]) (pc2 := 62) C dL_set_60 (by decide) rfl rfl ?_
    refine q_bipush (v := (-103)) (pc2 := 64) C dL_set_62 (by decide) rfl ?_
    exact q_zretX C hQ rfl rfl (ocC_of hE) (ocS_of hE) dL_set_64 ⟨by rw [hE]; rfl, by rw [hE]; rfl⟩
  · skip
    refine q_goto (pc2 := 49) C dL_set_26 (by decide) ?_
    exact q_zretX C hQ rfl rfl (Nat.zero_le _) (Nat.zero_le _) dL_set_49 ⟨by rw [hE]; rfl, by rw [hE]; rfl⟩

set_option maxHeartbeats 4000000 in
set_option maxRecDepth 100000 in
theorem c_L_set2 (l : Launch) (D : va_G) (ct : Nat → ClassId) (a : Nat → Nat) (x x' : Nat → Nat → Int32) (v1 v2 v3 : Int32) (oc : Option String) (r : Int32) (hM : qMX l yX3_colour wsX3_colour ({ frames := 7, cells := ocC oc, slots := ocS oc, locals := 112 }) D ct [.ref (a 30), .int v1, .int v2] (wX ct a x) (qDo oc (some (.int r)) (wX ct a x')) (qDx oc (wX ct a x)) (ocC oc) (ocS oc)) (hoc : ∀ E, oc = some E → E ∈ ([eI, eA, eS] : List String)) : qMX l yL_set wsL_set ({ frames := 8, cells := ocC oc, slots := ocS oc, locals := 135 }) D ct [.ref (a 30), .int (nI 2), .int v1, .int v2, .int v3] (wX ct a x) (qD (some (.int (hcd [eI, eA, eS] r oc))) (wXq ct a x x' oc)) (fun _ _ => False) (ocC oc) (ocS oc) := by
  refine q_startH (ret := some .int) (lv := [(0, .ref (a 30)), (1, .int (nI 2)), (2, .int v1), (3, .int v2), (4, .int v3)]) (by decide +kernel) rfl (Nat.le_of_ble_eq_true rfl) rfl ?_
  intro p e s m args below meth c A Q C hQ htab
  refine q_iload_n (pc2 := 1) C 1 dL_set_0 rfl rfl rfl ?_
  refine q_if_ne (tgt := 13) (pc2 := 4) C dL_set_1 (by decide) rfl (fun _ => ?_) (fun h9 => absurd h9 (by decide))
  refine q_iload_n (pc2 := 14) C 1 dL_set_13 rfl rfl rfl ?_
  refine q_iconst (v := nI 1) (pc2 := 15) C dL_set_14 (by decide) rfl ?_
  refine q_icmp_ne (tgt := 29) (pc2 := 18) C dL_set_15 (by decide) rfl (fun _ => ?_) (fun h9 => absurd h9 (by decide))
  refine q_iload_n (pc2 := 30) C 1 dL_set_29 rfl rfl rfl ?_
  refine q_iconst (v := nI 2) (pc2 := 31) C dL_set_30 (by decide) rfl ?_
  refine q_icmp_ne (tgt := 43) (pc2 := 34) C dL_set_31 (by decide) rfl (fun h9 => absurd (by decide) h9) (fun _ => ?_)
  refine q_aload_n (pc2 := 35) C 0 dL_set_34 rfl rfl rfl ?_
  refine q_iload_n (pc2 := 36) C 2 dL_set_35 rfl rfl rfl ?_
  refine q_iload_n (pc2 := 37) C 3 dL_set_36 rfl rfl rfl ?_
  refine q_tV (pc2 := 40) (As := [.int v1, .int v2]) (b := a 30) (st := []) (st2 := [.int r]) (q0 := 0) (w2 := wX ct a x') C hM (cwV 2 C.w gL_set_X3_colour rfl rfl rfl (by decide +kernel) ⟨Nat.le_of_ble_eq_true rfl, Nat.le_of_ble_eq_true rfl⟩) (wX_g0 ct a x) rfl [0, 1, 2, 3, 4, 5, 6, 7, 8, 9, 10, 11, 12, 13, 14, 15, 16, 17, 18, 19, 20, 21, 22, 23, 24, 25] [] [0, 1, 2, 3, 4, 5, 6, 7, 8, 9, 10, 11, 12, 13, 14, 15, 16, 17, 18, 19, 20, 21, 22, 23, 24, 25] (wX_S ct a x) rfl (by decide) (by decide) (by decide) (wX_S ct a x') (by decide) (wX_S ct a x) dL_set_37 rfl rfl (Nat.le_of_ble_eq_true rfl) ⟨Nat.le_of_eq (Nat.zero_add _), Nat.le_of_eq (Nat.zero_add _)⟩ rfl rfl (fun E hE => ?_) (fun hE => ?_)
  · have hm := hoc E hE
    rcases List.mem_cons.mp hm with hm1 | hm
    · subst hm1
      refine q_catch (pc2 := 50) (E := eI) C htab 0 (q := (0, 49, 50, 36)) rfl (fun z hz => nomatch hz) (by decide) (by decide) (by decide +kernel) (by decide +kernel) rfl (fun q9 => ?_)
      refine q_astore (lv' := [(5, .ref q9), (0, .ref (a 30)), (1, .int (nI 2)), (2, .int v1), (3, .int v2), (4, .int v3)]) (pc2 := 52) C dL_set_50 (by decide) rfl rfl ?_
      refine q_bipush (v := (-101)) (pc2 := 54) C dL_set_52 (by decide) rfl ?_
      exact q_zretX C hQ rfl rfl (ocC_of hE) (ocS_of hE) dL_set_54 ⟨by rw [hE]; rfl, by rw [hE]; rfl⟩
    rcases List.mem_cons.mp hm with hm1 | hm
    · subst hm1
      refine q_catch (pc2 := 55) (E := eA) C htab 1 (q := (0, 49, 55, 38)) rfl (fun z hz => by obtain rfl := List.mem_singleton.mp hz; exact ⟨by decide, _, (by decide +kernel : Cond.classLink yL_set.cls 36 eI ∈ wsL_set), by decide +kernel⟩) (by decide) (by decide) (by decide +kernel) (by decide +kernel) rfl (fun q9 => ?_)
      refine q_astore (lv' := [(5, .ref q9), (0, .ref (a 30)), (1, .int (nI 2)), (2, .int v1), (3, .int v2), (4, .int v3)]) (pc2 := 57) C dL_set_55 (by decide) rfl rfl ?_
      refine q_bipush (v := (-102)) (pc2 := 59) C dL_set_57 (by decide) rfl ?_
      exact q_zretX C hQ rfl rfl (ocC_of hE) (ocS_of hE) dL_set_59 ⟨by rw [hE]; rfl, by rw [hE]; rfl⟩
    obtain hm1 := List.mem_singleton.mp hm
    subst hm1
    refine q_catch (pc2 := 60) (E := eS) C htab 2 (q := (0, 49, 60, 40)) rfl (fun z hz => by rcases List.mem_cons.mp hz with rfl | hz2; exact ⟨by decide, _, (by decide +kernel : Cond.classLink yL_set.cls 36 eI ∈ wsL_set), by decide +kernel⟩; obtain rfl := List.mem_singleton.mp hz2; exact ⟨by decide, _, (by decide +kernel : Cond.classLink yL_set.cls 38 eA ∈ wsL_set), by decide +kernel⟩) (by decide) (by decide) (by decide +kernel) (by decide +kernel) rfl (fun q9 => ?_)
    refine q_astore (lv' := [(5, .ref q9), (0, .ref (a 30)), (1, .int (nI 2)), (2, .int v1), (3, .int v2), (4, .int v3)]) (pc2 := 62) C dL_set_60 (by decide) rfl rfl ?_
    refine q_bipush (v := (-103)) (pc2 := 64) C dL_set_62 (by decide) rfl ?_
    exact q_zretX C hQ rfl rfl (ocC_of hE) (ocS_of hE) dL_set_64 ⟨by rw [hE]; rfl, by rw [hE]; rfl⟩
  · skip
    refine q_goto (pc2 := 49) C dL_set_40 (by decide) ?_
    exact q_zretX C hQ rfl rfl (Nat.zero_le _) (Nat.zero_le _) dL_set_49 ⟨by rw [hE]; rfl, by rw [hE]; rfl⟩

set_option maxHeartbeats 4000000 in
set_option maxRecDepth 100000 in
theorem c_L_set3 (l : Launch) (D : va_G) (ct : Nat → ClassId) (a : Nat → Nat) (x x' : Nat → Nat → Int32) (v1 v2 v3 : Int32) (oc : Option String) (r : Int32) (hM : qMX l yX3_standIn wsX3_standIn ({ frames := 7, cells := ocC oc, slots := ocS oc, locals := 111 }) D ct [.ref (a 30), .int v1, .int v2] (wX ct a x) (qDo oc (some (.int r)) (wX ct a x')) (qDx oc (wX ct a x)) (ocC oc) (ocS oc)) (hoc : ∀ E, oc = some E → E ∈ ([eI, eA, eS] : List String)) : qMX l yL_set wsL_set ({ frames := 8, cells := ocC oc, slots := ocS oc, locals := 133 }) D ct [.ref (a 30), .int (nI 3), .int v1, .int v2, .int v3] (wX ct a x) (qD (some (.int (hcd [eI, eA, eS] r oc))) (wXq ct a x x' oc)) (fun _ _ => False) (ocC oc) (ocS oc) := by
  refine q_startH (ret := some .int) (lv := [(0, .ref (a 30)), (1, .int (nI 3)), (2, .int v1), (3, .int v2), (4, .int v3)]) (by decide +kernel) rfl (Nat.le_of_ble_eq_true rfl) rfl ?_
  intro p e s m args below meth c A Q C hQ htab
  refine q_iload_n (pc2 := 1) C 1 dL_set_0 rfl rfl rfl ?_
  refine q_if_ne (tgt := 13) (pc2 := 4) C dL_set_1 (by decide) rfl (fun _ => ?_) (fun h9 => absurd h9 (by decide))
  refine q_iload_n (pc2 := 14) C 1 dL_set_13 rfl rfl rfl ?_
  refine q_iconst (v := nI 1) (pc2 := 15) C dL_set_14 (by decide) rfl ?_
  refine q_icmp_ne (tgt := 29) (pc2 := 18) C dL_set_15 (by decide) rfl (fun _ => ?_) (fun h9 => absurd h9 (by decide))
  refine q_iload_n (pc2 := 30) C 1 dL_set_29 rfl rfl rfl ?_
  refine q_iconst (v := nI 2) (pc2 := 31) C dL_set_30 (by decide) rfl ?_
  refine q_icmp_ne (tgt := 43) (pc2 := 34) C dL_set_31 (by decide) rfl (fun _ => ?_) (fun h9 => absurd h9 (by decide))
  refine q_aload_n (pc2 := 44) C 0 dL_set_43 rfl rfl rfl ?_
  refine q_iload_n (pc2 := 45) C 2 dL_set_44 rfl rfl rfl ?_
  refine q_iload_n (pc2 := 46) C 3 dL_set_45 rfl rfl rfl ?_
  refine q_tV (pc2 := 49) (As := [.int v1, .int v2]) (b := a 30) (st := []) (st2 := [.int r]) (q0 := 0) (w2 := wX ct a x') C hM (cwV 2 C.w gL_set_X3_standIn rfl rfl rfl (by decide +kernel) ⟨Nat.le_of_ble_eq_true rfl, Nat.le_of_ble_eq_true rfl⟩) (wX_g0 ct a x) rfl [0, 1, 2, 3, 4, 5, 6, 7, 8, 9, 10, 11, 12, 13, 14, 15, 16, 17, 18, 19, 20, 21, 22, 23, 24, 25] [] [0, 1, 2, 3, 4, 5, 6, 7, 8, 9, 10, 11, 12, 13, 14, 15, 16, 17, 18, 19, 20, 21, 22, 23, 24, 25] (wX_S ct a x) rfl (by decide) (by decide) (by decide) (wX_S ct a x') (by decide) (wX_S ct a x) dL_set_46 rfl rfl (Nat.le_of_ble_eq_true rfl) ⟨Nat.le_of_eq (Nat.zero_add _), Nat.le_of_eq (Nat.zero_add _)⟩ rfl rfl (fun E hE => ?_) (fun hE => ?_)
  · have hm := hoc E hE
    rcases List.mem_cons.mp hm with hm1 | hm
    · subst hm1
      refine q_catch (pc2 := 50) (E := eI) C htab 0 (q := (0, 49, 50, 36)) rfl (fun z hz => nomatch hz) (by decide) (by decide) (by decide +kernel) (by decide +kernel) rfl (fun q9 => ?_)
      refine q_astore (lv' := [(5, .ref q9), (0, .ref (a 30)), (1, .int (nI 3)), (2, .int v1), (3, .int v2), (4, .int v3)]) (pc2 := 52) C dL_set_50 (by decide) rfl rfl ?_
      refine q_bipush (v := (-101)) (pc2 := 54) C dL_set_52 (by decide) rfl ?_
      exact q_zretX C hQ rfl rfl (ocC_of hE) (ocS_of hE) dL_set_54 ⟨by rw [hE]; rfl, by rw [hE]; rfl⟩
    rcases List.mem_cons.mp hm with hm1 | hm
    · subst hm1
      refine q_catch (pc2 := 55) (E := eA) C htab 1 (q := (0, 49, 55, 38)) rfl (fun z hz => by obtain rfl := List.mem_singleton.mp hz; exact ⟨by decide, _, (by decide +kernel : Cond.classLink yL_set.cls 36 eI ∈ wsL_set), by decide +kernel⟩) (by decide) (by decide) (by decide +kernel) (by decide +kernel) rfl (fun q9 => ?_)
      refine q_astore (lv' := [(5, .ref q9), (0, .ref (a 30)), (1, .int (nI 3)), (2, .int v1), (3, .int v2), (4, .int v3)]) (pc2 := 57) C dL_set_55 (by decide) rfl rfl ?_
      refine q_bipush (v := (-102)) (pc2 := 59) C dL_set_57 (by decide) rfl ?_
      exact q_zretX C hQ rfl rfl (ocC_of hE) (ocS_of hE) dL_set_59 ⟨by rw [hE]; rfl, by rw [hE]; rfl⟩
    obtain hm1 := List.mem_singleton.mp hm
    subst hm1
    refine q_catch (pc2 := 60) (E := eS) C htab 2 (q := (0, 49, 60, 40)) rfl (fun z hz => by rcases List.mem_cons.mp hz with rfl | hz2; exact ⟨by decide, _, (by decide +kernel : Cond.classLink yL_set.cls 36 eI ∈ wsL_set), by decide +kernel⟩; obtain rfl := List.mem_singleton.mp hz2; exact ⟨by decide, _, (by decide +kernel : Cond.classLink yL_set.cls 38 eA ∈ wsL_set), by decide +kernel⟩) (by decide) (by decide) (by decide +kernel) (by decide +kernel) rfl (fun q9 => ?_)
    refine q_astore (lv' := [(5, .ref q9), (0, .ref (a 30)), (1, .int (nI 3)), (2, .int v1), (3, .int v2), (4, .int v3)]) (pc2 := 62) C dL_set_60 (by decide) rfl rfl ?_
    refine q_bipush (v := (-103)) (pc2 := 64) C dL_set_62 (by decide) rfl ?_
    exact q_zretX C hQ rfl rfl (ocC_of hE) (ocS_of hE) dL_set_64 ⟨by rw [hE]; rfl, by rw [hE]; rfl⟩
  · skip
    exact q_zretX C hQ rfl rfl (Nat.zero_le _) (Nat.zero_le _) dL_set_49 ⟨by rw [hE]; rfl, by rw [hE]; rfl⟩

set_option maxHeartbeats 4000000 in
set_option maxRecDepth 100000 in
theorem c_L_goes (l : Launch) (D : va_G) (ct : Nat → ClassId) (a : Nat → Nat) (x x' : Nat → Nat → Int32) (oc : Option String) (r : Int32) (hM : qMX l yX3_go wsX3_go ({ frames := 6, cells := ocC oc, slots := ocS oc, locals := 114 }) D ct [.ref (a 30)] (wX ct a x) (qDo oc (some (.int r)) (wX ct a x')) (qDx oc (wX ct a x)) (ocC oc) (ocS oc)) (hoc : ∀ E, oc = some E → E ∈ ([eS] : List String)) : qMX l yL_goes wsL_goes ({ frames := 7, cells := ocC oc, slots := ocS oc, locals := 134 }) D ct [.ref (a 30)] (wX ct a x) (qD (some (.int (hcd [eS] r oc))) (wXq ct a x x' oc)) (fun _ _ => False) (ocC oc) (ocS oc) := by
  refine q_startH (ret := some .int) (lv := [(0, .ref (a 30))]) (by decide +kernel) rfl (Nat.le_of_ble_eq_true rfl) rfl ?_
  intro p e s m args below meth c A Q C hQ htab
  refine q_aload_n (pc2 := 1) C 0 dL_goes_0 rfl rfl rfl ?_
  refine q_tV (pc2 := 4) (As := []) (b := a 30) (st := []) (st2 := [.int r]) (q0 := 0) (w2 := wX ct a x') C hM (cwV 0 C.w gL_goes_X3_go rfl rfl rfl (by decide +kernel) ⟨Nat.le_of_ble_eq_true rfl, Nat.le_of_ble_eq_true rfl⟩) (wX_g0 ct a x) rfl [0, 1, 2, 3, 4, 5, 6, 7, 8, 9, 10, 11, 12, 13, 14, 15, 16, 17, 18, 19, 20, 21, 22, 23, 24, 25] [] [0, 1, 2, 3, 4, 5, 6, 7, 8, 9, 10, 11, 12, 13, 14, 15, 16, 17, 18, 19, 20, 21, 22, 23, 24, 25] (wX_S ct a x) rfl (by decide) (by decide) (by decide) (wX_S ct a x') (by decide) (wX_S ct a x) dL_goes_1 rfl rfl (Nat.le_of_ble_eq_true rfl) ⟨Nat.le_of_eq (Nat.zero_add _), Nat.le_of_eq (Nat.zero_add _)⟩ rfl rfl (fun E hE => ?_) (fun hE => ?_)
  · have hm := hoc E hE
    obtain hm1 := List.mem_singleton.mp hm
    subst hm1
    refine q_catch (pc2 := 5) (E := eS) C htab 0 (q := (0, 4, 5, 40)) rfl (fun z hz => nomatch hz) (by decide) (by decide) (by decide +kernel) (by decide +kernel) rfl (fun q9 => ?_)
    refine q_astore_n (lv' := [(1, .ref q9), (0, .ref (a 30))]) (pc2 := 6) C dL_goes_5 rfl (by decide) rfl rfl ?_
    refine q_bipush (v := (-101)) (pc2 := 8) C dL_goes_6 (by decide) rfl ?_
    exact q_zretX C hQ rfl rfl (ocC_of hE) (ocS_of hE) dL_goes_8 ⟨by rw [hE]; rfl, by rw [hE]; rfl⟩
  · skip
    exact q_zretX C hQ rfl rfl (Nat.zero_le _) (Nat.zero_le _) dL_goes_4 ⟨by rw [hE]; rfl, by rw [hE]; rfl⟩

set_option maxHeartbeats 4000000 in
set_option maxRecDepth 100000 in
theorem c_L_ticks0 (l : Launch) (D : va_G) (ct : Nat → ClassId) (a : Nat → Nat) (x x' : Nat → Nat → Int32) (v1 : Int32) (oc : Option String) (r : Int32) (hM : qMX l yX3_tick wsX3_tick ({ frames := 7, cells := ocC oc, slots := ocS oc, locals := 134 }) D ct [.ref (a 30), .int v1] (wX ct a x) (qDo oc (some (.int r)) (wX ct a x')) (qDx oc (wX ct a x)) (ocC oc) (ocS oc)) (hoc : ∀ E, oc = some E → E ∈ ([eA] : List String)) : qMX l yL_ticks wsL_ticks ({ frames := 8, cells := ocC oc, slots := ocS oc, locals := 157 }) D ct [.ref (a 30), .int (nI 0), .int v1] (wX ct a x) (qD (some (.int (hcd [eA] r oc))) (wXq ct a x x' oc)) (fun _ _ => False) (ocC oc) (ocS oc) := by
  refine q_startH (ret := some .int) (lv := [(0, .ref (a 30)), (1, .int (nI 0)), (2, .int v1)]) (by decide +kernel) rfl (Nat.le_of_ble_eq_true rfl) rfl ?_
  intro p e s m args below meth c A Q C hQ htab
  refine q_iload_n (pc2 := 1) C 1 dL_ticks_0 rfl rfl rfl ?_
  refine q_if_ne (tgt := 12) (pc2 := 4) C dL_ticks_1 (by decide) rfl (fun h9 => absurd (by decide) h9) (fun _ => ?_)
  refine q_aload_n (pc2 := 5) C 0 dL_ticks_4 rfl rfl rfl ?_
  refine q_iload_n (pc2 := 6) C 2 dL_ticks_5 rfl rfl rfl ?_
  refine q_tV (pc2 := 9) (As := [.int v1]) (b := a 30) (st := []) (st2 := [.int r]) (q0 := 0) (w2 := wX ct a x') C hM (cwV 1 C.w gL_ticks_X3_tick rfl rfl rfl (by decide +kernel) ⟨Nat.le_of_ble_eq_true rfl, Nat.le_of_ble_eq_true rfl⟩) (wX_g0 ct a x) rfl [0, 1, 2, 3, 4, 5, 6, 7, 8, 9, 10, 11, 12, 13, 14, 15, 16, 17, 18, 19, 20, 21, 22, 23, 24, 25] [] [0, 1, 2, 3, 4, 5, 6, 7, 8, 9, 10, 11, 12, 13, 14, 15, 16, 17, 18, 19, 20, 21, 22, 23, 24, 25] (wX_S ct a x) rfl (by decide) (by decide) (by decide) (wX_S ct a x') (by decide) (wX_S ct a x) dL_ticks_6 rfl rfl (Nat.le_of_ble_eq_true rfl) ⟨Nat.le_of_eq (Nat.zero_add _), Nat.le_of_eq (Nat.zero_add _)⟩ rfl rfl (fun E hE => ?_) (fun hE => ?_)
  · have hm := hoc E hE
    obtain hm1 := List.mem_singleton.mp hm
    subst hm1
    refine q_catch (pc2 := 18) (E := eA) C htab 0 (q := (0, 17, 18, 38)) rfl (fun z hz => nomatch hz) (by decide) (by decide) (by decide +kernel) (by decide +kernel) rfl (fun q9 => ?_)
    refine q_astore_n (lv' := [(3, .ref q9), (0, .ref (a 30)), (1, .int (nI 0)), (2, .int v1)]) (pc2 := 19) C dL_ticks_18 rfl (by decide) rfl rfl ?_
    refine q_bipush (v := (-101)) (pc2 := 21) C dL_ticks_19 (by decide) rfl ?_
    exact q_zretX C hQ rfl rfl (ocC_of hE) (ocS_of hE) dL_ticks_21 ⟨by rw [hE]; rfl, by rw [hE]; rfl⟩
  · skip
    refine q_goto (pc2 := 17) C dL_ticks_9 (by decide) ?_
    exact q_zretX C hQ rfl rfl (Nat.zero_le _) (Nat.zero_le _) dL_ticks_17 ⟨by rw [hE]; rfl, by rw [hE]; rfl⟩

set_option maxHeartbeats 4000000 in
set_option maxRecDepth 100000 in
theorem c_L_ticks1 (l : Launch) (D : va_G) (ct : Nat → ClassId) (a : Nat → Nat) (x x' : Nat → Nat → Int32) (v1 : Int32) (oc : Option String) (r : Int32) (hM : qMX l yX3_gap wsX3_gap ({ frames := 7, cells := ocC oc, slots := ocS oc, locals := 112 }) D ct [.ref (a 30), .int v1] (wX ct a x) (qDo oc (some (.int r)) (wX ct a x')) (qDx oc (wX ct a x)) (ocC oc) (ocS oc)) (hoc : ∀ E, oc = some E → E ∈ ([eA] : List String)) : qMX l yL_ticks wsL_ticks ({ frames := 8, cells := ocC oc, slots := ocS oc, locals := 133 }) D ct [.ref (a 30), .int (nI 1), .int v1] (wX ct a x) (qD (some (.int (hcd [eA] r oc))) (wXq ct a x x' oc)) (fun _ _ => False) (ocC oc) (ocS oc) := by
  refine q_startH (ret := some .int) (lv := [(0, .ref (a 30)), (1, .int (nI 1)), (2, .int v1)]) (by decide +kernel) rfl (Nat.le_of_ble_eq_true rfl) rfl ?_
  intro p e s m args below meth c A Q C hQ htab
  refine q_iload_n (pc2 := 1) C 1 dL_ticks_0 rfl rfl rfl ?_
  refine q_if_ne (tgt := 12) (pc2 := 4) C dL_ticks_1 (by decide) rfl (fun _ => ?_) (fun h9 => absurd h9 (by decide))
  refine q_aload_n (pc2 := 13) C 0 dL_ticks_12 rfl rfl rfl ?_
  refine q_iload_n (pc2 := 14) C 2 dL_ticks_13 rfl rfl rfl ?_
  refine q_tV (pc2 := 17) (As := [.int v1]) (b := a 30) (st := []) (st2 := [.int r]) (q0 := 0) (w2 := wX ct a x') C hM (cwV 1 C.w gL_ticks_X3_gap rfl rfl rfl (by decide +kernel) ⟨Nat.le_of_ble_eq_true rfl, Nat.le_of_ble_eq_true rfl⟩) (wX_g0 ct a x) rfl [0, 1, 2, 3, 4, 5, 6, 7, 8, 9, 10, 11, 12, 13, 14, 15, 16, 17, 18, 19, 20, 21, 22, 23, 24, 25] [] [0, 1, 2, 3, 4, 5, 6, 7, 8, 9, 10, 11, 12, 13, 14, 15, 16, 17, 18, 19, 20, 21, 22, 23, 24, 25] (wX_S ct a x) rfl (by decide) (by decide) (by decide) (wX_S ct a x') (by decide) (wX_S ct a x) dL_ticks_14 rfl rfl (Nat.le_of_ble_eq_true rfl) ⟨Nat.le_of_eq (Nat.zero_add _), Nat.le_of_eq (Nat.zero_add _)⟩ rfl rfl (fun E hE => ?_) (fun hE => ?_)
  · have hm := hoc E hE
    obtain hm1 := List.mem_singleton.mp hm
    subst hm1
    refine q_catch (pc2 := 18) (E := eA) C htab 0 (q := (0, 17, 18, 38)) rfl (fun z hz => nomatch hz) (by decide) (by decide) (by decide +kernel) (by decide +kernel) rfl (fun q9 => ?_)
    refine q_astore_n (lv' := [(3, .ref q9), (0, .ref (a 30)), (1, .int (nI 1)), (2, .int v1)]) (pc2 := 19) C dL_ticks_18 rfl (by decide) rfl rfl ?_
    refine q_bipush (v := (-101)) (pc2 := 21) C dL_ticks_19 (by decide) rfl ?_
    exact q_zretX C hQ rfl rfl (ocC_of hE) (ocS_of hE) dL_ticks_21 ⟨by rw [hE]; rfl, by rw [hE]; rfl⟩
  · skip
    exact q_zretX C hQ rfl rfl (Nat.zero_le _) (Nat.zero_le _) dL_ticks_17 ⟨by rw [hE]; rfl, by rw [hE]; rfl⟩

set_option maxHeartbeats 4000000 in
set_option maxRecDepth 100000 in
theorem c_L_of0 (l : Launch) (D : va_G) (ct : Nat → ClassId) (a : Nat → Nat) (x x' : Nat → Nat → Int32) (v1 v2 : Int32) (oc : Option String) (r : Int32) (hr : r = 0 ∨ r = 1) (hM : qMX l yX3_down wsX3_down ({ frames := 7, cells := ocC oc, slots := ocS oc, locals := 111 }) D ct [.ref (a 30), .int v1] (wX ct a x) (qDo oc (some (.int r)) (wX ct a x')) (qDx oc (wX ct a x)) (ocC oc) (ocS oc)) (hoc : ∀ E, oc = some E → E ∈ ([eI] : List String)) : qMX l yL_of wsL_of ({ frames := 8, cells := ocC oc, slots := ocS oc, locals := 133 }) D ct [.ref (a 30), .int (nI 0), .int v1, .int v2] (wX ct a x) (qD (some (.int (hcd [eI] r oc))) (wXq ct a x x' oc)) (fun _ _ => False) (ocC oc) (ocS oc) := by
  refine q_startH (ret := some .int) (lv := [(0, .ref (a 30)), (1, .int (nI 0)), (2, .int v1), (3, .int v2)]) (by decide +kernel) rfl (Nat.le_of_ble_eq_true rfl) rfl ?_
  intro p e s m args below meth c A Q C hQ htab
  refine q_iload_n (pc2 := 1) C 1 dL_of_0 rfl rfl rfl ?_
  refine q_if_ne (tgt := 20) (pc2 := 4) C dL_of_1 (by decide) rfl (fun h9 => absurd (by decide) h9) (fun _ => ?_)
  refine q_aload_n (pc2 := 5) C 0 dL_of_4 rfl rfl rfl ?_
  refine q_iload_n (pc2 := 6) C 2 dL_of_5 rfl rfl rfl ?_
  refine q_tV (pc2 := 9) (As := [.int v1]) (b := a 30) (st := []) (st2 := [.int r]) (q0 := 0) (w2 := wX ct a x') C hM (cwV 1 C.w gL_of_X3_down rfl rfl rfl (by decide +kernel) ⟨Nat.le_of_ble_eq_true rfl, Nat.le_of_ble_eq_true rfl⟩) (wX_g0 ct a x) rfl [0, 1, 2, 3, 4, 5, 6, 7, 8, 9, 10, 11, 12, 13, 14, 15, 16, 17, 18, 19, 20, 21, 22, 23, 24, 25] [] [0, 1, 2, 3, 4, 5, 6, 7, 8, 9, 10, 11, 12, 13, 14, 15, 16, 17, 18, 19, 20, 21, 22, 23, 24, 25] (wX_S ct a x) rfl (by decide) (by decide) (by decide) (wX_S ct a x') (by decide) (wX_S ct a x) dL_of_6 rfl rfl (Nat.le_of_ble_eq_true rfl) ⟨Nat.le_of_eq (Nat.zero_add _), Nat.le_of_eq (Nat.zero_add _)⟩ rfl rfl (fun E hE => ?_) (fun hE => ?_)
  · have hm := hoc E hE
    obtain hm1 := List.mem_singleton.mp hm
    subst hm1
    refine q_catch (pc2 := 129) (E := eI) C htab 0 (q := (0, 128, 129, 36)) rfl (fun z hz => nomatch hz) (by decide) (by decide) (by decide +kernel) (by decide +kernel) rfl (fun q9 => ?_)
    refine q_astore (lv' := [(4, .ref q9), (0, .ref (a 30)), (1, .int (nI 0)), (2, .int v1), (3, .int v2)]) (pc2 := 131) C dL_of_129 (by decide) rfl rfl ?_
    refine q_bipush (v := (-101)) (pc2 := 133) C dL_of_131 (by decide) rfl ?_
    exact q_zretX C hQ rfl rfl (ocC_of hE) (ocS_of hE) dL_of_133 ⟨by rw [hE]; rfl, by rw [hE]; rfl⟩
  · skip
    refine q_if_eq (tgt := 16) (pc2 := 12) C dL_of_9 (by decide) rfl (fun c9 => ?_) (fun c9 => ?_)
    · skip
      have c9 := c9
      refine q_iconst (v := nI 0) (pc2 := 17) C dL_of_16 (by decide) rfl ?_
      refine q_goto (pc2 := 128) C dL_of_17 (by decide) ?_
      exact q_zretX C hQ rfl rfl (Nat.zero_le _) (Nat.zero_le _) dL_of_128 ⟨by rw [hE, c9]; rfl, by rw [hE]; rfl⟩
    · skip
      have c9 := c9
      refine q_iconst (v := nI 1) (pc2 := 13) C dL_of_12 (by decide) rfl ?_
      refine q_goto (pc2 := 128) C dL_of_13 (by decide) ?_
      exact q_zretX C hQ rfl rfl (Nat.zero_le _) (Nat.zero_le _) dL_of_128 ⟨by rw [hE, hr.resolve_left c9]; rfl, by rw [hE]; rfl⟩

set_option maxHeartbeats 4000000 in
set_option maxRecDepth 100000 in
theorem c_L_of1 (l : Launch) (D : va_G) (ct : Nat → ClassId) (a : Nat → Nat) (x x' : Nat → Nat → Int32) (v1 v2 : Int32) (oc : Option String) (r : Int32) (hM : qMX l yX3_onBar wsX3_onBar ({ frames := 7, cells := ocC oc, slots := ocS oc, locals := 111 }) D ct [.ref (a 30), .int v1, .int v2] (wX ct a x) (qDo oc (some (.int r)) (wX ct a x')) (qDx oc (wX ct a x)) (ocC oc) (ocS oc)) (hoc : ∀ E, oc = some E → E ∈ ([eI] : List String)) : qMX l yL_of wsL_of ({ frames := 8, cells := ocC oc, slots := ocS oc, locals := 134 }) D ct [.ref (a 30), .int (nI 1), .int v1, .int v2] (wX ct a x) (qD (some (.int (hcd [eI] r oc))) (wXq ct a x x' oc)) (fun _ _ => False) (ocC oc) (ocS oc) := by
  refine q_startH (ret := some .int) (lv := [(0, .ref (a 30)), (1, .int (nI 1)), (2, .int v1), (3, .int v2)]) (by decide +kernel) rfl (Nat.le_of_ble_eq_true rfl) rfl ?_
  intro p e s m args below meth c A Q C hQ htab
  refine q_iload_n (pc2 := 1) C 1 dL_of_0 rfl rfl rfl ?_
  refine q_if_ne (tgt := 20) (pc2 := 4) C dL_of_1 (by decide) rfl (fun _ => ?_) (fun h9 => absurd h9 (by decide))
  refine q_iload_n (pc2 := 21) C 1 dL_of_20 rfl rfl rfl ?_
  refine q_iconst (v := nI 1) (pc2 := 22) C dL_of_21 (by decide) rfl ?_
  refine q_icmp_ne (tgt := 34) (pc2 := 25) C dL_of_22 (by decide) rfl (fun h9 => absurd (by decide) h9) (fun _ => ?_)
  refine q_aload_n (pc2 := 26) C 0 dL_of_25 rfl rfl rfl ?_
  refine q_iload_n (pc2 := 27) C 2 dL_of_26 rfl rfl rfl ?_
  refine q_iload_n (pc2 := 28) C 3 dL_of_27 rfl rfl rfl ?_
  refine q_tV (pc2 := 31) (As := [.int v1, .int v2]) (b := a 30) (st := []) (st2 := [.int r]) (q0 := 0) (w2 := wX ct a x') C hM (cwV 2 C.w gL_of_X3_onBar rfl rfl rfl (by decide +kernel) ⟨Nat.le_of_ble_eq_true rfl, Nat.le_of_ble_eq_true rfl⟩) (wX_g0 ct a x) rfl [0, 1, 2, 3, 4, 5, 6, 7, 8, 9, 10, 11, 12, 13, 14, 15, 16, 17, 18, 19, 20, 21, 22, 23, 24, 25] [] [0, 1, 2, 3, 4, 5, 6, 7, 8, 9, 10, 11, 12, 13, 14, 15, 16, 17, 18, 19, 20, 21, 22, 23, 24, 25] (wX_S ct a x) rfl (by decide) (by decide) (by decide) (wX_S ct a x') (by decide) (wX_S ct a x) dL_of_28 rfl rfl (Nat.le_of_ble_eq_true rfl) ⟨Nat.le_of_eq (Nat.zero_add _), Nat.le_of_eq (Nat.zero_add _)⟩ rfl rfl (fun E hE => ?_) (fun hE => ?_)
  · have hm := hoc E hE
    obtain hm1 := List.mem_singleton.mp hm
    subst hm1
    refine q_catch (pc2 := 129) (E := eI) C htab 0 (q := (0, 128, 129, 36)) rfl (fun z hz => nomatch hz) (by decide) (by decide) (by decide +kernel) (by decide +kernel) rfl (fun q9 => ?_)
    refine q_astore (lv' := [(4, .ref q9), (0, .ref (a 30)), (1, .int (nI 1)), (2, .int v1), (3, .int v2)]) (pc2 := 131) C dL_of_129 (by decide) rfl rfl ?_
    refine q_bipush (v := (-101)) (pc2 := 133) C dL_of_131 (by decide) rfl ?_
    exact q_zretX C hQ rfl rfl (ocC_of hE) (ocS_of hE) dL_of_133 ⟨by rw [hE]; rfl, by rw [hE]; rfl⟩
  · skip
    refine q_goto (pc2 := 128) C dL_of_31 (by decide) ?_
    exact q_zretX C hQ rfl rfl (Nat.zero_le _) (Nat.zero_le _) dL_of_128 ⟨by rw [hE]; rfl, by rw [hE]; rfl⟩

set_option maxHeartbeats 4000000 in
set_option maxRecDepth 100000 in
theorem c_L_of2 (l : Launch) (D : va_G) (ct : Nat → ClassId) (a : Nat → Nat) (x x' : Nat → Nat → Int32) (v1 v2 : Int32) (oc : Option String) (r : Int32) (hM : qMX l yX3_where wsX3_where ({ frames := 7, cells := ocC oc, slots := ocS oc, locals := 111 }) D ct [.ref (a 30), .int v1] (wX ct a x) (qDo oc (some (.int r)) (wX ct a x')) (qDx oc (wX ct a x)) (ocC oc) (ocS oc)) (hoc : ∀ E, oc = some E → E ∈ ([eI] : List String)) : qMX l yL_of wsL_of ({ frames := 8, cells := ocC oc, slots := ocS oc, locals := 132 }) D ct [.ref (a 30), .int (nI 2), .int v1, .int v2] (wX ct a x) (qD (some (.int (hcd [eI] r oc))) (wXq ct a x x' oc)) (fun _ _ => False) (ocC oc) (ocS oc) := by
  refine q_startH (ret := some .int) (lv := [(0, .ref (a 30)), (1, .int (nI 2)), (2, .int v1), (3, .int v2)]) (by decide +kernel) rfl (Nat.le_of_ble_eq_true rfl) rfl ?_
  intro p e s m args below meth c A Q C hQ htab
  refine q_iload_n (pc2 := 1) C 1 dL_of_0 rfl rfl rfl ?_
  refine q_if_ne (tgt := 20) (pc2 := 4) C dL_of_1 (by decide) rfl (fun _ => ?_) (fun h9 => absurd h9 (by decide))
  refine q_iload_n (pc2 := 21) C 1 dL_of_20 rfl rfl rfl ?_
  refine q_iconst (v := nI 1) (pc2 := 22) C dL_of_21 (by decide) rfl ?_
  refine q_icmp_ne (tgt := 34) (pc2 := 25) C dL_of_22 (by decide) rfl (fun _ => ?_) (fun h9 => absurd h9 (by decide))
  refine q_iload_n (pc2 := 35) C 1 dL_of_34 rfl rfl rfl ?_
  refine q_iconst (v := nI 2) (pc2 := 36) C dL_of_35 (by decide) rfl ?_
  refine q_icmp_ne (tgt := 47) (pc2 := 39) C dL_of_36 (by decide) rfl (fun h9 => absurd (by decide) h9) (fun _ => ?_)
  refine q_aload_n (pc2 := 40) C 0 dL_of_39 rfl rfl rfl ?_
  refine q_iload_n (pc2 := 41) C 2 dL_of_40 rfl rfl rfl ?_
  refine q_tV (pc2 := 44) (As := [.int v1]) (b := a 30) (st := []) (st2 := [.int r]) (q0 := 0) (w2 := wX ct a x') C hM (cwV 1 C.w gL_of_X3_where rfl rfl rfl (by decide +kernel) ⟨Nat.le_of_ble_eq_true rfl, Nat.le_of_ble_eq_true rfl⟩) (wX_g0 ct a x) rfl [0, 1, 2, 3, 4, 5, 6, 7, 8, 9, 10, 11, 12, 13, 14, 15, 16, 17, 18, 19, 20, 21, 22, 23, 24, 25] [] [0, 1, 2, 3, 4, 5, 6, 7, 8, 9, 10, 11, 12, 13, 14, 15, 16, 17, 18, 19, 20, 21, 22, 23, 24, 25] (wX_S ct a x) rfl (by decide) (by decide) (by decide) (wX_S ct a x') (by decide) (wX_S ct a x) dL_of_41 rfl rfl (Nat.le_of_ble_eq_true rfl) ⟨Nat.le_of_eq (Nat.zero_add _), Nat.le_of_eq (Nat.zero_add _)⟩ rfl rfl (fun E hE => ?_) (fun hE => ?_)
  · have hm := hoc E hE
    obtain hm1 := List.mem_singleton.mp hm
    subst hm1
    refine q_catch (pc2 := 129) (E := eI) C htab 0 (q := (0, 128, 129, 36)) rfl (fun z hz => nomatch hz) (by decide) (by decide) (by decide +kernel) (by decide +kernel) rfl (fun q9 => ?_)
    refine q_astore (lv' := [(4, .ref q9), (0, .ref (a 30)), (1, .int (nI 2)), (2, .int v1), (3, .int v2)]) (pc2 := 131) C dL_of_129 (by decide) rfl rfl ?_
    refine q_bipush (v := (-101)) (pc2 := 133) C dL_of_131 (by decide) rfl ?_
    exact q_zretX C hQ rfl rfl (ocC_of hE) (ocS_of hE) dL_of_133 ⟨by rw [hE]; rfl, by rw [hE]; rfl⟩
  · skip
    refine q_goto (pc2 := 128) C dL_of_44 (by decide) ?_
    exact q_zretX C hQ rfl rfl (Nat.zero_le _) (Nat.zero_le _) dL_of_128 ⟨by rw [hE]; rfl, by rw [hE]; rfl⟩

set_option maxHeartbeats 4000000 in
set_option maxRecDepth 100000 in
theorem c_L_of3 (l : Launch) (D : va_G) (ct : Nat → ClassId) (a : Nat → Nat) (x x' : Nat → Nat → Int32) (v1 v2 : Int32) (oc : Option String) (r : Int32) (hM : qMX l yX3_plug wsX3_plug ({ frames := 7, cells := ocC oc, slots := ocS oc, locals := 111 }) D ct [.ref (a 30), .int v1, .int v2] (wX ct a x) (qDo oc (some (.int r)) (wX ct a x')) (qDx oc (wX ct a x)) (ocC oc) (ocS oc)) (hoc : ∀ E, oc = some E → E ∈ ([eI] : List String)) : qMX l yL_of wsL_of ({ frames := 8, cells := ocC oc, slots := ocS oc, locals := 134 }) D ct [.ref (a 30), .int (nI 3), .int v1, .int v2] (wX ct a x) (qD (some (.int (hcd [eI] r oc))) (wXq ct a x x' oc)) (fun _ _ => False) (ocC oc) (ocS oc) := by
  refine q_startH (ret := some .int) (lv := [(0, .ref (a 30)), (1, .int (nI 3)), (2, .int v1), (3, .int v2)]) (by decide +kernel) rfl (Nat.le_of_ble_eq_true rfl) rfl ?_
  intro p e s m args below meth c A Q C hQ htab
  refine q_iload_n (pc2 := 1) C 1 dL_of_0 rfl rfl rfl ?_
  refine q_if_ne (tgt := 20) (pc2 := 4) C dL_of_1 (by decide) rfl (fun _ => ?_) (fun h9 => absurd h9 (by decide))
  refine q_iload_n (pc2 := 21) C 1 dL_of_20 rfl rfl rfl ?_
  refine q_iconst (v := nI 1) (pc2 := 22) C dL_of_21 (by decide) rfl ?_
  refine q_icmp_ne (tgt := 34) (pc2 := 25) C dL_of_22 (by decide) rfl (fun _ => ?_) (fun h9 => absurd h9 (by decide))
  refine q_iload_n (pc2 := 35) C 1 dL_of_34 rfl rfl rfl ?_
  refine q_iconst (v := nI 2) (pc2 := 36) C dL_of_35 (by decide) rfl ?_
  refine q_icmp_ne (tgt := 47) (pc2 := 39) C dL_of_36 (by decide) rfl (fun _ => ?_) (fun h9 => absurd h9 (by decide))
  refine q_iload_n (pc2 := 48) C 1 dL_of_47 rfl rfl rfl ?_
  refine q_iconst (v := nI 3) (pc2 := 49) C dL_of_48 (by decide) rfl ?_
  refine q_icmp_ne (tgt := 61) (pc2 := 52) C dL_of_49 (by decide) rfl (fun h9 => absurd (by decide) h9) (fun _ => ?_)
  refine q_aload_n (pc2 := 53) C 0 dL_of_52 rfl rfl rfl ?_
  refine q_iload_n (pc2 := 54) C 2 dL_of_53 rfl rfl rfl ?_
  refine q_iload_n (pc2 := 55) C 3 dL_of_54 rfl rfl rfl ?_
  refine q_tV (pc2 := 58) (As := [.int v1, .int v2]) (b := a 30) (st := []) (st2 := [.int r]) (q0 := 0) (w2 := wX ct a x') C hM (cwV 2 C.w gL_of_X3_plug rfl rfl rfl (by decide +kernel) ⟨Nat.le_of_ble_eq_true rfl, Nat.le_of_ble_eq_true rfl⟩) (wX_g0 ct a x) rfl [0, 1, 2, 3, 4, 5, 6, 7, 8, 9, 10, 11, 12, 13, 14, 15, 16, 17, 18, 19, 20, 21, 22, 23, 24, 25] [] [0, 1, 2, 3, 4, 5, 6, 7, 8, 9, 10, 11, 12, 13, 14, 15, 16, 17, 18, 19, 20, 21, 22, 23, 24, 25] (wX_S ct a x) rfl (by decide) (by decide) (by decide) (wX_S ct a x') (by decide) (wX_S ct a x) dL_of_55 rfl rfl (Nat.le_of_ble_eq_true rfl) ⟨Nat.le_of_eq (Nat.zero_add _), Nat.le_of_eq (Nat.zero_add _)⟩ rfl rfl (fun E hE => ?_) (fun hE => ?_)
  · have hm := hoc E hE
    obtain hm1 := List.mem_singleton.mp hm
    subst hm1
    refine q_catch (pc2 := 129) (E := eI) C htab 0 (q := (0, 128, 129, 36)) rfl (fun z hz => nomatch hz) (by decide) (by decide) (by decide +kernel) (by decide +kernel) rfl (fun q9 => ?_)
    refine q_astore (lv' := [(4, .ref q9), (0, .ref (a 30)), (1, .int (nI 3)), (2, .int v1), (3, .int v2)]) (pc2 := 131) C dL_of_129 (by decide) rfl rfl ?_
    refine q_bipush (v := (-101)) (pc2 := 133) C dL_of_131 (by decide) rfl ?_
    exact q_zretX C hQ rfl rfl (ocC_of hE) (ocS_of hE) dL_of_133 ⟨by rw [hE]; rfl, by rw [hE]; rfl⟩
  · skip
    refine q_goto (pc2 := 128) C dL_of_58 (by decide) ?_
    exact q_zretX C hQ rfl rfl (Nat.zero_le _) (Nat.zero_le _) dL_of_128 ⟨by rw [hE]; rfl, by rw [hE]; rfl⟩

set_option maxHeartbeats 4000000 in
set_option maxRecDepth 100000 in
theorem c_L_of4 (l : Launch) (D : va_G) (ct : Nat → ClassId) (a : Nat → Nat) (x x' : Nat → Nat → Int32) (v1 v2 : Int32) (oc : Option String) (r : Int32) (hM : qMX l yX3_load wsX3_load ({ frames := 7, cells := ocC oc, slots := ocS oc, locals := 110 }) D ct [.ref (a 30), .int v1] (wX ct a x) (qDo oc (some (.int r)) (wX ct a x')) (qDx oc (wX ct a x)) (ocC oc) (ocS oc)) (hoc : ∀ E, oc = some E → E ∈ ([eI] : List String)) : qMX l yL_of wsL_of ({ frames := 8, cells := ocC oc, slots := ocS oc, locals := 133 }) D ct [.ref (a 30), .int (nI 4), .int v1, .int v2] (wX ct a x) (qD (some (.int (hcd [eI] r oc))) (wXq ct a x x' oc)) (fun _ _ => False) (ocC oc) (ocS oc) := by
  refine q_startH (ret := some .int) (lv := [(0, .ref (a 30)), (1, .int (nI 4)), (2, .int v1), (3, .int v2)]) (by decide +kernel) rfl (Nat.le_of_ble_eq_true rfl) rfl ?_
  intro p e s m args below meth c A Q C hQ htab
  refine q_iload_n (pc2 := 1) C 1 dL_of_0 rfl rfl rfl ?_
  refine q_if_ne (tgt := 20) (pc2 := 4) C dL_of_1 (by decide) rfl (fun _ => ?_) (fun h9 => absurd h9 (by decide))
  refine q_iload_n (pc2 := 21) C 1 dL_of_20 rfl rfl rfl ?_
  refine q_iconst (v := nI 1) (pc2 := 22) C dL_of_21 (by decide) rfl ?_
  refine q_icmp_ne (tgt := 34) (pc2 := 25) C dL_of_22 (by decide) rfl (fun _ => ?_) (fun h9 => absurd h9 (by decide))
  refine q_iload_n (pc2 := 35) C 1 dL_of_34 rfl rfl rfl ?_
  refine q_iconst (v := nI 2) (pc2 := 36) C dL_of_35 (by decide) rfl ?_
  refine q_icmp_ne (tgt := 47) (pc2 := 39) C dL_of_36 (by decide) rfl (fun _ => ?_) (fun h9 => absurd h9 (by decide))
  refine q_iload_n (pc2 := 48) C 1 dL_of_47 rfl rfl rfl ?_
  refine q_iconst (v := nI 3) (pc2 := 49) C dL_of_48 (by decide) rfl ?_
  refine q_icmp_ne (tgt := 61) (pc2 := 52) C dL_of_49 (by decide) rfl (fun _ => ?_) (fun h9 => absurd h9 (by decide))
  refine q_iload_n (pc2 := 62) C 1 dL_of_61 rfl rfl rfl ?_
  refine q_iconst (v := nI 4) (pc2 := 63) C dL_of_62 (by decide) rfl ?_
  refine q_icmp_ne (tgt := 74) (pc2 := 66) C dL_of_63 (by decide) rfl (fun h9 => absurd (by decide) h9) (fun _ => ?_)
  refine q_aload_n (pc2 := 67) C 0 dL_of_66 rfl rfl rfl ?_
  refine q_iload_n (pc2 := 68) C 2 dL_of_67 rfl rfl rfl ?_
  refine q_tV (pc2 := 71) (As := [.int v1]) (b := a 30) (st := []) (st2 := [.int r]) (q0 := 0) (w2 := wX ct a x') C hM (cwV 1 C.w gL_of_X3_load rfl rfl rfl (by decide +kernel) ⟨Nat.le_of_ble_eq_true rfl, Nat.le_of_ble_eq_true rfl⟩) (wX_g0 ct a x) rfl [0, 1, 2, 3, 4, 5, 6, 7, 8, 9, 10, 11, 12, 13, 14, 15, 16, 17, 18, 19, 20, 21, 22, 23, 24, 25] [] [0, 1, 2, 3, 4, 5, 6, 7, 8, 9, 10, 11, 12, 13, 14, 15, 16, 17, 18, 19, 20, 21, 22, 23, 24, 25] (wX_S ct a x) rfl (by decide) (by decide) (by decide) (wX_S ct a x') (by decide) (wX_S ct a x) dL_of_68 rfl rfl (Nat.le_of_ble_eq_true rfl) ⟨Nat.le_of_eq (Nat.zero_add _), Nat.le_of_eq (Nat.zero_add _)⟩ rfl rfl (fun E hE => ?_) (fun hE => ?_)
  · have hm := hoc E hE
    obtain hm1 := List.mem_singleton.mp hm
    subst hm1
    refine q_catch (pc2 := 129) (E := eI) C htab 0 (q := (0, 128, 129, 36)) rfl (fun z hz => nomatch hz) (by decide) (by decide) (by decide +kernel) (by decide +kernel) rfl (fun q9 => ?_)
    refine q_astore (lv' := [(4, .ref q9), (0, .ref (a 30)), (1, .int (nI 4)), (2, .int v1), (3, .int v2)]) (pc2 := 131) C dL_of_129 (by decide) rfl rfl ?_
    refine q_bipush (v := (-101)) (pc2 := 133) C dL_of_131 (by decide) rfl ?_
    exact q_zretX C hQ rfl rfl (ocC_of hE) (ocS_of hE) dL_of_133 ⟨by rw [hE]; rfl, by rw [hE]; rfl⟩
  · skip
    refine q_goto (pc2 := 128) C dL_of_71 (by decide) ?_
    exact q_zretX C hQ rfl rfl (Nat.zero_le _) (Nat.zero_le _) dL_of_128 ⟨by rw [hE]; rfl, by rw [hE]; rfl⟩

set_option maxHeartbeats 4000000 in
set_option maxRecDepth 100000 in
theorem c_L_of5 (l : Launch) (D : va_G) (ct : Nat → ClassId) (a : Nat → Nat) (x x' : Nat → Nat → Int32) (v1 v2 : Int32) (oc : Option String) (r : Int32) (hM : qMX l yX3_level wsX3_level ({ frames := 7, cells := ocC oc, slots := ocS oc, locals := 111 }) D ct [.ref (a 30), .int v1] (wX ct a x) (qDo oc (some (.int r)) (wX ct a x')) (qDx oc (wX ct a x)) (ocC oc) (ocS oc)) (hoc : ∀ E, oc = some E → E ∈ ([eI] : List String)) : qMX l yL_of wsL_of ({ frames := 8, cells := ocC oc, slots := ocS oc, locals := 132 }) D ct [.ref (a 30), .int (nI 5), .int v1, .int v2] (wX ct a x) (qD (some (.int (hcd [eI] r oc))) (wXq ct a x x' oc)) (fun _ _ => False) (ocC oc) (ocS oc) := by
  refine q_startH (ret := some .int) (lv := [(0, .ref (a 30)), (1, .int (nI 5)), (2, .int v1), (3, .int v2)]) (by decide +kernel) rfl (Nat.le_of_ble_eq_true rfl) rfl ?_
  intro p e s m args below meth c A Q C hQ htab
  refine q_iload_n (pc2 := 1) C 1 dL_of_0 rfl rfl rfl ?_
  refine q_if_ne (tgt := 20) (pc2 := 4) C dL_of_1 (by decide) rfl (fun _ => ?_) (fun h9 => absurd h9 (by decide))
  refine q_iload_n (pc2 := 21) C 1 dL_of_20 rfl rfl rfl ?_
  refine q_iconst (v := nI 1) (pc2 := 22) C dL_of_21 (by decide) rfl ?_
  refine q_icmp_ne (tgt := 34) (pc2 := 25) C dL_of_22 (by decide) rfl (fun _ => ?_) (fun h9 => absurd h9 (by decide))
  refine q_iload_n (pc2 := 35) C 1 dL_of_34 rfl rfl rfl ?_
  refine q_iconst (v := nI 2) (pc2 := 36) C dL_of_35 (by decide) rfl ?_
  refine q_icmp_ne (tgt := 47) (pc2 := 39) C dL_of_36 (by decide) rfl (fun _ => ?_) (fun h9 => absurd h9 (by decide))
  refine q_iload_n (pc2 := 48) C 1 dL_of_47 rfl rfl rfl ?_
  refine q_iconst (v := nI 3) (pc2 := 49) C dL_of_48 (by decide) rfl ?_
  refine q_icmp_ne (tgt := 61) (pc2 := 52) C dL_of_49 (by decide) rfl (fun _ => ?_) (fun h9 => absurd h9 (by decide))
  refine q_iload_n (pc2 := 62) C 1 dL_of_61 rfl rfl rfl ?_
  refine q_iconst (v := nI 4) (pc2 := 63) C dL_of_62 (by decide) rfl ?_
  refine q_icmp_ne (tgt := 74) (pc2 := 66) C dL_of_63 (by decide) rfl (fun _ => ?_) (fun h9 => absurd h9 (by decide))
  refine q_iload_n (pc2 := 75) C 1 dL_of_74 rfl rfl rfl ?_
  refine q_iconst (v := nI 5) (pc2 := 76) C dL_of_75 (by decide) rfl ?_
  refine q_icmp_ne (tgt := 87) (pc2 := 79) C dL_of_76 (by decide) rfl (fun h9 => absurd (by decide) h9) (fun _ => ?_)
  refine q_aload_n (pc2 := 80) C 0 dL_of_79 rfl rfl rfl ?_
  refine q_iload_n (pc2 := 81) C 2 dL_of_80 rfl rfl rfl ?_
  refine q_tV (pc2 := 84) (As := [.int v1]) (b := a 30) (st := []) (st2 := [.int r]) (q0 := 0) (w2 := wX ct a x') C hM (cwV 1 C.w gL_of_X3_level rfl rfl rfl (by decide +kernel) ⟨Nat.le_of_ble_eq_true rfl, Nat.le_of_ble_eq_true rfl⟩) (wX_g0 ct a x) rfl [0, 1, 2, 3, 4, 5, 6, 7, 8, 9, 10, 11, 12, 13, 14, 15, 16, 17, 18, 19, 20, 21, 22, 23, 24, 25] [] [0, 1, 2, 3, 4, 5, 6, 7, 8, 9, 10, 11, 12, 13, 14, 15, 16, 17, 18, 19, 20, 21, 22, 23, 24, 25] (wX_S ct a x) rfl (by decide) (by decide) (by decide) (wX_S ct a x') (by decide) (wX_S ct a x) dL_of_81 rfl rfl (Nat.le_of_ble_eq_true rfl) ⟨Nat.le_of_eq (Nat.zero_add _), Nat.le_of_eq (Nat.zero_add _)⟩ rfl rfl (fun E hE => ?_) (fun hE => ?_)
  · have hm := hoc E hE
    obtain hm1 := List.mem_singleton.mp hm
    subst hm1
    refine q_catch (pc2 := 129) (E := eI) C htab 0 (q := (0, 128, 129, 36)) rfl (fun z hz => nomatch hz) (by decide) (by decide) (by decide +kernel) (by decide +kernel) rfl (fun q9 => ?_)
    refine q_astore (lv' := [(4, .ref q9), (0, .ref (a 30)), (1, .int (nI 5)), (2, .int v1), (3, .int v2)]) (pc2 := 131) C dL_of_129 (by decide) rfl rfl ?_
    refine q_bipush (v := (-101)) (pc2 := 133) C dL_of_131 (by decide) rfl ?_
    exact q_zretX C hQ rfl rfl (ocC_of hE) (ocS_of hE) dL_of_133 ⟨by rw [hE]; rfl, by rw [hE]; rfl⟩
  · skip
    refine q_goto (pc2 := 128) C dL_of_84 (by decide) ?_
    exact q_zretX C hQ rfl rfl (Nat.zero_le _) (Nat.zero_le _) dL_of_128 ⟨by rw [hE]; rfl, by rw [hE]; rfl⟩

set_option maxHeartbeats 4000000 in
set_option maxRecDepth 100000 in
theorem c_L_of6 (l : Launch) (D : va_G) (ct : Nat → ClassId) (a : Nat → Nat) (x x' : Nat → Nat → Int32) (v1 v2 : Int32) (oc : Option String) (r : Int32) (hM : qMX l yX3_wanted wsX3_wanted ({ frames := 7, cells := ocC oc, slots := ocS oc, locals := 111 }) D ct [.ref (a 30), .int v1] (wX ct a x) (qDo oc (some (.int r)) (wX ct a x')) (qDx oc (wX ct a x)) (ocC oc) (ocS oc)) (hoc : ∀ E, oc = some E → E ∈ ([eI] : List String)) : qMX l yL_of wsL_of ({ frames := 8, cells := ocC oc, slots := ocS oc, locals := 132 }) D ct [.ref (a 30), .int (nI 6), .int v1, .int v2] (wX ct a x) (qD (some (.int (hcd [eI] r oc))) (wXq ct a x x' oc)) (fun _ _ => False) (ocC oc) (ocS oc) := by
  refine q_startH (ret := some .int) (lv := [(0, .ref (a 30)), (1, .int (nI 6)), (2, .int v1), (3, .int v2)]) (by decide +kernel) rfl (Nat.le_of_ble_eq_true rfl) rfl ?_
  intro p e s m args below meth c A Q C hQ htab
  refine q_iload_n (pc2 := 1) C 1 dL_of_0 rfl rfl rfl ?_
  refine q_if_ne (tgt := 20) (pc2 := 4) C dL_of_1 (by decide) rfl (fun _ => ?_) (fun h9 => absurd h9 (by decide))
  refine q_iload_n (pc2 := 21) C 1 dL_of_20 rfl rfl rfl ?_
  refine q_iconst (v := nI 1) (pc2 := 22) C dL_of_21 (by decide) rfl ?_
  refine q_icmp_ne (tgt := 34) (pc2 := 25) C dL_of_22 (by decide) rfl (fun _ => ?_) (fun h9 => absurd h9 (by decide))
  refine q_iload_n (pc2 := 35) C 1 dL_of_34 rfl rfl rfl ?_
  refine q_iconst (v := nI 2) (pc2 := 36) C dL_of_35 (by decide) rfl ?_
  refine q_icmp_ne (tgt := 47) (pc2 := 39) C dL_of_36 (by decide) rfl (fun _ => ?_) (fun h9 => absurd h9 (by decide))
  refine q_iload_n (pc2 := 48) C 1 dL_of_47 rfl rfl rfl ?_
  refine q_iconst (v := nI 3) (pc2 := 49) C dL_of_48 (by decide) rfl ?_
  refine q_icmp_ne (tgt := 61) (pc2 := 52) C dL_of_49 (by decide) rfl (fun _ => ?_) (fun h9 => absurd h9 (by decide))
  refine q_iload_n (pc2 := 62) C 1 dL_of_61 rfl rfl rfl ?_
  refine q_iconst (v := nI 4) (pc2 := 63) C dL_of_62 (by decide) rfl ?_
  refine q_icmp_ne (tgt := 74) (pc2 := 66) C dL_of_63 (by decide) rfl (fun _ => ?_) (fun h9 => absurd h9 (by decide))
  refine q_iload_n (pc2 := 75) C 1 dL_of_74 rfl rfl rfl ?_
  refine q_iconst (v := nI 5) (pc2 := 76) C dL_of_75 (by decide) rfl ?_
  refine q_icmp_ne (tgt := 87) (pc2 := 79) C dL_of_76 (by decide) rfl (fun _ => ?_) (fun h9 => absurd h9 (by decide))
  refine q_iload_n (pc2 := 88) C 1 dL_of_87 rfl rfl rfl ?_
  refine q_bipush (v := nI 6) (pc2 := 90) C dL_of_88 (by decide) rfl ?_
  refine q_icmp_ne (tgt := 101) (pc2 := 93) C dL_of_90 (by decide) rfl (fun h9 => absurd (by decide) h9) (fun _ => ?_)
  refine q_aload_n (pc2 := 94) C 0 dL_of_93 rfl rfl rfl ?_
  refine q_iload_n (pc2 := 95) C 2 dL_of_94 rfl rfl rfl ?_
  refine q_tV (pc2 := 98) (As := [.int v1]) (b := a 30) (st := []) (st2 := [.int r]) (q0 := 0) (w2 := wX ct a x') C hM (cwV 1 C.w gL_of_X3_wanted rfl rfl rfl (by decide +kernel) ⟨Nat.le_of_ble_eq_true rfl, Nat.le_of_ble_eq_true rfl⟩) (wX_g0 ct a x) rfl [0, 1, 2, 3, 4, 5, 6, 7, 8, 9, 10, 11, 12, 13, 14, 15, 16, 17, 18, 19, 20, 21, 22, 23, 24, 25] [] [0, 1, 2, 3, 4, 5, 6, 7, 8, 9, 10, 11, 12, 13, 14, 15, 16, 17, 18, 19, 20, 21, 22, 23, 24, 25] (wX_S ct a x) rfl (by decide) (by decide) (by decide) (wX_S ct a x') (by decide) (wX_S ct a x) dL_of_95 rfl rfl (Nat.le_of_ble_eq_true rfl) ⟨Nat.le_of_eq (Nat.zero_add _), Nat.le_of_eq (Nat.zero_add _)⟩ rfl rfl (fun E hE => ?_) (fun hE => ?_)
  · have hm := hoc E hE
    obtain hm1 := List.mem_singleton.mp hm
    subst hm1
    refine q_catch (pc2 := 129) (E := eI) C htab 0 (q := (0, 128, 129, 36)) rfl (fun z hz => nomatch hz) (by decide) (by decide) (by decide +kernel) (by decide +kernel) rfl (fun q9 => ?_)
    refine q_astore (lv' := [(4, .ref q9), (0, .ref (a 30)), (1, .int (nI 6)), (2, .int v1), (3, .int v2)]) (pc2 := 131) C dL_of_129 (by decide) rfl rfl ?_
    refine q_bipush (v := (-101)) (pc2 := 133) C dL_of_131 (by decide) rfl ?_
    exact q_zretX C hQ rfl rfl (ocC_of hE) (ocS_of hE) dL_of_133 ⟨by rw [hE]; rfl, by rw [hE]; rfl⟩
  · skip
    refine q_goto (pc2 := 128) C dL_of_98 (by decide) ?_
    exact q_zretX C hQ rfl rfl (Nat.zero_le _) (Nat.zero_le _) dL_of_128 ⟨by rw [hE]; rfl, by rw [hE]; rfl⟩

set_option maxHeartbeats 4000000 in
set_option maxRecDepth 100000 in
theorem c_L_of7 (l : Launch) (D : va_G) (ct : Nat → ClassId) (a : Nat → Nat) (x x' : Nat → Nat → Int32) (v1 v2 : Int32) (oc : Option String) (r : Int32) (hM : qMX l yX3_wantedByCues wsX3_wantedByCues ({ frames := 7, cells := ocC oc, slots := ocS oc, locals := 111 }) D ct [.ref (a 30), .int v1] (wX ct a x) (qDo oc (some (.int r)) (wX ct a x')) (qDx oc (wX ct a x)) (ocC oc) (ocS oc)) (hoc : ∀ E, oc = some E → E ∈ ([eI] : List String)) : qMX l yL_of wsL_of ({ frames := 8, cells := ocC oc, slots := ocS oc, locals := 132 }) D ct [.ref (a 30), .int (nI 7), .int v1, .int v2] (wX ct a x) (qD (some (.int (hcd [eI] r oc))) (wXq ct a x x' oc)) (fun _ _ => False) (ocC oc) (ocS oc) := by
  refine q_startH (ret := some .int) (lv := [(0, .ref (a 30)), (1, .int (nI 7)), (2, .int v1), (3, .int v2)]) (by decide +kernel) rfl (Nat.le_of_ble_eq_true rfl) rfl ?_
  intro p e s m args below meth c A Q C hQ htab
  refine q_iload_n (pc2 := 1) C 1 dL_of_0 rfl rfl rfl ?_
  refine q_if_ne (tgt := 20) (pc2 := 4) C dL_of_1 (by decide) rfl (fun _ => ?_) (fun h9 => absurd h9 (by decide))
  refine q_iload_n (pc2 := 21) C 1 dL_of_20 rfl rfl rfl ?_
  refine q_iconst (v := nI 1) (pc2 := 22) C dL_of_21 (by decide) rfl ?_
  refine q_icmp_ne (tgt := 34) (pc2 := 25) C dL_of_22 (by decide) rfl (fun _ => ?_) (fun h9 => absurd h9 (by decide))
  refine q_iload_n (pc2 := 35) C 1 dL_of_34 rfl rfl rfl ?_
  refine q_iconst (v := nI 2) (pc2 := 36) C dL_of_35 (by decide) rfl ?_
  refine q_icmp_ne (tgt := 47) (pc2 := 39) C dL_of_36 (by decide) rfl (fun _ => ?_) (fun h9 => absurd h9 (by decide))
  refine q_iload_n (pc2 := 48) C 1 dL_of_47 rfl rfl rfl ?_
  refine q_iconst (v := nI 3) (pc2 := 49) C dL_of_48 (by decide) rfl ?_
  refine q_icmp_ne (tgt := 61) (pc2 := 52) C dL_of_49 (by decide) rfl (fun _ => ?_) (fun h9 => absurd h9 (by decide))
  refine q_iload_n (pc2 := 62) C 1 dL_of_61 rfl rfl rfl ?_
  refine q_iconst (v := nI 4) (pc2 := 63) C dL_of_62 (by decide) rfl ?_
  refine q_icmp_ne (tgt := 74) (pc2 := 66) C dL_of_63 (by decide) rfl (fun _ => ?_) (fun h9 => absurd h9 (by decide))
  refine q_iload_n (pc2 := 75) C 1 dL_of_74 rfl rfl rfl ?_
  refine q_iconst (v := nI 5) (pc2 := 76) C dL_of_75 (by decide) rfl ?_
  refine q_icmp_ne (tgt := 87) (pc2 := 79) C dL_of_76 (by decide) rfl (fun _ => ?_) (fun h9 => absurd h9 (by decide))
  refine q_iload_n (pc2 := 88) C 1 dL_of_87 rfl rfl rfl ?_
  refine q_bipush (v := nI 6) (pc2 := 90) C dL_of_88 (by decide) rfl ?_
  refine q_icmp_ne (tgt := 101) (pc2 := 93) C dL_of_90 (by decide) rfl (fun _ => ?_) (fun h9 => absurd h9 (by decide))
  refine q_iload_n (pc2 := 102) C 1 dL_of_101 rfl rfl rfl ?_
  refine q_bipush (v := nI 7) (pc2 := 104) C dL_of_102 (by decide) rfl ?_
  refine q_icmp_ne (tgt := 115) (pc2 := 107) C dL_of_104 (by decide) rfl (fun h9 => absurd (by decide) h9) (fun _ => ?_)
  refine q_aload_n (pc2 := 108) C 0 dL_of_107 rfl rfl rfl ?_
  refine q_iload_n (pc2 := 109) C 2 dL_of_108 rfl rfl rfl ?_
  refine q_tV (pc2 := 112) (As := [.int v1]) (b := a 30) (st := []) (st2 := [.int r]) (q0 := 0) (w2 := wX ct a x') C hM (cwV 1 C.w gL_of_X3_wantedByCues rfl rfl rfl (by decide +kernel) ⟨Nat.le_of_ble_eq_true rfl, Nat.le_of_ble_eq_true rfl⟩) (wX_g0 ct a x) rfl [0, 1, 2, 3, 4, 5, 6, 7, 8, 9, 10, 11, 12, 13, 14, 15, 16, 17, 18, 19, 20, 21, 22, 23, 24, 25] [] [0, 1, 2, 3, 4, 5, 6, 7, 8, 9, 10, 11, 12, 13, 14, 15, 16, 17, 18, 19, 20, 21, 22, 23, 24, 25] (wX_S ct a x) rfl (by decide) (by decide) (by decide) (wX_S ct a x') (by decide) (wX_S ct a x) dL_of_109 rfl rfl (Nat.le_of_ble_eq_true rfl) ⟨Nat.le_of_eq (Nat.zero_add _), Nat.le_of_eq (Nat.zero_add _)⟩ rfl rfl (fun E hE => ?_) (fun hE => ?_)
  · have hm := hoc E hE
    obtain hm1 := List.mem_singleton.mp hm
    subst hm1
    refine q_catch (pc2 := 129) (E := eI) C htab 0 (q := (0, 128, 129, 36)) rfl (fun z hz => nomatch hz) (by decide) (by decide) (by decide +kernel) (by decide +kernel) rfl (fun q9 => ?_)
    refine q_astore (lv' := [(4, .ref q9), (0, .ref (a 30)), (1, .int (nI 7)), (2, .int v1), (3, .int v2)]) (pc2 := 131) C dL_of_129 (by decide) rfl rfl ?_
    refine q_bipush (v := (-101)) (pc2 := 133) C dL_of_131 (by decide) rfl ?_
    exact q_zretX C hQ rfl rfl (ocC_of hE) (ocS_of hE) dL_of_133 ⟨by rw [hE]; rfl, by rw [hE]; rfl⟩
  · skip
    refine q_goto (pc2 := 128) C dL_of_112 (by decide) ?_
    exact q_zretX C hQ rfl rfl (Nat.zero_le _) (Nat.zero_le _) dL_of_128 ⟨by rw [hE]; rfl, by rw [hE]; rfl⟩

set_option maxHeartbeats 4000000 in
set_option maxRecDepth 100000 in
theorem c_L_of8 (l : Launch) (D : va_G) (ct : Nat → ClassId) (a : Nat → Nat) (x x' : Nat → Nat → Int32) (v1 v2 : Int32) (oc : Option String) (r : Int32) (hr : r = 0 ∨ r = 1) (hM : qMX l yX3_bulb wsX3_bulb ({ frames := 7, cells := ocC oc, slots := ocS oc, locals := 111 }) D ct [.ref (a 30), .int v1] (wX ct a x) (qDo oc (some (.int r)) (wX ct a x')) (qDx oc (wX ct a x)) (ocC oc) (ocS oc)) (hoc : ∀ E, oc = some E → E ∈ ([eI] : List String)) : qMX l yL_of wsL_of ({ frames := 8, cells := ocC oc, slots := ocS oc, locals := 132 }) D ct [.ref (a 30), .int (nI 8), .int v1, .int v2] (wX ct a x) (qD (some (.int (hcd [eI] r oc))) (wXq ct a x x' oc)) (fun _ _ => False) (ocC oc) (ocS oc) := by
  refine q_startH (ret := some .int) (lv := [(0, .ref (a 30)), (1, .int (nI 8)), (2, .int v1), (3, .int v2)]) (by decide +kernel) rfl (Nat.le_of_ble_eq_true rfl) rfl ?_
  intro p e s m args below meth c A Q C hQ htab
  refine q_iload_n (pc2 := 1) C 1 dL_of_0 rfl rfl rfl ?_
  refine q_if_ne (tgt := 20) (pc2 := 4) C dL_of_1 (by decide) rfl (fun _ => ?_) (fun h9 => absurd h9 (by decide))
  refine q_iload_n (pc2 := 21) C 1 dL_of_20 rfl rfl rfl ?_
  refine q_iconst (v := nI 1) (pc2 := 22) C dL_of_21 (by decide) rfl ?_
  refine q_icmp_ne (tgt := 34) (pc2 := 25) C dL_of_22 (by decide) rfl (fun _ => ?_) (fun h9 => absurd h9 (by decide))
  refine q_iload_n (pc2 := 35) C 1 dL_of_34 rfl rfl rfl ?_
  refine q_iconst (v := nI 2) (pc2 := 36) C dL_of_35 (by decide) rfl ?_
  refine q_icmp_ne (tgt := 47) (pc2 := 39) C dL_of_36 (by decide) rfl (fun _ => ?_) (fun h9 => absurd h9 (by decide))
  refine q_iload_n (pc2 := 48) C 1 dL_of_47 rfl rfl rfl ?_
  refine q_iconst (v := nI 3) (pc2 := 49) C dL_of_48 (by decide) rfl ?_
  refine q_icmp_ne (tgt := 61) (pc2 := 52) C dL_of_49 (by decide) rfl (fun _ => ?_) (fun h9 => absurd h9 (by decide))
  refine q_iload_n (pc2 := 62) C 1 dL_of_61 rfl rfl rfl ?_
  refine q_iconst (v := nI 4) (pc2 := 63) C dL_of_62 (by decide) rfl ?_
  refine q_icmp_ne (tgt := 74) (pc2 := 66) C dL_of_63 (by decide) rfl (fun _ => ?_) (fun h9 => absurd h9 (by decide))
  refine q_iload_n (pc2 := 75) C 1 dL_of_74 rfl rfl rfl ?_
  refine q_iconst (v := nI 5) (pc2 := 76) C dL_of_75 (by decide) rfl ?_
  refine q_icmp_ne (tgt := 87) (pc2 := 79) C dL_of_76 (by decide) rfl (fun _ => ?_) (fun h9 => absurd h9 (by decide))
  refine q_iload_n (pc2 := 88) C 1 dL_of_87 rfl rfl rfl ?_
  refine q_bipush (v := nI 6) (pc2 := 90) C dL_of_88 (by decide) rfl ?_
  refine q_icmp_ne (tgt := 101) (pc2 := 93) C dL_of_90 (by decide) rfl (fun _ => ?_) (fun h9 => absurd h9 (by decide))
  refine q_iload_n (pc2 := 102) C 1 dL_of_101 rfl rfl rfl ?_
  refine q_bipush (v := nI 7) (pc2 := 104) C dL_of_102 (by decide) rfl ?_
  refine q_icmp_ne (tgt := 115) (pc2 := 107) C dL_of_104 (by decide) rfl (fun _ => ?_) (fun h9 => absurd h9 (by decide))
  refine q_aload_n (pc2 := 116) C 0 dL_of_115 rfl rfl rfl ?_
  refine q_iload_n (pc2 := 117) C 2 dL_of_116 rfl rfl rfl ?_
  refine q_tV (pc2 := 120) (As := [.int v1]) (b := a 30) (st := []) (st2 := [.int r]) (q0 := 0) (w2 := wX ct a x') C hM (cwV 1 C.w gL_of_X3_bulb rfl rfl rfl (by decide +kernel) ⟨Nat.le_of_ble_eq_true rfl, Nat.le_of_ble_eq_true rfl⟩) (wX_g0 ct a x) rfl [0, 1, 2, 3, 4, 5, 6, 7, 8, 9, 10, 11, 12, 13, 14, 15, 16, 17, 18, 19, 20, 21, 22, 23, 24, 25] [] [0, 1, 2, 3, 4, 5, 6, 7, 8, 9, 10, 11, 12, 13, 14, 15, 16, 17, 18, 19, 20, 21, 22, 23, 24, 25] (wX_S ct a x) rfl (by decide) (by decide) (by decide) (wX_S ct a x') (by decide) (wX_S ct a x) dL_of_117 rfl rfl (Nat.le_of_ble_eq_true rfl) ⟨Nat.le_of_eq (Nat.zero_add _), Nat.le_of_eq (Nat.zero_add _)⟩ rfl rfl (fun E hE => ?_) (fun hE => ?_)
  · have hm := hoc E hE
    obtain hm1 := List.mem_singleton.mp hm
    subst hm1
    refine q_catch (pc2 := 129) (E := eI) C htab 0 (q := (0, 128, 129, 36)) rfl (fun z hz => nomatch hz) (by decide) (by decide) (by decide +kernel) (by decide +kernel) rfl (fun q9 => ?_)
    refine q_astore (lv' := [(4, .ref q9), (0, .ref (a 30)), (1, .int (nI 8)), (2, .int v1), (3, .int v2)]) (pc2 := 131) C dL_of_129 (by decide) rfl rfl ?_
    refine q_bipush (v := (-101)) (pc2 := 133) C dL_of_131 (by decide) rfl ?_
    exact q_zretX C hQ rfl rfl (ocC_of hE) (ocS_of hE) dL_of_133 ⟨by rw [hE]; rfl, by rw [hE]; rfl⟩
  · skip
    refine q_if_eq (tgt := 127) (pc2 := 123) C dL_of_120 (by decide) rfl (fun c120 => ?_) (fun c120 => ?_)
    · skip
      have c9 := c120
      refine q_iconst (v := nI 0) (pc2 := 128) C dL_of_127 (by decide) rfl ?_
      exact q_zretX C hQ rfl rfl (Nat.zero_le _) (Nat.zero_le _) dL_of_128 ⟨by rw [hE, c9]; rfl, by rw [hE]; rfl⟩
    · skip
      have c9 := c120
      refine q_iconst (v := nI 1) (pc2 := 124) C dL_of_123 (by decide) rfl ?_
      refine q_goto (pc2 := 128) C dL_of_124 (by decide) ?_
      exact q_zretX C hQ rfl rfl (Nat.zero_le _) (Nat.zero_le _) dL_of_128 ⟨by rw [hE, hr.resolve_left c9]; rfl, by rw [hE]; rfl⟩

