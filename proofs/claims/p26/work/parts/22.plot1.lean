/-! PlotPatch's own methods -/
def wdX (k : Int32) : Int32 := if k = 0 then 1 else if k = 1 then 1 else if k = 2 then 4 else 12
theorem tab_out {v : Int32} (h0 : ¬ v = 0) (h1 : ¬ v = 1) (h2 : ¬ v = 2) : v.toInt < 0 ∨ 2 < v.toInt := by
  have n0 : v.toInt ≠ 0 := fun h => h0 (Int32.toInt_inj.mp (h.trans rfl))
  have n1 : v.toInt ≠ 1 := fun h => h1 (Int32.toInt_inj.mp (h.trans rfl))
  have n2 : v.toInt ≠ 2 := fun h => h2 (Int32.toInt_inj.mp (h.trans rfl))
  omega
section QTAB
variable {p : Program} {l : Launch} {e : Env} {R : Room} {s : State} {m : MethodId} {args : Array Value} {below : List Frame} {meth : Method} {c : Code} {D : va_G} {ct : Nat → ClassId} {A : Nat → Prop} {nL cells slots : Nat} {Q : State → Prop}
variable {cc : ByteArray} {ret : Option FieldType} {Ts : List Cond} {own : String} {pc pc2 : Nat} {lv lv' : List (Nat × Value)} {st : List Value} {ws : va_W}
theorem q_tabIn (C : Cx p s m args c meth cc nL ret Ts own D ct A) {dflt lo hi : Int} {offs : Array Int} {len : Nat} {x : Int32} {off : Int} (hdg : decode cc pc = .ok (.tableswitch dflt lo hi offs, len)) (h1 : ¬ x.toInt < lo) (h2 : ¬ hi < x.toInt) (ho : offs[(x.toInt - lo).toNat]? = some off) (ht : (pc : Int) + off = (pc2 : Int)) (k : Cf p l e R s m args below meth c D A nL cells slots Q pc2 lv st ws) : Cf p l e R s m args below meth c D A nL cells slots Q pc lv (.int x :: st) ws :=
  fun H locs ls hP hD hS hl => lv_tableIn C.1.1 C.1.2.1 hdg h1 h2 ho ht (k H locs ls hP hD hS hl)
theorem q_tabOut (C : Cx p s m args c meth cc nL ret Ts own D ct A) {dflt lo hi : Int} {offs : Array Int} {len : Nat} {x : Int32} (hdg : decode cc pc = .ok (.tableswitch dflt lo hi offs, len)) (h : x.toInt < lo ∨ hi < x.toInt) (ht : (pc : Int) + dflt = (pc2 : Int)) (k : Cf p l e R s m args below meth c D A nL cells slots Q pc2 lv st ws) : Cf p l e R s m args below meth c D A nL cells slots Q pc lv (.int x :: st) ws :=
  fun H locs ls hP hD hS hl => lv_tableOut C.1.1 C.1.2.1 hdg h ht (k H locs ls hP hD hS hl)
end QTAB
def shX (x : Nat → Nat → Int32) (k : Nat) : Int32 := if x 9 k ≠ -1 then (if x 3 k = 0 then wlX x k else 0) else 0

set_option maxHeartbeats 4000000 in
set_option maxRecDepth 100000 in
theorem c_X3_weightOfKind (l : Launch) (D : va_G) (ct : Nat → ClassId) (v : Int32) : qM l yX3_weightOfKind wsX3_weightOfKind ({ frames := 0, cells := 0, slots := 0, locals := 0 }) D ct [.int v] [] (qD (some (.int (wgh v))) []) 0 0 := by
  refine q_start (ret := some .int) (lv := [(0, .int v)]) (by decide +kernel) rfl (Nat.le_of_ble_eq_true rfl) rfl ?_
  intro p e s m args below meth c A Q C hQ hnm
  refine q_iload_n (pc2 := 1) C 0 dX3_weightOfKind_0 rfl rfl rfl ?_
  by_cases h0 : v = 0
  · skip
    refine q_tabIn (pc2 := 28) C dX3_weightOfKind_1 (by rw [h0]; decide) (by rw [h0]; decide) (by rw [h0]; rfl) (by decide) ?_
    refine q_iconst (v := 4) (pc2 := 29) C dX3_weightOfKind_28 (by decide) rfl ?_
    exact q_zret C hQ rfl (rfl) (Nat.zero_le _) (Nat.zero_le _) dX3_weightOfKind_29 ⟨by unfold wgh; rw [if_pos h0], rfl⟩
  by_cases h1 : v = 1
  · skip
    refine q_tabIn (pc2 := 30) C dX3_weightOfKind_1 (by rw [h1]; decide) (by rw [h1]; decide) (by rw [h1]; rfl) (by decide) ?_
    refine q_bipush (v := 9) (pc2 := 32) C dX3_weightOfKind_30 (by decide) rfl ?_
    exact q_zret C hQ rfl (rfl) (Nat.zero_le _) (Nat.zero_le _) dX3_weightOfKind_32 ⟨by unfold wgh; rw [if_neg h0, if_pos h1], rfl⟩
  by_cases h2 : v = 2
  · skip
    refine q_tabIn (pc2 := 33) C dX3_weightOfKind_1 (by rw [h2]; decide) (by rw [h2]; decide) (by rw [h2]; rfl) (by decide) ?_
    refine q_bipush (v := 12) (pc2 := 35) C dX3_weightOfKind_33 (by decide) rfl ?_
    exact q_zret C hQ rfl (rfl) (Nat.zero_le _) (Nat.zero_le _) dX3_weightOfKind_35 ⟨by unfold wgh; rw [if_neg h0, if_neg h1, if_pos h2], rfl⟩
  refine q_tabOut (pc2 := 36) C dX3_weightOfKind_1 (tab_out h0 h1 h2) (by decide) ?_
  refine q_bipush (v := 25) (pc2 := 38) C dX3_weightOfKind_36 (by decide) rfl ?_
  exact q_zret C hQ rfl (rfl) (Nat.zero_le _) (Nat.zero_le _) dX3_weightOfKind_38 ⟨by unfold wgh; rw [if_neg h0, if_neg h1, if_neg h2], rfl⟩

set_option maxHeartbeats 4000000 in
set_option maxRecDepth 100000 in
theorem c_X3_wattsOfKind (l : Launch) (D : va_G) (ct : Nat → ClassId) (v : Int32) : qM l yX3_wattsOfKind wsX3_wattsOfKind ({ frames := 0, cells := 0, slots := 0, locals := 0 }) D ct [.int v] [] (qD (some (.int (drw v))) []) 0 0 := by
  refine q_start (ret := some .int) (lv := [(0, .int v)]) (by decide +kernel) rfl (Nat.le_of_ble_eq_true rfl) rfl ?_
  intro p e s m args below meth c A Q C hQ hnm
  refine q_iload_n (pc2 := 1) C 0 dX3_wattsOfKind_0 rfl rfl rfl ?_
  by_cases h0 : v = 0
  · skip
    refine q_tabIn (pc2 := 28) C dX3_wattsOfKind_1 (by rw [h0]; decide) (by rw [h0]; decide) (by rw [h0]; rfl) (by decide) ?_
    refine q_sipush (v := 1000) (pc2 := 31) C dX3_wattsOfKind_28 (by decide) rfl ?_
    exact q_zret C hQ rfl (rfl) (Nat.zero_le _) (Nat.zero_le _) dX3_wattsOfKind_31 ⟨by unfold drw; rw [if_pos h0], rfl⟩
  by_cases h1 : v = 1
  · skip
    refine q_tabIn (pc2 := 32) C dX3_wattsOfKind_1 (by rw [h1]; decide) (by rw [h1]; decide) (by rw [h1]; rfl) (by decide) ?_
    refine q_sipush (v := 750) (pc2 := 35) C dX3_wattsOfKind_32 (by decide) rfl ?_
    exact q_zret C hQ rfl (rfl) (Nat.zero_le _) (Nat.zero_le _) dX3_wattsOfKind_35 ⟨by unfold drw; rw [if_neg h0, if_pos h1], rfl⟩
  by_cases h2 : v = 2
  · skip
    refine q_tabIn (pc2 := 36) C dX3_wattsOfKind_1 (by rw [h2]; decide) (by rw [h2]; decide) (by rw [h2]; rfl) (by decide) ?_
    refine q_sipush (v := 500) (pc2 := 39) C dX3_wattsOfKind_36 (by decide) rfl ?_
    exact q_zret C hQ rfl (rfl) (Nat.zero_le _) (Nat.zero_le _) dX3_wattsOfKind_39 ⟨by unfold drw; rw [if_neg h0, if_neg h1, if_pos h2], rfl⟩
  refine q_tabOut (pc2 := 40) C dX3_wattsOfKind_1 (tab_out h0 h1 h2) (by decide) ?_
  refine q_sipush (v := 800) (pc2 := 43) C dX3_wattsOfKind_40 (by decide) rfl ?_
  exact q_zret C hQ rfl (rfl) (Nat.zero_le _) (Nat.zero_le _) dX3_wattsOfKind_43 ⟨by unfold drw; rw [if_neg h0, if_neg h1, if_neg h2], rfl⟩

set_option maxHeartbeats 4000000 in
set_option maxRecDepth 100000 in
theorem c_X3_widthOfKind (l : Launch) (D : va_G) (ct : Nat → ClassId) (v : Int32) : qM l yX3_widthOfKind wsX3_widthOfKind ({ frames := 0, cells := 0, slots := 0, locals := 0 }) D ct [.int v] [] (qD (some (.int (wdX v))) []) 0 0 := by
  refine q_start (ret := some .int) (lv := [(0, .int v)]) (by decide +kernel) rfl (Nat.le_of_ble_eq_true rfl) rfl ?_
  intro p e s m args below meth c A Q C hQ hnm
  refine q_iload_n (pc2 := 1) C 0 dX3_widthOfKind_0 rfl rfl rfl ?_
  by_cases h0 : v = 0
  · skip
    refine q_tabIn (pc2 := 28) C dX3_widthOfKind_1 (by rw [h0]; decide) (by rw [h0]; decide) (by rw [h0]; rfl) (by decide) ?_
    refine q_iconst (v := 1) (pc2 := 29) C dX3_widthOfKind_28 (by decide) rfl ?_
    exact q_zret C hQ rfl (rfl) (Nat.zero_le _) (Nat.zero_le _) dX3_widthOfKind_29 ⟨by unfold wdX; rw [if_pos h0], rfl⟩
  by_cases h1 : v = 1
  · skip
    refine q_tabIn (pc2 := 30) C dX3_widthOfKind_1 (by rw [h1]; decide) (by rw [h1]; decide) (by rw [h1]; rfl) (by decide) ?_
    refine q_iconst (v := 1) (pc2 := 31) C dX3_widthOfKind_30 (by decide) rfl ?_
    exact q_zret C hQ rfl (rfl) (Nat.zero_le _) (Nat.zero_le _) dX3_widthOfKind_31 ⟨by unfold wdX; rw [if_neg h0, if_pos h1], rfl⟩
  by_cases h2 : v = 2
  · skip
    refine q_tabIn (pc2 := 32) C dX3_widthOfKind_1 (by rw [h2]; decide) (by rw [h2]; decide) (by rw [h2]; rfl) (by decide) ?_
    refine q_iconst (v := 4) (pc2 := 33) C dX3_widthOfKind_32 (by decide) rfl ?_
    exact q_zret C hQ rfl (rfl) (Nat.zero_le _) (Nat.zero_le _) dX3_widthOfKind_33 ⟨by unfold wdX; rw [if_neg h0, if_neg h1, if_pos h2], rfl⟩
  refine q_tabOut (pc2 := 34) C dX3_widthOfKind_1 (tab_out h0 h1 h2) (by decide) ?_
  refine q_bipush (v := 12) (pc2 := 36) C dX3_widthOfKind_34 (by decide) rfl ?_
  exact q_zret C hQ rfl (rfl) (Nat.zero_le _) (Nat.zero_le _) dX3_widthOfKind_36 ⟨by unfold wdX; rw [if_neg h0, if_neg h1, if_neg h2], rfl⟩

set_option maxHeartbeats 4000000 in
set_option maxRecDepth 100000 in
theorem c_X3_checkLamp (l : Launch) (hl : l.stackTraces = false) (D : va_G) (ct : Nat → ClassId) (a : Nat → Nat) (x : Nat → Nat → Int32) (v : Int32) : qMX l yX3_checkLamp wsX3_checkLamp ({ frames := 6, cells := (ocC (if (0 ≤ v ∧ v < x 0 0) then none else some eI)), slots := (ocS (if (0 ≤ v ∧ v < x 0 0) then none else some eI)), locals := 90 }) D ct [.ref (a 30), .int v] (wX ct a x) (qDo (if (0 ≤ v ∧ v < x 0 0) then none else some eI) none (wX ct a x)) (qDx (if (0 ≤ v ∧ v < x 0 0) then none else some eI) (wX ct a x)) (ocC (if (0 ≤ v ∧ v < x 0 0) then none else some eI)) (ocS (if (0 ≤ v ∧ v < x 0 0) then none else some eI)) := by
  refine q_startX (ret := none) (lv := [(0, .ref (a 30)), (1, .int v)]) (by decide +kernel) rfl (Nat.le_of_ble_eq_true rfl) rfl ?_
  intro p e s m args below meth c A Q C hQ htab
  have hT3 : ∀ w ∈ u_ws RX3 TX3 7, w ∈ wsX3_checkLamp := by decide +kernel
  have f7 : (Cond.fieldLink RX3 7 "PlotPatch" "lampCount" "I").before args s = true := C.w _ (by decide +kernel)
  refine q_iload_n (pc2 := 1) C 1 dX3_checkLamp_0 rfl rfl rfl ?_
  refine q_if_lt (tgt := 12) (pc2 := 4) C dX3_checkLamp_1 (by decide) rfl (fun c1 => ?_) (fun c1 => ?_)
  · skip
    have hoc : (if (0 ≤ v ∧ v < x 0 0) then none else some eI) = some eI := (by rw [if_neg (fun z => absurd c1 (Int32.not_lt.mpr z.1))])
    exact q_throwS C hl hQ htab (cls := "java/lang/IndexOutOfBoundsException") (names := ["java/lang/RuntimeException", "java/lang/Exception"]) rfl 8 rfl (by decide +kernel) (by decide +kernel) (C.w (.classLink RX3 45 "java/lang/IndexOutOfBoundsException") (by decide +kernel)) (C.w (.initialized "java/lang/IndexOutOfBoundsException") (by decide +kernel)) (q_atS C.2.1 (fun w hw => C.w w (List.mem_cons_of_mem _ (List.mem_append_right _ hw))) q_ng0 (by decide +kernel)) q_ot0 dX3_checkLamp_12 dX3_checkLamp_15 dX3_checkLamp_16 dX3_checkLamp_18 dX3_checkLamp_21 (Nat.le_of_ble_eq_true rfl) (Nat.le_of_ble_eq_true rfl) (ocC_of hoc) (ocS_of hoc) (ocC_of hoc) (ocS_of hoc) ⟨hoc, rfl⟩
  · skip
    refine q_iload_n (pc2 := 5) C 1 dX3_checkLamp_4 rfl rfl rfl ?_
    refine q_aload_n (pc2 := 6) C 0 dX3_checkLamp_5 rfl rfl rfl ?_
    refine q_get (q0 := 0) (k := 0) (v := .int (x 0 0)) (pc2 := 9) C hT3 f7 (wX_g0 ct a x) rfl (by decide) rfl rfl dX3_checkLamp_6 rfl ?_
    refine q_icmp_lt (tgt := 22) (pc2 := 12) C dX3_checkLamp_9 (by decide) rfl (fun c9 => ?_) (fun c9 => ?_)
    · skip
      have k0 : (0 ≤ v ∧ v < x 0 0) := ⟨Int32.not_lt.mp c1, c9⟩
      exact q_vretX C hQ rfl (Nat.zero_le _) (Nat.zero_le _) dX3_checkLamp_22 ⟨(by rw [if_pos k0]), rfl, rfl⟩
    · skip
      have hoc : (if (0 ≤ v ∧ v < x 0 0) then none else some eI) = some eI := (by rw [if_neg (fun z => c9 z.2)])
      exact q_throwS C hl hQ htab (cls := "java/lang/IndexOutOfBoundsException") (names := ["java/lang/RuntimeException", "java/lang/Exception"]) rfl 8 rfl (by decide +kernel) (by decide +kernel) (C.w (.classLink RX3 45 "java/lang/IndexOutOfBoundsException") (by decide +kernel)) (C.w (.initialized "java/lang/IndexOutOfBoundsException") (by decide +kernel)) (q_atS C.2.1 (fun w hw => C.w w (List.mem_cons_of_mem _ (List.mem_append_right _ hw))) q_ng0 (by decide +kernel)) q_ot0 dX3_checkLamp_12 dX3_checkLamp_15 dX3_checkLamp_16 dX3_checkLamp_18 dX3_checkLamp_21 (Nat.le_of_ble_eq_true rfl) (Nat.le_of_ble_eq_true rfl) (ocC_of hoc) (ocS_of hoc) (ocC_of hoc) (ocS_of hoc) ⟨hoc, rfl⟩

set_option maxHeartbeats 4000000 in
set_option maxRecDepth 100000 in
theorem c_X3_checkBar (l : Launch) (hl : l.stackTraces = false) (D : va_G) (ct : Nat → ClassId) (a : Nat → Nat) (x : Nat → Nat → Int32) (h : Nat) (hh : x 4 0 = nI h) (hlt : h < 2) (v : Int32) : qMX l yX3_checkBar wsX3_checkBar ({ frames := 6, cells := (ocC (if (0 ≤ v ∧ v < x 5 h) then none else some eI)), slots := (ocS (if (0 ≤ v ∧ v < x 5 h) then none else some eI)), locals := 90 }) D ct [.ref (a 30), .int v] (wX ct a x) (qDo (if (0 ≤ v ∧ v < x 5 h) then none else some eI) none (wX ct a x)) (qDx (if (0 ≤ v ∧ v < x 5 h) then none else some eI) (wX ct a x)) (ocC (if (0 ≤ v ∧ v < x 5 h) then none else some eI)) (ocS (if (0 ≤ v ∧ v < x 5 h) then none else some eI)) := by
  refine q_startX (ret := none) (lv := [(0, .ref (a 30)), (1, .int v)]) (by decide +kernel) rfl (Nat.le_of_ble_eq_true rfl) rfl ?_
  intro p e s m args below meth c A Q C hQ htab
  have hT3 : ∀ w ∈ u_ws RX3 TX3 7, w ∈ wsX3_checkBar := by decide +kernel
  have f27 : (Cond.fieldLink RX3 27 "PlotPatch" "rig" "LPlotPatch$Rig;").before args s = true := C.w _ (by decide +kernel)
  refine q_aload_n (pc2 := 1) C 0 dX3_checkBar_0 rfl rfl rfl ?_
  refine q_get (q0 := 0) (k := 4) (v := .ref (a 31)) (pc2 := 4) C hT3 f27 (wX_g0 ct a x) rfl (by decide) rfl rfl dX3_checkBar_1 rfl ?_
  refine q_iload_n (pc2 := 5) C 1 dX3_checkBar_4 rfl rfl rfl ?_
  refine q_cVN (pc2 := 8) (As := [.int v]) (st := []) (st2 := [.int (b2 (0 ≤ v ∧ v < x 5 h))]) (q0 := 0) (w2 := (wX ct a x)) (c2 := 0) (s2 := 0) C (c_X1_hasBar l D ct a x h hh hlt v) (⟨va_cnB 1 C.w gX3_checkBar_X1_hasBar_n203 rfl rfl rfl (C.2.1.nm 1 rfl) (C.w (.initialized RX1) (by decide +kernel)) (by decide +kernel) ⟨Nat.le_of_ble_eq_true rfl, Nat.le_of_ble_eq_true rfl⟩, C.w (.instanceMethod yX1_hasBar) (by decide +kernel), C.w (.selects RX1 yX1_hasBar yX1_hasBar) (by decide +kernel)⟩) rfl rfl [4, 5, 6, 7, 8, 9, 10, 11] [0, 1, 2, 3, 12, 13, 14, 15, 16, 17, 18, 19, 20, 21, 22, 23, 24, 25] [0, 1, 2, 3, 18, 19, 20, 21, 22, 23, 24, 25, 4, 5, 6, 7, 8, 9, 10, 11, 12, 13, 14, 15, 16, 17] rfl rfl (by decide) (by decide) (by decide) rfl (by decide) dX3_checkBar_5 rfl rfl (Nat.le_of_ble_eq_true rfl) ⟨Nat.zero_le _, Nat.zero_le _⟩ rfl rfl rfl rfl ?_
  refine q_if_ne (tgt := 21) (pc2 := 11) C dX3_checkBar_8 (by decide) rfl (fun c8 => ?_) (fun c8 => ?_)
  · skip
    have k0 : (0 ≤ v ∧ v < x 5 h) := b2_ne.mp c8
    exact q_vretX C hQ rfl (Nat.zero_le _) (Nat.zero_le _) dX3_checkBar_21 ⟨(by rw [if_pos k0]), rfl, rfl⟩
  · skip
    have hoc : (if (0 ≤ v ∧ v < x 5 h) then none else some eI) = some eI := (by rw [if_neg (b2_eq.mp c8)])
    exact q_throwS C hl hQ htab (cls := "java/lang/IndexOutOfBoundsException") (names := ["java/lang/RuntimeException", "java/lang/Exception"]) rfl 9 rfl (by decide +kernel) (by decide +kernel) (C.w (.classLink RX3 45 "java/lang/IndexOutOfBoundsException") (by decide +kernel)) (C.w (.initialized "java/lang/IndexOutOfBoundsException") (by decide +kernel)) (q_atS C.2.1 (fun w hw => C.w w (List.mem_cons_of_mem _ (List.mem_append_right _ hw))) q_ng0 (by decide +kernel)) q_ot0 dX3_checkBar_11 dX3_checkBar_14 dX3_checkBar_15 dX3_checkBar_17 dX3_checkBar_20 (Nat.le_of_ble_eq_true rfl) (Nat.le_of_ble_eq_true rfl) (ocC_of hoc) (ocS_of hoc) (ocC_of hoc) (ocS_of hoc) ⟨hoc, rfl⟩

set_option maxHeartbeats 4000000 in
set_option maxRecDepth 100000 in
theorem c_X3_checkCircuit (l : Launch) (hl : l.stackTraces = false) (D : va_G) (ct : Nat → ClassId) (v : Int32) : qMX l yX3_checkCircuit wsX3_checkCircuit ({ frames := 6, cells := (ocC (if (0 ≤ v ∧ v < 4) then none else some eI)), slots := (ocS (if (0 ≤ v ∧ v < 4) then none else some eI)), locals := 90 }) D ct [.int v] [] (qDo (if (0 ≤ v ∧ v < 4) then none else some eI) none []) (qDx (if (0 ≤ v ∧ v < 4) then none else some eI) []) (ocC (if (0 ≤ v ∧ v < 4) then none else some eI)) (ocS (if (0 ≤ v ∧ v < 4) then none else some eI)) := by
  refine q_startX (ret := none) (lv := [(0, .int v)]) (by decide +kernel) rfl (Nat.le_of_ble_eq_true rfl) rfl ?_
  intro p e s m args below meth c A Q C hQ htab
  refine q_iload_n (pc2 := 1) C 0 dX3_checkCircuit_0 rfl rfl rfl ?_
  refine q_if_lt (tgt := 9) (pc2 := 4) C dX3_checkCircuit_1 (by decide) rfl (fun c1 => ?_) (fun c1 => ?_)
  · skip
    have hoc : (if (0 ≤ v ∧ v < 4) then none else some eI) = some eI := (by rw [if_neg (fun z => absurd c1 (Int32.not_lt.mpr z.1))])
    exact q_throwS C hl hQ htab (cls := "java/lang/IndexOutOfBoundsException") (names := ["java/lang/RuntimeException", "java/lang/Exception"]) rfl 10 rfl (by decide +kernel) (by decide +kernel) (C.w (.classLink RX3 45 "java/lang/IndexOutOfBoundsException") (by decide +kernel)) (C.w (.initialized "java/lang/IndexOutOfBoundsException") (by decide +kernel)) (q_atS C.2.1 (fun w hw => C.w w (List.mem_cons_of_mem _ (List.mem_append_right _ hw))) q_ng0 (by decide +kernel)) q_ot0 dX3_checkCircuit_9 dX3_checkCircuit_12 dX3_checkCircuit_13 dX3_checkCircuit_15 dX3_checkCircuit_18 (Nat.le_of_ble_eq_true rfl) (Nat.le_of_ble_eq_true rfl) (ocC_of hoc) (ocS_of hoc) (ocC_of hoc) (ocS_of hoc) ⟨hoc, rfl⟩
  · skip
    refine q_iload_n (pc2 := 5) C 0 dX3_checkCircuit_4 rfl rfl rfl ?_
    refine q_iconst (v := 4) (pc2 := 6) C dX3_checkCircuit_5 (by decide) rfl ?_
    refine q_icmp_lt (tgt := 19) (pc2 := 9) C dX3_checkCircuit_6 (by decide) rfl (fun c6 => ?_) (fun c6 => ?_)
    · skip
      have k0 : (0 ≤ v ∧ v < 4) := ⟨Int32.not_lt.mp c1, c6⟩
      exact q_vretX C hQ rfl (Nat.zero_le _) (Nat.zero_le _) dX3_checkCircuit_19 ⟨(by rw [if_pos k0]), rfl, rfl⟩
    · skip
      have hoc : (if (0 ≤ v ∧ v < 4) then none else some eI) = some eI := (by rw [if_neg (fun z => c6 z.2)])
      exact q_throwS C hl hQ htab (cls := "java/lang/IndexOutOfBoundsException") (names := ["java/lang/RuntimeException", "java/lang/Exception"]) rfl 10 rfl (by decide +kernel) (by decide +kernel) (C.w (.classLink RX3 45 "java/lang/IndexOutOfBoundsException") (by decide +kernel)) (C.w (.initialized "java/lang/IndexOutOfBoundsException") (by decide +kernel)) (q_atS C.2.1 (fun w hw => C.w w (List.mem_cons_of_mem _ (List.mem_append_right _ hw))) q_ng0 (by decide +kernel)) q_ot0 dX3_checkCircuit_9 dX3_checkCircuit_12 dX3_checkCircuit_13 dX3_checkCircuit_15 dX3_checkCircuit_18 (Nat.le_of_ble_eq_true rfl) (Nat.le_of_ble_eq_true rfl) (ocC_of hoc) (ocS_of hoc) (ocC_of hoc) (ocS_of hoc) ⟨hoc, rfl⟩

set_option maxHeartbeats 4000000 in
set_option maxRecDepth 100000 in
theorem c_X3_checkRange (l : Launch) (hl : l.stackTraces = false) (D : va_G) (ct : Nat → ClassId) (v lo hi : Int32) : qMX l yX3_checkRange wsX3_checkRange ({ frames := 6, cells := (ocC (if (lo ≤ v ∧ v ≤ hi) then none else some eA)), slots := (ocS (if (lo ≤ v ∧ v ≤ hi) then none else some eA)), locals := 90 }) D ct [.int v, .int lo, .int hi] [] (qDo (if (lo ≤ v ∧ v ≤ hi) then none else some eA) none []) (qDx (if (lo ≤ v ∧ v ≤ hi) then none else some eA) []) (ocC (if (lo ≤ v ∧ v ≤ hi) then none else some eA)) (ocS (if (lo ≤ v ∧ v ≤ hi) then none else some eA)) := by
  refine q_startX (ret := none) (lv := [(0, .int v), (1, .int lo), (2, .int hi)]) (by decide +kernel) rfl (Nat.le_of_ble_eq_true rfl) rfl ?_
  intro p e s m args below meth c A Q C hQ htab
  refine q_iload_n (pc2 := 1) C 0 dX3_checkRange_0 rfl rfl rfl ?_
  refine q_iload_n (pc2 := 2) C 1 dX3_checkRange_1 rfl rfl rfl ?_
  refine q_icmp_lt (tgt := 10) (pc2 := 5) C dX3_checkRange_2 (by decide) rfl (fun c2 => ?_) (fun c2 => ?_)
  · skip
    have hoc : (if (lo ≤ v ∧ v ≤ hi) then none else some eA) = some eA := (by rw [if_neg (fun z => absurd c2 (Int32.not_lt.mpr z.1))])
    exact q_throwS C hl hQ htab (cls := "java/lang/IllegalArgumentException") (names := ["java/lang/RuntimeException", "java/lang/Exception"]) rfl 11 rfl (by decide +kernel) (by decide +kernel) (C.w (.classLink RX3 191 "java/lang/IllegalArgumentException") (by decide +kernel)) (C.w (.initialized "java/lang/IllegalArgumentException") (by decide +kernel)) (q_atS C.2.1 (fun w hw => C.w w (List.mem_cons_of_mem _ (List.mem_append_right _ hw))) q_ng1 (by decide +kernel)) q_ot1 dX3_checkRange_10 dX3_checkRange_13 dX3_checkRange_14 dX3_checkRange_16 dX3_checkRange_19 (Nat.le_of_ble_eq_true rfl) (Nat.le_of_ble_eq_true rfl) (ocC_of hoc) (ocS_of hoc) (ocC_of hoc) (ocS_of hoc) ⟨hoc, rfl⟩
  · skip
    refine q_iload_n (pc2 := 6) C 0 dX3_checkRange_5 rfl rfl rfl ?_
    refine q_iload_n (pc2 := 7) C 2 dX3_checkRange_6 rfl rfl rfl ?_
    refine q_icmp_le (tgt := 20) (pc2 := 10) C dX3_checkRange_7 (by decide) rfl (fun c7 => ?_) (fun c7 => ?_)
    · skip
      have k0 : (lo ≤ v ∧ v ≤ hi) := ⟨Int32.not_lt.mp c2, c7⟩
      exact q_vretX C hQ rfl (Nat.zero_le _) (Nat.zero_le _) dX3_checkRange_20 ⟨(by rw [if_pos k0]), rfl, rfl⟩
    · skip
      have hoc : (if (lo ≤ v ∧ v ≤ hi) then none else some eA) = some eA := (by rw [if_neg (fun z => c7 z.2)])
      exact q_throwS C hl hQ htab (cls := "java/lang/IllegalArgumentException") (names := ["java/lang/RuntimeException", "java/lang/Exception"]) rfl 11 rfl (by decide +kernel) (by decide +kernel) (C.w (.classLink RX3 191 "java/lang/IllegalArgumentException") (by decide +kernel)) (C.w (.initialized "java/lang/IllegalArgumentException") (by decide +kernel)) (q_atS C.2.1 (fun w hw => C.w w (List.mem_cons_of_mem _ (List.mem_append_right _ hw))) q_ng1 (by decide +kernel)) q_ot1 dX3_checkRange_10 dX3_checkRange_13 dX3_checkRange_14 dX3_checkRange_16 dX3_checkRange_19 (Nat.le_of_ble_eq_true rfl) (Nat.le_of_ble_eq_true rfl) (ocC_of hoc) (ocS_of hoc) (ocC_of hoc) (ocS_of hoc) ⟨hoc, rfl⟩
