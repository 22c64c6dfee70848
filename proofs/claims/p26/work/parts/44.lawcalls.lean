/-! rows of the law's own walk: the script, and the comparing of longs -/
section QLAW
variable {p : Program} {l : Launch} {e : Env} {R : Room} {s : State} {m : MethodId} {args : Array Value} {below : List Frame} {meth : Method} {c : Code} {D : va_G} {ct : Nat → ClassId} {A : Nat → Prop} {nL cells slots : Nat} {Q : State → Prop}
variable {cc : ByteArray} {ret : Option FieldType} {Ts : List Cond} {own : String} {pc pc2 : Nat} {lv lv' : List (Nat × Value)} {st : List Value} {ws : va_W}
theorem q_sld (C : Cx p s m args c meth cc nL ret Ts own D ct A) {sb L : Nat} {xs : Nat → Int32} (hX : va_X sb L xs s s.heap) (hbl : sb < s.heap.size) (hbA : ¬ A sb) (j : Nat) {i : Int32} (hi : i = nI j) (hj : j < L) (hL : L < 2 ^ 31) (hdg : decode cc pc = .ok (.iaload, 1)) (hpc : pc + 1 = pc2)
    (kk : Cf p l e R s m args below meth c D A nL cells slots Q pc2 lv (.int (xs j) :: st) ws) : Cf p l e R s m args below meth c D A nL cells slots Q pc lv (.int i :: .ref sb :: st) ws := by
  subst hpc; subst hi
  intro H locs ls hP hD hS hl
  exact va_sld C.1.1 C.1.2.1 hX hbl hbA hS (vp_in_nI hj hL) hdg (by rw [nI_clamp (Nat.lt_trans hj hL)]; exact kk H locs ls hP hD hS hl)
theorem q_slen (C : Cx p s m args c meth cc nL ret Ts own D ct A) {sb L : Nat} {xs : Nat → Int32} (hX : va_X sb L xs s s.heap) (hbl : sb < s.heap.size) (hbA : ¬ A sb) (hdg : decode cc pc = .ok (.arraylength, 1)) (hpc : pc + 1 = pc2)
    (kk : Cf p l e R s m args below meth c D A nL cells slots Q pc2 lv (.int (nI L) :: st) ws) : Cf p l e R s m args below meth c D A nL cells slots Q pc lv (.ref sb :: st) ws := by
  subst hpc
  intro H locs ls hP hD hS hl
  exact va_slen C.1.1 C.1.2.1 hX hbl hbA hS hdg (kk H locs ls hP hD hS hl)
end QLAW

section QLAW2
variable {p : Program} {l : Launch} {e : Env} {R : Room} {s : State} {m : MethodId} {args : Array Value} {below : List Frame} {meth : Method} {c : Code} {D : va_G} {ct : Nat → ClassId} {A : Nat → Prop} {nL cells slots : Nat} {Q : State → Prop}
variable {cc : ByteArray} {ret : Option FieldType} {Ts : List Cond} {own : String} {pc pc2 : Nat} {lv : List (Nat × Value)} {st st0 : List Value} {ws : va_W}
variable {yy : MethodName} {wy wy' : List Cond} {rm : Room} {As : List Value} {mc ms n index maxL : Nat} {bytes : ByteArray} {ret' : Option FieldType} {r : Option Value} {c2 s2 : Nat} {st2 : List Value}
variable {a : Nat → Nat} {x : Nat → Nat → Int32} {fc fb fp fq fn fl : Nat → Int32}
/-- rigs and plays are called -/
theorem q_PR {N : Nat} (C : Cx p s m args c meth cc nL ret Ts own D ct A) (hM : qM l yy wy rm D ct As (wT ct a x fc fb fp fq fn fl) (pR ct a N) mc ms) (cw : CallB R s args own index yy bytes maxL ret' wy rm mc ms n ∧ (Cond.static yy).before args s = true)
    (hdg : decode cc pc = .ok (.invokestatic index, 3)) (hst : st0 = As.reverse ++ st) (hn : As.length = n) (hW : (st.map fun v => v.category).sum ≤ 8) (hf : cells + mc ≤ R.cells ∧ slots + ms ≤ R.slots) (hpc : pc + 3 = pc2)
    (kk : ∀ (x' : Nat → Nat → Int32) (fc' fb' fp' fq' fn' fl' : Nat → Int32), RE N x' fc' fb' fp' fq' fn' fl' → Cf p l e R s m args below meth c D A nL (cells + mc) (slots + ms) Q pc2 lv (.int (nI 1) :: st) (wT ct a x' fc' fb' fp' fq' fn' fl')) : Cf p l e R s m args below meth c D A nL cells slots Q pc lv st0 (wT ct a x fc fb fp fq fn fl) := by
  subst hpc
  refine q_ret C [0, 1, 2, 3, 4, 5, 6, 7, 8, 9, 10, 11, 12, 13, 14, 15, 16, 17, 18, 19, 20, 21, 22, 23, 24, 25, 26, 27, 28, 29, 30, 31] [] (wT_C ct a x fc fb fp fq fn fl) (wr := []) rfl (by decide) (by decide) (by decide) (B' := pR ct a N) (mc' := mc) (ms' := ms) (st := st) (a' := As.toArray) (fun H locs ls hP hD hS hl => ?_) (fun r9 w9 hb => ?_)
  · obtain ⟨hF, hpre⟩ := q_cut C [0, 1, 2, 3, 4, 5, 6, 7, 8, 9, 10, 11, 12, 13, 14, 15, 16, 17, 18, 19, 20, 21, 22, 23, 24, 25, 26, 27, 28, 29, 30, 31] (wT_C ct a x fc fb fp fq fn fl) (by decide) hP hD hS (a' := As.toArray) rfl
    exact va_runS (As := As) C.1 (hM H.size) cw ⟨qPre.blind, hpre⟩ rfl hn hl.1 hst (lv_room hW) hdg hf
  · obtain ⟨rfl, x', fc', fb', fp', fq', fn', fl', rfl, hr⟩ := hb
    exact ⟨_, [0, 1, 2, 3, 4, 5, 6, 7, 8, 9, 10, 11, 12, 13, 14, 15, 16, 17, 18, 19, 20, 21, 22, 23, 24, 25, 26, 27, 28, 29, 30, 31], wT_C ct a x' fc' fb' fp' fq' fn' fl', by decide, kk x' fc' fb' fp' fq' fn' fl' hr⟩
/-- asks is called -/
theorem q_TD (C : Cx p s m args c meth cc nL ret Ts own D ct A) (hM : qM l yy wy rm D ct As (wT ct a x fc fb fp fq fn fl) (qD r (wT ct a x fc fb fp fq fn fl)) mc ms) (cw : CallB R s args own index yy bytes maxL ret' wy rm mc ms n ∧ (Cond.static yy).before args s = true)
    (hdg : decode cc pc = .ok (.invokestatic index, 3)) (hst : st0 = As.reverse ++ st) (hn : As.length = n) (hW : (st.map fun v => v.category).sum ≤ 8) (hf : cells + mc ≤ R.cells ∧ slots + ms ≤ R.slots) (hc2 : cells + mc = c2) (hs2 : slots + ms = s2) (hst2 : r.toList ++ st = st2) (hpc : pc + 3 = pc2)
    (kk : Cf p l e R s m args below meth c D A nL c2 s2 Q pc2 lv st2 (wT ct a x fc fb fp fq fn fl)) : Cf p l e R s m args below meth c D A nL cells slots Q pc lv st0 (wT ct a x fc fb fp fq fn fl) :=
  q_cS C hM cw [0, 1, 2, 3, 4, 5, 6, 7, 8, 9, 10, 11, 12, 13, 14, 15, 16, 17, 18, 19, 20, 21, 22, 23, 24, 25, 26, 27, 28, 29, 30, 31] [] [0, 1, 2, 3, 4, 5, 6, 7, 8, 9, 10, 11, 12, 13, 14, 15, 16, 17, 18, 19, 20, 21, 22, 23, 24, 25, 26, 27, 28, 29, 30, 31] (wT_C ct a x fc fb fp fq fn fl) rfl (by decide) (by decide) (by decide) (wT_C ct a x fc fb fp fq fn fl) (by decide) hdg hst hn hW hf hc2 hs2 hst2 hpc kk
/-- cell's start: the script lies in the heap -/
def qPreS (D : va_G) (ct : Nat → ClassId) (As : List Value) (sz sb L : Nat) (xs : Nat → Int32) : Array Value → State → Prop := fun v U => qPre D ct As [] sz v U ∧ va_X sb L xs U U.heap ∧ sb < U.heap.size
def qSome (D : va_G) (sz : Nat) : Array Value → State → Outcome → State → Prop := qOk D (fun r w => (∃ v : Int32, r = some (.int v)) ∧ w = []) [] sz
theorem qPreS.blind {sz sb L : Nat} {xs : Nat → Int32} : FrameBlind (qPreS D ct As sz sb L xs) := fun a U g mk q => ⟨qPre.blind a U g mk q.1, q.2.1.moved (u := U) (U := U.calling g mk a) (Vm.Alike.refl U.vm), q.2.2⟩
end QLAW2

set_option maxHeartbeats 4000000 in
set_option maxRecDepth 100000 in
theorem c_L_cell (l : Launch) (D : va_G) (ct : Nat → ClassId) (sb L0 : Nat) (xs : Nat → Int32) (hL31 : L0 < 2 ^ 31) (k0 : Nat) (hk31 : k0 < 2 ^ 31) (sz : Nat) : Met l yL_cell wsL_cell { frames := 0, cells := 0, slots := 0, locals := 0 } (qPreS D ct [.ref sb, .int (nI k0)] sz sb L0 xs) (qSome D sz) 0 0 (va_A [] sz) := by
  refine Met.ofW (cc := cL_cell) (maxL := 2) (ret := some .int) (by decide +kernel) rfl ?_
  intro p e s m args below meth c s₁ B0 hml hv
  obtain ⟨⟨rfl, hsz, hP, hE, hD0, hZ⟩, hX, hbl⟩ := hv
  have hts := atoms_spec (ws := wsL_cell) B0.pre
  have hown : s.vm.findClass yL_cell.cls = some m.cls := findClass_of_methodNamed B0.named
  subst hsz
  have hD := hD0.self (sz := s.heap.size)
  have hl := lv_entry [.ref sb, .int (nI k0)] (n := 2) (Nat.le_of_ble_eq_true rfl)
  rw [lg_entry_eq]
  have hbA : ¬ va_A [] s.heap.size sb := fun h => by
    rcases h with ⟨k, e, h⟩ | h
    · simp at h
    · exact absurd hbl (Nat.not_lt.mpr h)
  have C : Cx p s m ([.ref sb, .int (nI k0)] : List Value).toArray c meth cL_cell 2 (some .int) wsL_cell RL D ct (va_A [] s.heap.size) := ⟨⟨B0.exec, B0.bytes, hml, hown, hts⟩, hE, fun q h => Or.inr h, B0.notSynchronized, hZ, B0.returns⟩
  have hQ : qQ D (fun r w => (∃ v : Int32, r = some (.int v)) ∧ w = []) [] s ([.ref sb, .int (nI k0)] : List Value).toArray below 0 0 (va_A [] s.heap.size) (MQ below (qSome D s.heap.size) ([.ref sb, .int (nI k0)] : List Value).toArray s 0 0 (va_A [] s.heap.size)) := ⟨rfl, rfl⟩
  suffices H : Cf p l e { frames := 0, cells := 0, slots := 0, locals := 0 } s m ([.ref sb, .int (nI k0)] : List Value).toArray below meth c D (va_A [] s.heap.size) 2 0 0 (MQ below (qSome D s.heap.size) ([.ref sb, .int (nI k0)] : List Value).toArray s 0 0 (va_A [] s.heap.size)) 0 [(0, .ref sb), (1, .int (nI k0))] [] [] from H s.heap [] _ hP hD va_S.rf hl
  refine q_iload_n (pc2 := 1) C 1 dL_cell_0 rfl rfl rfl ?_
  refine q_aload_n (pc2 := 2) C 0 dL_cell_1 rfl rfl rfl ?_
  refine q_slen (pc2 := 3) C hX hbl hbA dL_cell_2 rfl ?_
  refine q_icmp_ge (tgt := 12) (pc2 := 6) C dL_cell_3 (by decide) rfl (fun c3 => ?_) (fun c3 => ?_)
  · skip
    have k3 : L0 ≤ k0 := (nI_leI (a := L0) (b := k0) (by omega) (by omega)).mp c3
    refine q_ldc2 (pc2 := 15) C (C.w (.constantLong RL 7 (2246822519)) (by decide +kernel)) dL_cell_12 rfl ?_
    refine q_iload_n (pc2 := 16) C 1 dL_cell_15 rfl rfl rfl ?_
    refine q_bipush (v := nI 71) (pc2 := 18) C dL_cell_16 (by decide) rfl ?_
    refine q_iadd (v := nI (k0 + 71)) (pc2 := 19) C dL_cell_18 (nI_add k0 71) rfl ?_
    refine q_i2l (pc2 := 20) C dL_cell_19 rfl rfl ?_
    refine q_lmul (pc2 := 21) C dL_cell_20 rfl rfl ?_
    refine q_iconst (v := nI 5) (pc2 := 22) C dL_cell_21 (by decide) rfl ?_
    refine q_lushr (pc2 := 23) C dL_cell_22 rfl rfl ?_
    refine q_l2i (pc2 := 24) C dL_cell_23 rfl rfl ?_
    exact q_zret C hQ rfl rfl (Nat.zero_le _) (Nat.zero_le _) dL_cell_24 ⟨⟨_, rfl⟩, rfl⟩
  · skip
    have k3 : k0 < L0 := (nI_ltI (a := k0) (b := L0) (by omega) (by omega)).mp (Int32.not_le.mp c3)
    refine q_aload_n (pc2 := 7) C 0 dL_cell_6 rfl rfl rfl ?_
    refine q_iload_n (pc2 := 8) C 1 dL_cell_7 rfl rfl rfl ?_
    refine q_sld (pc2 := 9) C hX hbl hbA k0 rfl k3 hL31 dL_cell_8 rfl ?_
    refine q_goto (pc2 := 24) C dL_cell_9 (by decide) ?_
    exact q_zret C hQ rfl (rfl) (Nat.zero_le _) (Nat.zero_le _) dL_cell_24 ⟨⟨_, rfl⟩, rfl⟩

section QCELL
variable {p : Program} {l : Launch} {e : Env} {R : Room} {s : State} {m : MethodId} {args : Array Value} {below : List Frame} {meth : Method} {c : Code} {D : va_G} {ct : Nat → ClassId} {A : Nat → Prop} {nL cells slots : Nat} {Q : State → Prop}
variable {cc : ByteArray} {ret : Option FieldType} {Ts : List Cond} {own : String} {pc pc2 : Nat} {lv : List (Nat × Value)} {st : List Value} {ws : va_W} {index : Nat} {bytes : ByteArray} {maxL : Nat} {ret' : Option FieldType}
theorem q_cell (C : Cx p s m args c meth cc nL ret Ts own D ct A) {sb L0 : Nat} {xs : Nat → Int32} (hX : va_X sb L0 xs s s.heap) (hbl : sb < s.heap.size) (hbA : ¬ A sb) (hL31 : L0 < 2 ^ 31) (k0 : Nat) (hk31 : k0 < 2 ^ 31) (cw : CallB R s args own index yL_cell bytes maxL ret' wsL_cell { frames := 0, cells := 0, slots := 0, locals := 0 } 0 0 2 ∧ (Cond.static yL_cell).before args s = true)
    (hdg : decode cc pc = .ok (.invokestatic index, 3)) (hW : (st.map fun v => v.category).sum ≤ 8) (hf : cells ≤ R.cells ∧ slots ≤ R.slots) (hpc : pc + 3 = pc2) (kk : ∀ v : Int32, Cf p l e R s m args below meth c D A nL cells slots Q pc2 lv (.int v :: st) ws) : Cf p l e R s m args below meth c D A nL cells slots Q pc lv (.int (nI k0) :: .ref sb :: st) ws := by
  subst hpc
  have h0 := rg_map ws
  have hd := nd_of (List.nodup_range (n := ws.length))
  refine q_ret C [] (List.range ws.length) (wc := []) (wr := ws) rfl h0 hd rfl (fun _ _ h => nomatch h) (B' := fun r w => (∃ v : Int32, r = some (.int v)) ∧ w = []) (mc' := 0) (ms' := 0) (st := st) (a' := ([.ref sb, .int (nI k0)] : List Value).toArray) (fun H locs ls hP hD hS hl => ?_) (fun r9 w9 hb => ?_)
  · obtain ⟨hF, hpre⟩ := q_cut C (wc := []) [] rfl rfl hP hD hS (a' := ([.ref sb, .int (nI k0)] : List Value).toArray) rfl
    refine va_runS (As := [.ref sb, .int (nI k0)]) C.1 (c_L_cell l D ct sb L0 xs hL31 k0 hk31 H.size) cw ⟨qPreS.blind, fun U hU hWm => ⟨hpre U hU hWm, ?_, ?_⟩⟩ rfl rfl hl.1 rfl (lv_room hW) hdg hf
    · rw [hU]; exact (hX.kept (hS.2.1 sb hbl hbA)).moved hWm.alike
    · rw [hU]; exact Nat.lt_of_lt_of_le hbl hS.1
  · obtain ⟨⟨v, rfl⟩, rfl⟩ := hb
    exact ⟨ws, List.range ws.length, by rw [List.append_nil]; exact h0, hd, kk v⟩
end QCELL

