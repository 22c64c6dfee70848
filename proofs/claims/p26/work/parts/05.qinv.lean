/-! the packed walk: calls of methods with one answer -/
section QINV
variable {p : Program} {l : Launch} {e : Env} {R : Room} {s : State} {m : MethodId} {args : Array Value} {below : List Frame} {meth : Method} {c : Code} {D : va_G} {ct : Nat → ClassId} {A : Nat → Prop} {nL cells slots : Nat} {Q : State → Prop}
variable {cc : ByteArray} {ret : Option FieldType} {Ts : List Cond} {own : String} {pc pc2 : Nat} {lv lv' : List (Nat × Value)} {st st0 st2 : List Value} {ws : va_W}
variable {y : MethodName} {wy : List Cond} {rm : Room} {As : List Value} {b q0 ci N c2 s2 : Nat} {T : u_T} {fs : List Value} {wc w1 w2 : va_W} {mc ms n index maxL : Nat} {bytes : ByteArray} {ret' : Option FieldType} {C' host : String} {r : Option Value} {oc : Option String}
def qWr (ws : va_W) (isR : List Nat) : va_W := isR.filterMap (fun i => ws[i]?)
/-- an own or public method of an object -/
theorem q_cV (C : Cx p s m args c meth cc nL ret Ts own D ct A) (hM : qM l y wy rm D ct (.ref b :: As) wc (qD r w1) mc ms) (cw : CallW R s args own C' index y bytes maxL ret' wy rm mc ms n) (hrec : wc[q0]? = some (b, .inr (ci, fs))) (hcl : vwCl[ci]? = some (C', T, N)) (isC isR is2 : List Nat)
    (hC : isC.map (fun i => ws[i]?) = wc.map some) (hR : isR.map (fun i => ws[i]?) = (qWr ws isR).map some) (hnR : va_nd isR = true) (hnC : va_nd isC = true) (hdis : ∀ i ∈ isR, i ∉ isC) (h2 : is2.map (fun i => (qWr ws isR ++ w1)[i]?) = w2.map some) (hn2 : va_nd is2 = true)
    (hdg : decode cc pc = .ok (.invokevirtual index, 3)) (hst : st0 = As.reverse ++ .ref b :: st) (hn : As.length = n) (hW : (st.map fun v => v.category).sum ≤ 8) (hf : cells + mc ≤ R.cells ∧ slots + ms ≤ R.slots) (hc2 : cells + mc = c2) (hs2 : slots + ms = s2) (hst2 : r.toList ++ st = st2) (hpc : pc + 3 = pc2)
    (kk : Cf p l e R s m args below meth c D A nL c2 s2 Q pc2 lv st2 w2) : Cf p l e R s m args below meth c D A nL cells slots Q pc lv st0 ws := by
  subst hc2; subst hs2; subst hst2; subst hpc
  refine q_ret C isC isR hC hR hnR hnC hdis (B' := qD r w1) (a' := (.ref b :: As : List Value).toArray) (fun H locs ls hP hD hS hl => ?_) (fun r9 w9 hb => ⟨w2, is2, by rw [hb.2]; exact h2, hn2, by rw [hb.1]; exact kk⟩)
  obtain ⟨hF, hpre⟩ := q_cut C isC hC hnC hP hD hS (a' := (.ref b :: As : List Value).toArray) rfl
  exact va_runV (As := As) (b := b) C.1 (hM H.size) cw ⟨qPre.blind, va_recv C.2.1.1 (hP.sub isC (q_fm hC)) hcl hrec, hpre⟩ rfl hn hl.1 hst (lv_room hW) hdg hf
/-- a nest mate's private method -/
theorem q_cVN (C : Cx p s m args c meth cc nL ret Ts own D ct A) (hM : qM l y wy rm D ct (.ref b :: As) wc (qD r w1) mc ms) (cw : va_CN R s args own index y host bytes maxL ret' wy rm mc ms n ∧ (Cond.instanceMethod y).before args s = true ∧ (Cond.selects C' y y).before args s = true) (hrec : wc[q0]? = some (b, .inr (ci, fs))) (hcl : vwCl[ci]? = some (C', T, N)) (isC isR is2 : List Nat)
    (hC : isC.map (fun i => ws[i]?) = wc.map some) (hR : isR.map (fun i => ws[i]?) = (qWr ws isR).map some) (hnR : va_nd isR = true) (hnC : va_nd isC = true) (hdis : ∀ i ∈ isR, i ∉ isC) (h2 : is2.map (fun i => (qWr ws isR ++ w1)[i]?) = w2.map some) (hn2 : va_nd is2 = true)
    (hdg : decode cc pc = .ok (.invokevirtual index, 3)) (hst : st0 = As.reverse ++ .ref b :: st) (hn : As.length = n) (hW : (st.map fun v => v.category).sum ≤ 8) (hf : cells + mc ≤ R.cells ∧ slots + ms ≤ R.slots) (hc2 : cells + mc = c2) (hs2 : slots + ms = s2) (hst2 : r.toList ++ st = st2) (hpc : pc + 3 = pc2)
    (kk : Cf p l e R s m args below meth c D A nL c2 s2 Q pc2 lv st2 w2) : Cf p l e R s m args below meth c D A nL cells slots Q pc lv st0 ws := by
  subst hc2; subst hs2; subst hst2; subst hpc
  refine q_ret C isC isR hC hR hnR hnC hdis (B' := qD r w1) (a' := (.ref b :: As : List Value).toArray) (fun H locs ls hP hD hS hl => ?_) (fun r9 w9 hb => ⟨w2, is2, by rw [hb.2]; exact h2, hn2, by rw [hb.1]; exact kk⟩)
  obtain ⟨hF, hpre⟩ := q_cut C isC hC hnC hP hD hS (a' := (.ref b :: As : List Value).toArray) rfl
  exact va_runVN (As := As) (b := b) C.1 (hM H.size) cw ⟨qPre.blind, va_recv C.2.1.1 (hP.sub isC (q_fm hC)) hcl hrec, hpre⟩ rfl hn hl.1 hst (lv_room hW) hdg hf
/-- a static method -/
theorem q_cS (C : Cx p s m args c meth cc nL ret Ts own D ct A) (hM : qM l y wy rm D ct As wc (qD r w1) mc ms) (cw : CallB R s args own index y bytes maxL ret' wy rm mc ms n ∧ (Cond.static y).before args s = true) (isC isR is2 : List Nat)
    (hC : isC.map (fun i => ws[i]?) = wc.map some) (hR : isR.map (fun i => ws[i]?) = (qWr ws isR).map some) (hnR : va_nd isR = true) (hnC : va_nd isC = true) (hdis : ∀ i ∈ isR, i ∉ isC) (h2 : is2.map (fun i => (qWr ws isR ++ w1)[i]?) = w2.map some) (hn2 : va_nd is2 = true)
    (hdg : decode cc pc = .ok (.invokestatic index, 3)) (hst : st0 = As.reverse ++ st) (hn : As.length = n) (hW : (st.map fun v => v.category).sum ≤ 8) (hf : cells + mc ≤ R.cells ∧ slots + ms ≤ R.slots) (hc2 : cells + mc = c2) (hs2 : slots + ms = s2) (hst2 : r.toList ++ st = st2) (hpc : pc + 3 = pc2)
    (kk : Cf p l e R s m args below meth c D A nL c2 s2 Q pc2 lv st2 w2) : Cf p l e R s m args below meth c D A nL cells slots Q pc lv st0 ws := by
  subst hc2; subst hs2; subst hst2; subst hpc
  refine q_ret C isC isR hC hR hnR hnC hdis (B' := qD r w1) (a' := As.toArray) (fun H locs ls hP hD hS hl => ?_) (fun r9 w9 hb => ⟨w2, is2, by rw [hb.2]; exact h2, hn2, by rw [hb.1]; exact kk⟩)
  obtain ⟨hF, hpre⟩ := q_cut C isC hC hnC hP hD hS (a' := As.toArray) rfl
  exact va_runS (As := As) C.1 (hM H.size) cw ⟨qPre.blind, hpre⟩ rfl hn hl.1 hst (lv_room hW) hdg hf
/-- a nest mate's private static method -/
theorem q_cSN (C : Cx p s m args c meth cc nL ret Ts own D ct A) (hM : qM l y wy rm D ct As wc (qD r w1) mc ms) (cw : va_CN R s args own index y host bytes maxL ret' wy rm mc ms n ∧ (Cond.static y).before args s = true ∧ True) (isC isR is2 : List Nat)
    (hC : isC.map (fun i => ws[i]?) = wc.map some) (hR : isR.map (fun i => ws[i]?) = (qWr ws isR).map some) (hnR : va_nd isR = true) (hnC : va_nd isC = true) (hdis : ∀ i ∈ isR, i ∉ isC) (h2 : is2.map (fun i => (qWr ws isR ++ w1)[i]?) = w2.map some) (hn2 : va_nd is2 = true)
    (hdg : decode cc pc = .ok (.invokestatic index, 3)) (hst : st0 = As.reverse ++ st) (hn : As.length = n) (hW : (st.map fun v => v.category).sum ≤ 8) (hf : cells + mc ≤ R.cells ∧ slots + ms ≤ R.slots) (hc2 : cells + mc = c2) (hs2 : slots + ms = s2) (hst2 : r.toList ++ st = st2) (hpc : pc + 3 = pc2)
    (kk : Cf p l e R s m args below meth c D A nL c2 s2 Q pc2 lv st2 w2) : Cf p l e R s m args below meth c D A nL cells slots Q pc lv st0 ws := by
  subst hc2; subst hs2; subst hst2; subst hpc
  refine q_ret C isC isR hC hR hnR hnC hdis (B' := qD r w1) (a' := As.toArray) (fun H locs ls hP hD hS hl => ?_) (fun r9 w9 hb => ⟨w2, is2, by rw [hb.2]; exact h2, hn2, by rw [hb.1]; exact kk⟩)
  obtain ⟨hF, hpre⟩ := q_cut C isC hC hnC hP hD hS (a' := As.toArray) rfl
  exact va_runSN (As := As) C.1 (hM H.size) cw ⟨qPre.blind, hpre⟩ rfl hn hl.1 hst (lv_room hW) hdg hf
/-- an own or public method that may throw -/
theorem q_xV (C : Cx p s m args c meth cc nL ret Ts own D ct A) (hM : qMX l y wy rm D ct (.ref b :: As) wc (qDo oc r w1) (qDx oc w1) mc ms) (cw : CallW R s args own C' index y bytes maxL ret' wy rm mc ms n) (hrec : wc[q0]? = some (b, .inr (ci, fs))) (hcl : vwCl[ci]? = some (C', T, N)) (isC isR is2 : List Nat)
    (hC : isC.map (fun i => ws[i]?) = wc.map some) (hR : isR.map (fun i => ws[i]?) = (qWr ws isR).map some) (hnR : va_nd isR = true) (hnC : va_nd isC = true) (hdis : ∀ i ∈ isR, i ∉ isC) (h2 : is2.map (fun i => (qWr ws isR ++ w1)[i]?) = w2.map some) (hn2 : va_nd is2 = true)
    (hdg : decode cc pc = .ok (.invokevirtual index, 3)) (hst : st0 = As.reverse ++ .ref b :: st) (hn : As.length = n) (hW : (st.map fun v => v.category).sum ≤ 8) (hf : cells + mc ≤ R.cells ∧ slots + ms ≤ R.slots) (hc2 : cells + mc = c2) (hs2 : slots + ms = s2) (hst2 : r.toList ++ st = st2) (hpc : pc + 3 = pc2)
    (kx : ∀ E : String, oc = some E → CfX p l e R s m args below meth c D A nL c2 s2 Q pc lv st w2 E)
    (kk : oc = none → Cf p l e R s m args below meth c D A nL c2 s2 Q pc2 lv st2 w2) : Cf p l e R s m args below meth c D A nL cells slots Q pc lv st0 ws := by
  subst hc2; subst hs2; subst hst2; subst hpc
  refine q_retX C isC isR hC hR hnR hnC hdis (B' := qDo oc r w1) (X' := qDx oc w1) (a' := (.ref b :: As : List Value).toArray) (fun H locs ls hP hD hS hl => ?_) (fun E w9 hb => ⟨w2, is2, by rw [hb.2]; exact h2, hn2, kx E hb.1⟩) (fun r9 w9 hb => ⟨w2, is2, by rw [hb.2.2]; exact h2, hn2, by rw [hb.2.1]; exact kk hb.1⟩)
  obtain ⟨hF, hpre⟩ := q_cut C isC hC hnC hP hD hS (a' := (.ref b :: As : List Value).toArray) rfl
  exact vx_runV (As := As) (b := b) C.1 (hM H.size) cw ⟨qPre.blind, va_recv C.2.1.1 (hP.sub isC (q_fm hC)) hcl hrec, hpre⟩ rfl hn hl.1 hst (lv_room hW) hdg hf
/-- a static method that may throw -/
theorem q_xS (C : Cx p s m args c meth cc nL ret Ts own D ct A) (hM : qMX l y wy rm D ct As wc (qDo oc r w1) (qDx oc w1) mc ms) (cw : CallB R s args own index y bytes maxL ret' wy rm mc ms n ∧ (Cond.static y).before args s = true) (isC isR is2 : List Nat)
    (hC : isC.map (fun i => ws[i]?) = wc.map some) (hR : isR.map (fun i => ws[i]?) = (qWr ws isR).map some) (hnR : va_nd isR = true) (hnC : va_nd isC = true) (hdis : ∀ i ∈ isR, i ∉ isC) (h2 : is2.map (fun i => (qWr ws isR ++ w1)[i]?) = w2.map some) (hn2 : va_nd is2 = true)
    (hdg : decode cc pc = .ok (.invokestatic index, 3)) (hst : st0 = As.reverse ++ st) (hn : As.length = n) (hW : (st.map fun v => v.category).sum ≤ 8) (hf : cells + mc ≤ R.cells ∧ slots + ms ≤ R.slots) (hc2 : cells + mc = c2) (hs2 : slots + ms = s2) (hst2 : r.toList ++ st = st2) (hpc : pc + 3 = pc2)
    (kx : ∀ E : String, oc = some E → CfX p l e R s m args below meth c D A nL c2 s2 Q pc lv st w2 E)
    (kk : oc = none → Cf p l e R s m args below meth c D A nL c2 s2 Q pc2 lv st2 w2) : Cf p l e R s m args below meth c D A nL cells slots Q pc lv st0 ws := by
  subst hc2; subst hs2; subst hst2; subst hpc
  refine q_retX C isC isR hC hR hnR hnC hdis (B' := qDo oc r w1) (X' := qDx oc w1) (a' := As.toArray) (fun H locs ls hP hD hS hl => ?_) (fun E w9 hb => ⟨w2, is2, by rw [hb.2]; exact h2, hn2, kx E hb.1⟩) (fun r9 w9 hb => ⟨w2, is2, by rw [hb.2.2]; exact h2, hn2, by rw [hb.2.1]; exact kk hb.1⟩)
  obtain ⟨hF, hpre⟩ := q_cut C isC hC hnC hP hD hS (a' := As.toArray) rfl
  exact vx_runS (As := As) C.1 (hM H.size) cw ⟨qPre.blind, hpre⟩ rfl hn hl.1 hst (lv_room hW) hdg hf
/-- the law's own helper, which catches -/
theorem q_xH {hh : List (Nat × Nat × Nat × Nat)} (C : Cx p s m args c meth cc nL ret Ts own D ct A) (hM : qMX l y wy rm D ct As wc (qD r w1) (fun _ _ => False) mc ms) (cw : vx_CSW R s args own index y bytes maxL ret' hh wy rm mc ms n) (isC isR is2 : List Nat)
    (hC : isC.map (fun i => ws[i]?) = wc.map some) (hR : isR.map (fun i => ws[i]?) = (qWr ws isR).map some) (hnR : va_nd isR = true) (hnC : va_nd isC = true) (hdis : ∀ i ∈ isR, i ∉ isC) (h2 : is2.map (fun i => (qWr ws isR ++ w1)[i]?) = w2.map some) (hn2 : va_nd is2 = true)
    (hdg : decode cc pc = .ok (.invokestatic index, 3)) (hst : st0 = As.reverse ++ st) (hn : As.length = n) (hW : (st.map fun v => v.category).sum ≤ 8) (hf : cells + mc ≤ R.cells ∧ slots + ms ≤ R.slots) (hc2 : cells + mc = c2) (hs2 : slots + ms = s2) (hst2 : r.toList ++ st = st2) (hpc : pc + 3 = pc2)
    (kk : Cf p l e R s m args below meth c D A nL c2 s2 Q pc2 lv st2 w2) : Cf p l e R s m args below meth c D A nL cells slots Q pc lv st0 ws := by
  subst hc2; subst hs2; subst hst2; subst hpc
  refine q_retX C isC isR hC hR hnR hnC hdis (B' := qD r w1) (X' := fun _ _ => False) (a' := As.toArray) (fun H locs ls hP hD hS hl => ?_) (fun E w9 hb => hb.elim) (fun r9 w9 hb => ⟨w2, is2, by rw [hb.2]; exact h2, hn2, by rw [hb.1]; exact kk⟩)
  obtain ⟨hF, hpre⟩ := q_cut C isC hC hnC hP hD hS (a' := As.toArray) rfl
  exact vx_runSX (As := As) C.1 (hM H.size) cw ⟨qPre.blind, hpre⟩ rfl hn hl.1 hst (lv_room hW) hdg hf
end QINV
