/-! the packed walk: methods that may throw; oc says whether: none, or the exception. A throw costs one cell of six slots, a return nothing. -/
def ocC (oc : Option String) : Nat := match oc with | none => 0 | some _ => 1
def ocS (oc : Option String) : Nat := match oc with | none => 0 | some _ => 6
def eI : String := "java/lang/IndexOutOfBoundsException"
def eA : String := "java/lang/IllegalArgumentException"
def eS : String := "java/lang/IllegalStateException"
theorem oc_some {c : Prop} [Decidable c] {E0 E : String} (h : (if c then none else some E0) = some E) : ¬ c ∧ E = E0 := by
  by_cases hc : c
  · rw [if_pos hc] at h; cases h
  · rw [if_neg hc] at h; cases h; exact ⟨hc, rfl⟩
theorem oc_none {c : Prop} [Decidable c] {E0 : String} (h : (if c then none else some E0) = none) : c := by
  by_cases hc : c
  · exact hc
  · rw [if_neg hc] at h; cases h
theorem q_as {l : Launch} {y : MethodName} {wy : List Cond} {rm : Room} {D : va_G} {ct : Nat → ClassId} {As As' : List Value} {ws : va_W} {B : Option Value → va_W → Prop} {mc ms : Nat} (h : As = As') (hM : qM l y wy rm D ct As ws B mc ms) : qM l y wy rm D ct As' ws B mc ms := h ▸ hM
section QTHR
variable {p : Program} {l : Launch} {e : Env} {R : Room} {s : State} {m : MethodId} {args : Array Value} {below : List Frame} {meth : Method} {c : Code} {D : va_G} {ct : Nat → ClassId} {A : Nat → Prop} {nL cells slots : Nat} {Q : State → Prop}
variable {cc : ByteArray} {ret : Option FieldType} {Ts : List Cond} {own : String} {pc pc2 : Nat} {lv lv' : List (Nat × Value)} {st st0 st2 : List Value} {ws : va_W}
variable {y : MethodName} {wy : List Cond} {rm : Room} {As : List Value} {b q0 ci N c2 s2 : Nat} {T : u_T} {fs : List Value} {wc w1 w2 : va_W} {n index maxL : Nat} {bytes : ByteArray} {ret' : Option FieldType} {C' host : String} {r : Option Value} {oc : Option String}
/-- an own or public method that may throw; a throw leaves the world as it was -/
theorem q_tV (C : Cx p s m args c meth cc nL ret Ts own D ct A) (hM : qMX l y wy rm D ct (.ref b :: As) wc (qDo oc r w1) (qDx oc wc) (ocC oc) (ocS oc)) (cw : CallW R s args own C' index y bytes maxL ret' wy rm (ocC oc) (ocS oc) n) (hrec : wc[q0]? = some (b, .inr (ci, fs))) (hcl : vwCl[ci]? = some (C', T, N)) (isC isR is2 : List Nat)
    (hC : isC.map (fun i => ws[i]?) = wc.map some) (hR : isR.map (fun i => ws[i]?) = (qWr ws isR).map some) (hnR : va_nd isR = true) (hnC : va_nd isC = true) (hdis : ∀ i ∈ isR, i ∉ isC) (h2 : is2.map (fun i => (qWr ws isR ++ w1)[i]?) = w2.map some) (hn2 : va_nd is2 = true) (h2x : is2.map (fun i => (qWr ws isR ++ wc)[i]?) = ws.map some)
    (hdg : decode cc pc = .ok (.invokevirtual index, 3)) (hst : st0 = As.reverse ++ .ref b :: st) (hn : As.length = n) (hW : (st.map fun v => v.category).sum ≤ 8) (hf : cells + ocC oc ≤ R.cells ∧ slots + ocS oc ≤ R.slots) (hst2 : r.toList ++ st = st2) (hpc : pc + 3 = pc2)
    (kx : ∀ E : String, oc = some E → CfX p l e R s m args below meth c D A nL (cells + 1) (slots + 6) Q pc lv st ws E)
    (kk : oc = none → Cf p l e R s m args below meth c D A nL cells slots Q pc2 lv st2 w2) : Cf p l e R s m args below meth c D A nL cells slots Q pc lv st0 ws := by
  subst hst2; subst hpc
  refine q_retX C isC isR hC hR hnR hnC hdis (B' := qDo oc r w1) (X' := qDx oc wc) (mc' := ocC oc) (ms' := ocS oc) (st := st) (a' := (.ref b :: As : List Value).toArray) (fun H locs ls hP hD hS hl => ?_) (fun E w9 hb => ⟨ws, is2, by rw [hb.2]; exact h2x, hn2, ?_⟩) (fun r9 w9 hb => ⟨w2, is2, by rw [hb.2.2]; exact h2, hn2, ?_⟩)
  · obtain ⟨hF, hpre⟩ := q_cut C isC hC hnC hP hD hS (a' := (.ref b :: As : List Value).toArray) rfl
    exact vx_runV (As := As) (b := b) C.1 (hM H.size) cw ⟨qPre.blind, va_recv C.2.1.1 (hP.sub isC (q_fm hC)) hcl hrec, hpre⟩ rfl hn hl.1 hst (lv_room hW) hdg hf
  · have k := kx E hb.1
    have e1 : ocC oc = 1 := by rw [hb.1]; rfl
    have e2 : ocS oc = 6 := by rw [hb.1]; rfl
    rw [e1, e2]; exact k
  · have k := kk hb.1
    have e1 : ocC oc = 0 := by rw [hb.1]; rfl
    have e2 : ocS oc = 0 := by rw [hb.1]; rfl
    rw [e1, e2, hb.2.1]; exact k
/-- a static one -/
theorem q_tS (C : Cx p s m args c meth cc nL ret Ts own D ct A) (hM : qMX l y wy rm D ct As wc (qDo oc r w1) (qDx oc wc) (ocC oc) (ocS oc)) (cw : CallB R s args own index y bytes maxL ret' wy rm (ocC oc) (ocS oc) n ∧ (Cond.static y).before args s = true) (isC isR is2 : List Nat)
    (hC : isC.map (fun i => ws[i]?) = wc.map some) (hR : isR.map (fun i => ws[i]?) = (qWr ws isR).map some) (hnR : va_nd isR = true) (hnC : va_nd isC = true) (hdis : ∀ i ∈ isR, i ∉ isC) (h2 : is2.map (fun i => (qWr ws isR ++ w1)[i]?) = w2.map some) (hn2 : va_nd is2 = true) (h2x : is2.map (fun i => (qWr ws isR ++ wc)[i]?) = ws.map some)
    (hdg : decode cc pc = .ok (.invokestatic index, 3)) (hst : st0 = As.reverse ++ st) (hn : As.length = n) (hW : (st.map fun v => v.category).sum ≤ 8) (hf : cells + ocC oc ≤ R.cells ∧ slots + ocS oc ≤ R.slots) (hst2 : r.toList ++ st = st2) (hpc : pc + 3 = pc2)
    (kx : ∀ E : String, oc = some E → CfX p l e R s m args below meth c D A nL (cells + 1) (slots + 6) Q pc lv st ws E)
    (kk : oc = none → Cf p l e R s m args below meth c D A nL cells slots Q pc2 lv st2 w2) : Cf p l e R s m args below meth c D A nL cells slots Q pc lv st0 ws := by
  subst hst2; subst hpc
  refine q_retX C isC isR hC hR hnR hnC hdis (B' := qDo oc r w1) (X' := qDx oc wc) (mc' := ocC oc) (ms' := ocS oc) (st := st) (a' := As.toArray) (fun H locs ls hP hD hS hl => ?_) (fun E w9 hb => ⟨ws, is2, by rw [hb.2]; exact h2x, hn2, ?_⟩) (fun r9 w9 hb => ⟨w2, is2, by rw [hb.2.2]; exact h2, hn2, ?_⟩)
  · obtain ⟨hF, hpre⟩ := q_cut C isC hC hnC hP hD hS (a' := As.toArray) rfl
    exact vx_runS (As := As) C.1 (hM H.size) cw ⟨qPre.blind, hpre⟩ rfl hn hl.1 hst (lv_room hW) hdg hf
  · have k := kx E hb.1
    have e1 : ocC oc = 1 := by rw [hb.1]; rfl
    have e2 : ocS oc = 6 := by rw [hb.1]; rfl
    rw [e1, e2]; exact k
  · have k := kk hb.1
    have e1 : ocC oc = 0 := by rw [hb.1]; rfl
    have e2 : ocS oc = 0 := by rw [hb.1]; rfl
    rw [e1, e2, hb.2.1]; exact k
end QTHR
theorem ocC_of {oc : Option String} {E : String} (h : oc = some E) : 0 + 1 ≤ ocC oc := by rw [h]; exact Nat.le_refl 1
theorem ocS_of {oc : Option String} {E : String} (h : oc = some E) : 0 + 6 ≤ ocS oc := by rw [h]; exact Nat.le_refl 6
theorem ocC_le {oc oc' : Option String} (h : ∀ E, oc = some E → ∃ E', oc' = some E') : 0 + ocC oc ≤ ocC oc' := by
  cases oc with
  | none => exact Nat.zero_le _
  | some E => obtain ⟨E', rfl⟩ := h E rfl; exact Nat.le_refl 1
theorem ocS_le {oc oc' : Option String} (h : ∀ E, oc = some E → ∃ E', oc' = some E') : 0 + ocS oc ≤ ocS oc' := by
  cases oc with
  | none => exact Nat.zero_le _
  | some E => obtain ⟨E', rfl⟩ := h E rfl; exact Nat.le_refl 6
