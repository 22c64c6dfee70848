/-! the packed walk: new arrays, new objects, constructors -/
section QNEW
variable {p : Program} {l : Launch} {e : Env} {R : Room} {s : State} {m : MethodId} {args : Array Value} {below : List Frame} {meth : Method} {c : Code} {D : va_G} {ct : Nat → ClassId} {A : Nat → Prop} {nL cells slots : Nat} {Q : State → Prop}
variable {cc : ByteArray} {ret : Option FieldType} {Ts : List Cond} {own : String} {pc pc2 : Nat} {lv lv' : List (Nat × Value)} {st st0 st2 : List Value} {ws : va_W}
variable {y : MethodName} {wy : List Cond} {rm : Room} {b c2 s2 : Nat} {wc : va_W} {mc ms index maxL : Nat} {bytes : ByteArray} {host : String}
/-- Object's own constructor -/
theorem q_objI (C : Cx p s m args c meth cc nL ret Ts own D ct A) {a idx : Nat} (hlink : (Cond.methodLink own idx Lib.objectInit).before args s = true) (hinst : (Cond.instanceMethod Lib.objectInit).before args s = true) (hcode : (Cond.code Lib.objectInit ⟨#[0xb1]⟩ 1 none).before args s = true)
    (hdg : decode cc pc = .ok (.invokespecial idx, 3)) (hpc : pc + 3 = pc2) (hf : 1 ≤ R.frames) (hlo : (st.map fun v => v.category).sum + 12 ≤ R.locals)
    (kk : Cf p l e R s m args below meth c D A nL cells slots Q pc2 lv st ws) : Cf p l e R s m args below meth c D A nL cells slots Q pc lv (.ref a :: st) ws := by
  subst hpc
  intro H locs ls hP hD hS hl
  exact W.objInit C.1.1 C.1.2.1 C.1.2.2.2.1 hlink hinst hcode rfl (hl.1.trans C.1.2.2.1.symm) rfl hdg hf (Nat.le_trans (by show 2 * 0 + _ + 12 ≤ _; omega) hlo) (kk H locs ls hP hD hS hl)
/-- a new array of one of the three kinds -/
theorem q_newa (C : Cx p s m args c meth cc nL ret Ts own D ct A) {atype : ArrayType} (harr : (Cond.arrayClass (newarray.typeOf atype)).before args s = true) {ty : FieldType} (hty : newarray.typeOf atype = ty) (j : Nat) (hj : (qT ct)[j]? = some (ct j, ty)) (hra : ∀ cA : ClassId, va_RA s cA ty → s.vm.findClass ("[" ++ ty.toString) = some cA)
    {n : Int32} {N' : Nat} {x : vp_A} (ha : ∀ cA : ClassId, vp_cell cA x = arrV cA N' (fun _ => defaultValue ty)) (hn : ¬ n < 0) (hN : n.toNatClampNeg = N') (hb : N' * componentBytes ty ≤ 536870912) (hc : cells + 1 ≤ R.cells) (hs : slots + N' ≤ R.slots) (hdg : decode cc pc = .ok (.newarray atype, 2)) (hpc : pc + 2 = pc2) (hc2 : cells + 1 = c2) (hs2 : slots + N' = s2)
    (kk : ∀ q : Nat, Cf p l e R s m args below meth c D A nL c2 s2 Q pc2 lv (.ref q :: st) (ws ++ [(q, .inl (ct j, x))])) : Cf p l e R s m args below meth c D A nL cells slots Q pc lv (.int n :: st) ws := by
  subst hpc; subst hc2; subst hs2
  intro H locs ls hP hD hS hl
  refine va_newa C.1.1 C.1.2.1 harr hty C.2.1.1 hP hD hS C.2.2.1 ha hn hN hb hc hs hdg (fun q cA H1 hK1 hP1 hD1 hS1 => ?_)
  have e1 := hra _ (hK1.2 2 (cA, ty) rfl).2
  have e2 := hra _ (C.2.1.1.2 j _ hj).2
  have e3 : cA = ct j := Option.some.inj (e1.symm.trans e2)
  subst e3
  exact kk q H1 locs ls hP1 hD1 hS1 hl
theorem ra_int {s : State} : ∀ cA : ClassId, va_RA s cA .int → s.vm.findClass ("[" ++ FieldType.int.toString) = some cA := fun _ h => h
theorem ra_bool {s : State} : ∀ cA : ClassId, va_RA s cA .boolean → s.vm.findClass ("[" ++ FieldType.boolean.toString) = some cA := fun _ h => h
theorem ra_longX {s : State} : ∀ cA : ClassId, va_RA s cA .long → s.vm.findClass ("[" ++ FieldType.long.toString) = some cA := fun _ h => h
/-- a new object -/
theorem q_new (C : Cx p s m args c meth cc nL ret Ts own D ct A) {C' : String} {T : u_T} {N ci : Nat} (hin : ∀ w ∈ u_ws C' T N, w ∈ Ts) {ty : Nat → FieldType} (hty : ∀ k, k < N → parseFieldDescriptor (T k).2.2.1 = some (ty k)) (hcl : (Cond.classLink own index C').before args s = true) (hinst : (Cond.instantiable C' N).before args s = true) (hini : (Cond.initialized C').before args s = true) (hc : vwCl[ci]? = some (C', T, N)) {fs : List Value} (hfs : ∀ j, j < N → defaultValue (ty j) = vp_V fs j) (hcells : cells + 1 ≤ R.cells) (hslots : slots + N ≤ R.slots) (hdg : decode cc pc = .ok (.new index, 3)) (hpc : pc + 3 = pc2) (hc2 : cells + 1 = c2) (hs2 : slots + N = s2)
    (kk : ∀ q : Nat, Cf p l e R s m args below meth c D A nL c2 s2 Q pc2 lv (.ref q :: st) (ws ++ [(q, .inr (ci, fs))])) : Cf p l e R s m args below meth c D A nL cells slots Q pc lv st ws := by
  subst hpc; subst hc2; subst hs2
  intro H locs ls hP hD hS hl
  exact va_new C.1.1 C.1.2.1 C.w hin ty hty C.1.2.2.2.1 hcl hinst hini C.2.1.1 hP hD hS C.2.2.1 hc hfs hcells hslots hdg (fun q H1 hP1 hD1 hS1 => kk q H1 locs ls hP1 hD1 hS1 hl)
/-- a nest mate's private constructor without arguments -/
theorem q_cIN {B : Option Value → va_W → Prop} (C : Cx p s m args c meth cc nL ret Ts own D ct A) (hM : qM l y wy rm D ct [.ref b] wc B mc ms) (cw : va_CN R s args own index y host bytes maxL none wy rm mc ms 0 ∧ y.name = "<init>" ∧ (Cond.instanceMethod y).before args s = true) (isC isR : List Nat)
    (hC : isC.map (fun i => ws[i]?) = wc.map some) (hR : isR.map (fun i => ws[i]?) = (qWr ws isR).map some) (hnR : va_nd isR = true) (hnC : va_nd isC = true) (hdis : ∀ i ∈ isR, i ∉ isC)
    (hdg : decode cc pc = .ok (.invokespecial index, 3)) (hW : (st.map fun v => v.category).sum ≤ 8) (hf : cells + mc ≤ R.cells ∧ slots + ms ≤ R.slots) (hc2 : cells + mc = c2) (hs2 : slots + ms = s2) (hpc : pc + 3 = pc2)
    (kk : ∀ (r : Option Value) (w1 : va_W), B r w1 → r = none ∧ ∃ (w2 : va_W) (is2 : List Nat), is2.map (fun i => (qWr ws isR ++ w1)[i]?) = w2.map some ∧ va_nd is2 = true ∧ Cf p l e R s m args below meth c D A nL c2 s2 Q pc2 lv st w2) : Cf p l e R s m args below meth c D A nL cells slots Q pc lv (.ref b :: st) ws := by
  subst hc2; subst hs2; subst hpc
  refine q_ret C isC isR hC hR hnR hnC hdis (B' := B) (st := st) (a' := ([.ref b] : List Value).toArray) (fun H locs ls hP hD hS hl => ?_) (fun r9 w9 hb => by obtain ⟨rfl, w2, is2, h2, hn2, k⟩ := kk r9 w9 hb; exact ⟨w2, is2, h2, hn2, k⟩)
  obtain ⟨hF, hpre⟩ := q_cut C isC hC hnC hP hD hS (a' := ([.ref b] : List Value).toArray) rfl
  exact va_runIN (As := []) (b := b) C.1 (hM H.size) cw ⟨qPre.blind, hpre⟩ rfl rfl hl.1 rfl (lv_room hW) hdg hf
/-- a class's own constructor without arguments -/
theorem q_cI {B : Option Value → va_W → Prop} (C : Cx p s m args c meth cc nL ret Ts own D ct A) (hM : qM l y wy rm D ct [.ref b] wc B mc ms) (cw : CallB R s args own index y bytes maxL none wy rm mc ms 0 ∧ y.name = "<init>" ∧ (Cond.instanceMethod y).before args s = true) (isC isR : List Nat)
    (hC : isC.map (fun i => ws[i]?) = wc.map some) (hR : isR.map (fun i => ws[i]?) = (qWr ws isR).map some) (hnR : va_nd isR = true) (hnC : va_nd isC = true) (hdis : ∀ i ∈ isR, i ∉ isC)
    (hdg : decode cc pc = .ok (.invokespecial index, 3)) (hW : (st.map fun v => v.category).sum ≤ 8) (hf : cells + mc ≤ R.cells ∧ slots + ms ≤ R.slots) (hc2 : cells + mc = c2) (hs2 : slots + ms = s2) (hpc : pc + 3 = pc2)
    (kk : ∀ (r : Option Value) (w1 : va_W), B r w1 → r = none ∧ ∃ (w2 : va_W) (is2 : List Nat), is2.map (fun i => (qWr ws isR ++ w1)[i]?) = w2.map some ∧ va_nd is2 = true ∧ Cf p l e R s m args below meth c D A nL c2 s2 Q pc2 lv st w2) : Cf p l e R s m args below meth c D A nL cells slots Q pc lv (.ref b :: st) ws := by
  subst hc2; subst hs2; subst hpc
  refine q_ret C isC isR hC hR hnR hnC hdis (B' := B) (st := st) (a' := ([.ref b] : List Value).toArray) (fun H locs ls hP hD hS hl => ?_) (fun r9 w9 hb => by obtain ⟨rfl, w2, is2, h2, hn2, k⟩ := kk r9 w9 hb; exact ⟨w2, is2, h2, hn2, k⟩)
  obtain ⟨hF, hpre⟩ := q_cut C isC hC hnC hP hD hS (a' := ([.ref b] : List Value).toArray) rfl
  exact va_runI (As := []) (b := b) C.1 (hM H.size) cw ⟨qPre.blind, hpre⟩ rfl rfl hl.1 rfl (lv_room hW) hdg hf
end QNEW
/-- the first state: of the system .. -/
def x00L : List (Nat → Int32) := [fun _ => 0, fun _ => 0, fun _ => 0, fun _ => 0, fun _ => 0, fun _ => 0, fun _ => 0, fun _ => 0, fun _ => 0, fun k => if k < 10 then -1 else 0, fun _ => 0, fun _ => 0, fun k => if k < 10 then -1 else 0, fun _ => 0, fun k => if k < 10 then -1 else 0, fun _ => 0, fun _ => 0, fun _ => 0, fun _ => 0, fun _ => 0, fun k => if k < 80 then -1 else 0, fun _ => 0, fun _ => -1, fun _ => 0, fun k => if k < 10 then -1 else 0, fun _ => 0, fun _ => 0]
def x00 : Nat → Nat → Int32 := fun j => x00L.getD j (fun _ => 0)
