/-! the packed walk: beginning and end of a method, calls -/
theorem q_fm {α : Type} {f : Nat → Option α} {is : List Nat} {w : List α} (h : is.map f = w.map some) : is.filterMap f = w := by
  have h1 : is.filterMap f = (is.map f).filterMap id := by rw [List.filterMap_map]; rfl
  rw [h1, h, List.filterMap_map]
  show List.filterMap (fun x => some x) w = w
  exact List.filterMap_some
section QENDS
variable {p : Program} {l : Launch} {e : Env} {R : Room} {s : State} {m : MethodId} {args : Array Value} {below : List Frame} {meth : Method} {c : Code} {D : va_G} {ct : Nat → ClassId} {A : Nat → Prop} {nL cells slots : Nat} {Q : State → Prop}
variable {cc : ByteArray} {ret : Option FieldType} {Ts : List Cond} {own : String} {pc pc2 : Nat} {lv lv' : List (Nat × Value)} {st : List Value} {ws : va_W}
variable {y : MethodName} {wy wy' : List Cond} {rm : Room} {As : List Value} {ws0 : va_W} {B : Option Value → va_W → Prop} {X : String → va_W → Prop} {mc ms : Nat} {maxL : Nat}
/-- what Q and A are in a method that returns -/
def qQ (D : va_G) (B : Option Value → va_W → Prop) (ws0 : va_W) (s : State) (args : Array Value) (below : List Frame) (mc ms : Nat) (A : Nat → Prop) (Q : State → Prop) : Prop :=
  A = va_A ws0 s.heap.size ∧ Q = MQ below (qOk D B ws0 s.heap.size) args s mc ms (va_A ws0 s.heap.size)
/-- .. that returns or throws -/
def qQX (D : va_G) (B : Option Value → va_W → Prop) (X : String → va_W → Prop) (ws0 : va_W) (s : State) (args : Array Value) (below : List Frame) (mc ms : Nat) (A : Nat → Prop) (Q : State → Prop) : Prop :=
  A = va_A ws0 s.heap.size ∧ Q = vx_MQ below (qOk D B ws0 s.heap.size) (qXc D X ws0 s.heap.size) args s mc ms (va_A ws0 s.heap.size)
theorem q_start (hy : plainName y.cls = true) (hw : wy = Cond.code y cc maxL ret :: wy') (hln : (lg_sl As).length ≤ maxL) (hlv : lv_args 0 As = lv)
    (body : ∀ (p : Program) (e : Env) (s : State) (m : MethodId) (args : Array Value) (below : List Frame) (meth : Method) (c : Code) (A : Nat → Prop) (Q : State → Prop), Cx p s m args c meth cc maxL ret wy y.cls D ct A → qQ D B ws0 s args below mc ms A Q → meth.name = y.name →
      Cf p l e rm s m args below meth c D A maxL 0 0 Q 0 lv [] ws0) : qM l y wy rm D ct As ws0 B mc ms := by
  intro sz
  refine Met.ofW (cc := cc) (maxL := maxL) (ret := ret) hy hw ?_
  intro p e s m args below meth c s₁ B0 hml hv
  obtain ⟨rfl, hsz, hP, hE, hD0, hZ⟩ := hv
  have hts := atoms_spec (ws := wy) B0.pre
  have hown : s.vm.findClass y.cls = some m.cls := findClass_of_methodNamed B0.named
  subst hsz
  have hD := hD0.self (sz := s.heap.size)
  have hl := lv_entry As (n := maxL) hln
  rw [lg_entry_eq]
  subst hlv
  exact body p e s m As.toArray below meth c (va_A ws0 s.heap.size) _ ⟨⟨B0.exec, B0.bytes, hml, hown, hts⟩, hE, fun q h => Or.inr h, B0.notSynchronized, hZ, B0.returns⟩ ⟨rfl, rfl⟩ (name_of_methodNamed B0.named B0.method).1 s.heap [] _ hP hD va_S.rf hl
theorem q_startF (hy : plainFor y = true) (hw : wy = Cond.code y cc maxL ret :: wy') (hln : (lg_sl As).length ≤ maxL) (hlv : lv_args 0 As = lv)
    (body : ∀ (p : Program) (e : Env) (s : State) (m : MethodId) (args : Array Value) (below : List Frame) (meth : Method) (c : Code) (A : Nat → Prop) (Q : State → Prop), Cx p s m args c meth cc maxL ret wy y.cls D ct A → qQ D B ws0 s args below mc ms A Q → meth.name = y.name →
      Cf p l e rm s m args below meth c D A maxL 0 0 Q 0 lv [] ws0) : qM l y wy rm D ct As ws0 B mc ms := by
  intro sz
  refine MetFree.of_bodySF (code := cc) (maxLocals := maxL) (ret := ret) hy ?_ ?_
  · intro args s m h hn
    obtain ⟨meth, c, h1, h2, h3, h4, h5, h6, -, -⟩ := Cond.code_spec hn (atoms_spec (ws := wy) h _ (by rw [hw]; exact List.mem_cons_self))
    exact ⟨meth, c, h1, h2, h3, h4, h5, h6⟩
  intro p e s m args below meth c s₁ B0 hml hv _
  have hh0 : s₁.heap = s.heap := by rw [B0.state]; rfl
  obtain ⟨rfl, hsz, hP, hE, hD0, hZ⟩ := hv
  have hts := atoms_spec (ws := wy) B0.pre
  have hown : s.vm.findClass y.cls = some m.cls := findClass_of_methodNamed B0.named
  subst hsz
  have hD := hD0.self (sz := s.heap.size)
  have hl := lv_entry As (n := maxL) hln
  subst hlv
  have K := body p e s m As.toArray below meth c (va_A ws0 s.heap.size) _ ⟨⟨B0.exec, B0.bytes, hml, hown, hts⟩, hE, fun q h => Or.inr h, B0.notSynchronized, hZ, B0.returns⟩ ⟨rfl, rfl⟩ (name_of_methodNamed B0.named B0.method).1 s.heap [] _ hP hD va_S.rf hl
  rw [← lg_entry_eq] at K
  obtain ⟨t, a1, o, b1, b2, b3⟩ := K s₁ hh0 (Stand.of_body B0)
  exact ⟨t, o, a1, b1, b2, ⟨b3.1, b3.2⟩⟩
theorem q_startX (hy : plainName y.cls = true) (hw : wy = Cond.code y cc maxL ret :: wy') (hln : (lg_sl As).length ≤ maxL) (hlv : lv_args 0 As = lv)
    (body : ∀ (p : Program) (e : Env) (s : State) (m : MethodId) (args : Array Value) (below : List Frame) (meth : Method) (c : Code) (A : Nat → Prop) (Q : State → Prop), Cx p s m args c meth cc maxL ret wy y.cls D ct A → qQX D B X ws0 s args below mc ms A Q → (∀ x ∈ c.exceptionTable.toList, False) →
      Cf p l e rm s m args below meth c D A maxL 0 0 Q 0 lv [] ws0) : qMX l y wy rm D ct As ws0 B X mc ms := by
  intro sz
  refine vx_ofW (cc := cc) (maxL := maxL) (ret := ret) hy hw ?_
  intro p e s m args below meth c s₁ B0 hml htab hv
  obtain ⟨rfl, hsz, hP, hE, hD0, hZ⟩ := hv
  have hts := atoms_spec (ws := wy) B0.pre
  have hown : s.vm.findClass y.cls = some m.cls := findClass_of_methodNamed B0.named
  subst hsz
  have hD := hD0.self (sz := s.heap.size)
  have hl := lv_entry As (n := maxL) hln
  rw [lg_entry_eq]
  subst hlv
  exact body p e s m As.toArray below meth c (va_A ws0 s.heap.size) _ ⟨⟨B0.exec, B0.bytes, hml, hown, hts⟩, hE, fun q h => Or.inr h, B0.notSynchronized, hZ, B0.returns⟩ ⟨rfl, rfl⟩ htab s.heap [] _ hP hD va_S.rf hl
/-- a body with handlers -/
theorem q_startH {hh : List (Nat × Nat × Nat × Nat)} (hy : plainName y.cls = true) (hw : wy = Cond.codeWith y cc maxL ret hh :: wy') (hln : (lg_sl As).length ≤ maxL) (hlv : lv_args 0 As = lv)
    (body : ∀ (p : Program) (e : Env) (s : State) (m : MethodId) (args : Array Value) (below : List Frame) (meth : Method) (c : Code) (A : Nat → Prop) (Q : State → Prop), Cx p s m args c meth cc maxL ret wy y.cls D ct A → qQX D B X ws0 s args below mc ms A Q → c.exceptionTable.toList = tableOf hh →
      Cf p l e rm s m args below meth c D A maxL 0 0 Q 0 lv [] ws0) : qMX l y wy rm D ct As ws0 B X mc ms := by
  intro sz
  refine vx_ofWH (cc := cc) (maxL := maxL) (ret := ret) (hh := hh) hy hw ?_
  intro p e s m args below meth c s₁ B0 hml hv
  obtain ⟨rfl, hsz, hP, hE, hD0, hZ⟩ := hv
  have hts := atoms_spec (ws := wy) B0.pre
  have hown : s.vm.findClass y.cls = some m.cls := findClass_of_methodNamed B0.named
  subst hsz
  have hD := hD0.self (sz := s.heap.size)
  have hl := lv_entry As (n := maxL) hln
  have htab : c.exceptionTable.toList = tableOf hh := vx_table (x := y) B0 (hts _ (by rw [hw]; exact List.mem_cons_self))
  rw [lg_entry_eq]
  subst hlv
  exact body p e s m As.toArray below meth c (va_A ws0 s.heap.size) _ ⟨⟨B0.exec, B0.bytes, hml, hown, hts⟩, hE, fun q h => Or.inr h, B0.notSynchronized, hZ, B0.returns⟩ ⟨rfl, rfl⟩ htab s.heap [] _ hP hD va_S.rf hl
theorem q_okS {r : Option Value} {H : Heap} {locs : List Loc} {t : State} (hB : B r ws) (hP : va_P D vwCl ws H) (hD : va_D (va_A ws0 s.heap.size) ws) (hS : va_S (va_A ws0 s.heap.size) s.heap H locs) (ht : t.heap = H) : qOk D B ws0 s.heap.size args s (.returned r) t :=
  ⟨⟨r, ws, rfl, hB, by rw [ht]; exact hP, hD⟩, hS.F ht⟩
theorem q_zret (C : Cx p s m args c meth cc nL ret Ts own D ct A) (hQ : qQ D B ws0 s args below mc ms A Q) {v : Int32} {ty : FieldType} (hr : ret = some ty) (hn : narrow ty (.int v) = .int v) (hc : cells ≤ mc) (hs : slots ≤ ms) (hdg : decode cc pc = .ok (.ireturn, 1)) (hB : B (some (.int v)) ws) :
    Cf p l e R s m args below meth c D A nL cells slots Q pc lv [.int v] ws := by
  obtain ⟨rfl, rfl⟩ := hQ
  intro H locs ls hP hD hS hl
  refine W.widen hc hs ?_
  exact W.zret C.1.1 C.1.2.1 (C.2.2.2.2.2.trans hr) hn (fun t ht _ => q_okS hB hP hD hS ht) hS.2.2 hdg (hlocks := C.2.2.2.1)
theorem q_vret (C : Cx p s m args c meth cc nL ret Ts own D ct A) (hQ : qQ D B ws0 s args below mc ms A Q) (hr : ret = none) (hc : cells ≤ mc) (hs : slots ≤ ms) (hdg : decode cc pc = .ok (.return_, 1)) (hB : B none ws) :
    Cf p l e R s m args below meth c D A nL cells slots Q pc lv [] ws := by
  obtain ⟨rfl, rfl⟩ := hQ
  intro H locs ls hP hD hS hl
  refine W.widen hc hs ?_
  exact W.vret C.1.1 C.1.2.1 (C.2.2.2.2.2.trans hr) (fun t ht _ => q_okS hB hP hD hS ht) hS.2.2 hdg (hlocks := C.2.2.2.1)
theorem q_zretX (C : Cx p s m args c meth cc nL ret Ts own D ct A) (hQ : qQX D B X ws0 s args below mc ms A Q) {v : Int32} {ty : FieldType} (hr : ret = some ty) (hn : narrow ty (.int v) = .int v) (hc : cells ≤ mc) (hs : slots ≤ ms) (hdg : decode cc pc = .ok (.ireturn, 1)) (hB : B (some (.int v)) ws) :
    Cf p l e R s m args below meth c D A nL cells slots Q pc lv [.int v] ws := by
  obtain ⟨rfl, rfl⟩ := hQ
  intro H locs ls hP hD hS hl
  refine W.widen hc hs ?_
  exact vx_ret (W.zret C.1.1 C.1.2.1 (C.2.2.2.2.2.trans hr) hn (fun t ht _ => q_okS hB hP hD hS ht) hS.2.2 hdg (hlocks := C.2.2.2.1))
theorem q_vretX (C : Cx p s m args c meth cc nL ret Ts own D ct A) (hQ : qQX D B X ws0 s args below mc ms A Q) (hr : ret = none) (hc : cells ≤ mc) (hs : slots ≤ ms) (hdg : decode cc pc = .ok (.return_, 1)) (hB : B none ws) :
    Cf p l e R s m args below meth c D A nL cells slots Q pc lv [] ws := by
  obtain ⟨rfl, rfl⟩ := hQ
  intro H locs ls hP hD hS hl
  refine W.widen hc hs ?_
  exact vx_ret (W.vret C.1.1 C.1.2.1 (C.2.2.2.2.2.trans hr) (fun t ht _ => q_okS hB hP hD hS ht) hS.2.2 hdg (hlocks := C.2.2.2.1))
/-- a callee's exception leaves this method too -/
theorem q_outX (C : Cx p s m args c meth cc nL ret Ts own D ct A) (hQ : qQX D B X ws0 s args below mc ms A Q) (htab : ∀ x ∈ c.exceptionTable.toList, False) (hc : cells ≤ mc) (hs : slots ≤ ms) {E : String} (hX : X E ws) :
    CfX p l e R s m args below meth c D A nL cells slots Q pc lv st ws E := by
  obtain ⟨rfl, rfl⟩ := hQ
  intro H locs ls ce q hP hD hS hl h1 h2 h3
  exact vx_out (fun x hx => (htab x hx).elim) C.2.2.2.1 h1 h2 h3 (fun t ht _ => ⟨⟨ws, hX, by rw [ht]; exact hP, hD⟩, hS.F ht⟩) hS.2.2 hc hs
/-- behind a call: the callee's cells beside the rest -/
theorem q_back {H H1 : Heap} {wc wr w1 w2 : va_W} (isC isR is2 : List Nat) (hC : isC.map (fun i => ws[i]?) = wc.map some) (hR : isR.map (fun i => ws[i]?) = wr.map some) (hnR : va_nd isR = true) (hdis : ∀ i ∈ isR, i ∉ isC) (h2 : is2.map (fun i => (wr ++ w1)[i]?) = w2.map some) (hn2 : va_nd is2 = true)
    (hP : va_P D vwCl ws H) (hD : va_D A ws) (hF : ∀ q, va_A wc H.size q → A q) (hk : ∀ q : Nat, q < H.size → ¬ va_A wc H.size q → H1[q]? = H[q]?) (hP1 : va_P D vwCl w1 H1) (hD1 : va_D (va_A wc H.size) w1) : va_P D vwCl w2 H1 ∧ va_D A w2 := by
  obtain ⟨a, b⟩ := va_join hP hD isC isR hC hR hnR hdis hk hF hP1 hD1
  exact ⟨a.sub is2 (q_fm h2), b.sub is2 hn2 h2⟩
theorem q_cut (C : Cx p s m args c meth cc nL ret Ts own D ct A) {H : Heap} {locs : List Loc} {wc : va_W} (isC : List Nat) (hC : isC.map (fun i => ws[i]?) = wc.map some) (hnC : va_nd isC = true) (hP : va_P D vwCl ws H) (hD : va_D A ws) (hS : va_S A s.heap H locs) {a' : Array Value} {As' : List Value} (ha : a' = As'.toArray) :
    (∀ q, va_A wc H.size q → A q) ∧ (∀ U : State, U.heap = H → s.WarmedH U.vm → qPre D ct As' wc H.size a' U) := by
  have hF := va_free hD hS C.2.2.1 isC hC
  refine ⟨hF, fun U hU hW => ⟨ha, by rw [hU], by rw [hU]; exact hP.sub isC (q_fm hC), qE.warm hW C.2.1, (hD.sub isC hnC hC).weaken (fun _ _ _ _ => trivial), ?_⟩⟩
  rw [hU]
  exact qZ.narrow (qZ.kept (qZ.moved hW.alike C.2.2.2.2.1) (fun q h1 h2 => hS.2.1 q h1 h2)) hF
/-- behind a call that returns -/
theorem q_ret {mc' ms' : Nat} {wc wr : va_W} (C : Cx p s m args c meth cc nL ret Ts own D ct A) {st0 : List Value} {a' : Array Value} {B' : Option Value → va_W → Prop} (isC isR : List Nat) (hC : isC.map (fun i => ws[i]?) = wc.map some) (hR : isR.map (fun i => ws[i]?) = wr.map some) (hnR : va_nd isR = true) (hnC : va_nd isC = true) (hdis : ∀ i ∈ isR, i ∉ isC)
    (hrun : ∀ (H : Heap) (locs : List Loc) (ls : Array Slot), va_P D vwCl ws H → va_D A ws → va_S A s.heap H locs → lv_has ls nL lv → va_Run p l e R s m args below meth c H locs cells slots mc' ms' (F0 m pc ls st0) st (qOk D B' wc H.size a') (va_A wc H.size))
    (kk : ∀ (r : Option Value) (w1 : va_W), B' r w1 → ∃ (w2 : va_W) (is2 : List Nat), is2.map (fun i => (wr ++ w1)[i]?) = w2.map some ∧ va_nd is2 = true ∧ Cf p l e R s m args below meth c D A nL (cells + mc') (slots + ms') Q (pc + 3) lv (r.toList ++ st) w2) :
    Cf p l e R s m args below meth c D A nL cells slots Q pc lv st0 ws := by
  intro H locs ls hP hD hS hl T hT X'
  have hF := va_free hD hS C.2.2.1 isC hC
  obtain ⟨v, st₀, t, T', L, h0, X', hL, e1, e2, ⟨⟨r, w1, hv, hb, hP1, hD1⟩, hz, hk⟩, stp⟩ := hrun H locs ls hP hD hS hl T hT X'
  cases hv
  rw [h0] at hz hk
  obtain ⟨w2, is2, h2, hn2, k2⟩ := kk v w1 hb
  obtain ⟨hP2, hD2⟩ := q_back isC isR is2 hC hR hnR hdis h2 hn2 hP hD hF hk hP1 hD1
  obtain ⟨t2, a1, b1⟩ := k2 T'.heap (locs ++ L) ls (by rw [e1]; exact hP2) hD2 ⟨Nat.le_trans hS.1 (by rw [e1]; exact hz), fun q h1 h2 => by rw [e1, hk q (Nat.lt_of_lt_of_le h1 hS.1) (fun z => h2 (hF q z))]; exact hS.2.1 q h1 h2, fun q hq => by
      rcases List.mem_append.mp hq with h | h
      · exact hS.2.2 q h
      · exact hF _ (hL q h)⟩ hl T' rfl X'
  exact ⟨t2, stp t2 a1, b1⟩
/-- behind a call that returns or throws -/
theorem q_retX {mc' ms' : Nat} {wc wr : va_W} (C : Cx p s m args c meth cc nL ret Ts own D ct A) {st0 : List Value} {a' : Array Value} {B' : Option Value → va_W → Prop} {X' : String → va_W → Prop} (isC isR : List Nat) (hC : isC.map (fun i => ws[i]?) = wc.map some) (hR : isR.map (fun i => ws[i]?) = wr.map some) (hnR : va_nd isR = true) (hnC : va_nd isC = true) (hdis : ∀ i ∈ isR, i ∉ isC)
    (hrun : ∀ (H : Heap) (locs : List Loc) (ls : Array Slot), va_P D vwCl ws H → va_D A ws → va_S A s.heap H locs → lv_has ls nL lv → vx_Run p l e R s m args below meth c H locs cells slots mc' ms' (F0 m pc ls st0) st (qOk D B' wc H.size a') (qXc D X' wc H.size) (va_A wc H.size))
    (kx : ∀ (E : String) (w1 : va_W), X' E w1 → ∃ (w2 : va_W) (is2 : List Nat), is2.map (fun i => (wr ++ w1)[i]?) = w2.map some ∧ va_nd is2 = true ∧ CfX p l e R s m args below meth c D A nL (cells + mc') (slots + ms') Q pc lv st w2 E)
    (kk : ∀ (r : Option Value) (w1 : va_W), B' r w1 → ∃ (w2 : va_W) (is2 : List Nat), is2.map (fun i => (wr ++ w1)[i]?) = w2.map some ∧ va_nd is2 = true ∧ Cf p l e R s m args below meth c D A nL (cells + mc') (slots + ms') Q (pc + 3) lv (r.toList ++ st) w2) :
    Cf p l e R s m args below meth c D A nL cells slots Q pc lv st0 ws := by
  intro H locs ls hP hD hS hl T hT XX
  have hF := va_free hD hS C.2.2.1 isC hC
  have hSn : ∀ {t T' : State} {L : List Loc}, T'.heap = t.heap → H.size ≤ t.heap.size → (∀ q : Nat, q < H.size → ¬ va_A wc H.size q → t.heap[q]? = H[q]?) → (∀ q ∈ L, va_A wc H.size q.base) → va_S A s.heap T'.heap (locs ++ L) := fun {t T' L} e1 hz hk hL => ⟨Nat.le_trans hS.1 (by rw [e1]; exact hz), fun q h1 h2 => by rw [e1, hk q (Nat.lt_of_lt_of_le h1 hS.1) (fun z => h2 (hF q z))]; exact hS.2.1 q h1 h2, fun q hq => by
      rcases List.mem_append.mp hq with h | h
      · exact hS.2.2 q h
      · exact hF _ (hL q h)⟩
  rcases hrun H locs ls hP hD hS hl T hT XX with ⟨v, st₀, t, T', L, h0, Y, hL, e1, e2, ⟨⟨r, w1, hv, hb, hP1, hD1⟩, hz, hk⟩, stp⟩ | ⟨q, st₀, t, T', L, E, ce, h0, Y, hL, e1, e2, ⟨⟨w1, hb, hP1, hD1⟩, hz, hk⟩, hce, hcv, hcl, stp⟩
  · cases hv
    rw [h0] at hz hk
    obtain ⟨w2, is2, h2, hn2, k2⟩ := kk v w1 hb
    obtain ⟨hP2, hD2⟩ := q_back isC isR is2 hC hR hnR hdis h2 hn2 hP hD hF hk hP1 hD1
    obtain ⟨t2, a1, b1⟩ := k2 T'.heap (locs ++ L) ls (by rw [e1]; exact hP2) hD2 (hSn e1 hz hk hL) hl T' rfl Y
    exact ⟨t2, stp t2 a1, b1⟩
  · rw [h0] at hz hk
    obtain ⟨w2, is2, h2, hn2, k2⟩ := kx E w1 hb
    obtain ⟨hP2, hD2⟩ := q_back isC isR is2 hC hR hnR hdis h2 hn2 hP hD hF hk hP1 hD1
    obtain ⟨t2, a1, b1⟩ := k2 T'.heap (locs ++ L) ls ce q (by rw [e1]; exact hP2) hD2 (hSn e1 hz hk hL) hl (by rw [e1]; exact hce) hcv hcl T' rfl Y
    exact ⟨t2, stp.trans a1, b1⟩
end QENDS
/-- what a method with one answer says -/
def qD (r : Option Value) (w : va_W) : Option Value → va_W → Prop := fun r' w' => r' = r ∧ w' = w
/-- .. and with one outcome: oc none: it returns; some E: it throws E; the world behind it is w -/
def qDo (oc : Option String) (r : Option Value) (w : va_W) : Option Value → va_W → Prop := fun r' w' => oc = none ∧ r' = r ∧ w' = w
def qDx (oc : Option String) (w : va_W) : String → va_W → Prop := fun E w' => oc = some E ∧ w' = w
