/-! THE WALK, PACKED: Cf is a frame's place with the world, the locals and the stack; a row turns Cf at an instruction into Cf at the next. -/
def set2 (x : Nat → Nat → Int32) (j : Nat) (g : Nat → Int32) : Nat → Nat → Int32 := fun k => if k = j then g else x k
theorem set2_s (x : Nat → Nat → Int32) (j : Nat) (g : Nat → Int32) : set2 x j g j = g := by simp [set2]
theorem set2_n (x : Nat → Nat → Int32) (j k : Nat) (g : Nat → Int32) (h : k ≠ j) : set2 x j g k = x k := by simp [set2, h]
def qT (ct : Nat → ClassId) : List (ClassId × FieldType) := [(ct 0, .int), (ct 1, .boolean)]
def qNF : List (Nat × String × String × String) := [(56, "PlotPatch$Rig", "barCounts", "[I"), (70, "PlotPatch$Rig", "weights", "[I"), (77, "PlotPatch$Board", "widths", "[I"), (83, "PlotPatch$Board", "watts", "[I"), (121, "PlotPatch$Rig", "bars", "[I"), (130, "PlotPatch$Rig", "places", "[I"), (137, "PlotPatch$Board", "firsts", "[I"), (149, "PlotPatch$Board", "circuits", "[I"), (155, "PlotPatch$Show", "cueCount", "I"), (168, "PlotPatch$Show", "named", "[I"), (176, "PlotPatch$Show", "last", "I")]
def qNM : List (Nat × MethodName) := [(64, yX1_addBar), (203, yX1_hasBar), (160, yX2_addCue), (117, yX1_hangs), (143, yX0_lowestGap), (171, yX2_beginNext), (102, yX1_bears), (96, yX1_hasPlace), (105, yX1_isClear), (111, yX1_put), (114, yX1_weightOn), (33, yX0_init), (26, yX1_init), (40, yX2_init), (165, yX2_cell), (124, yX1_ranked), (140, yX0_countDoubles), (185, yX2_reset), (188, yX2_wantedLevel), (198, yX2_handOver), (179, yX2_advance), (133, yX1_changeHouse)]
def qST : List (Nat × String) := [(100, "no such place"), (109, "the lamp cannot hang there"), (128, "not so many lamps hang there"), (158, "the plot has all its cues"), (163, "no such cue"), (174, "there is no next cue"), (193, "a lamp cannot stand in for itself"), (196, "the one must be dead, the other one must live"), (201, "no such lamp"), (206, "no such bar"), (208, "no such circuit"), (210, "out of its range"), (47, "no such house"), (61, "the house has all its bars"), (68, "the plot has all its lamps")]
def qNC : List (String × String) := [("java/lang/IllegalArgumentException", "java/lang/IllegalStateException"), ("java/lang/IllegalArgumentException", "java/lang/IndexOutOfBoundsException"), ("java/lang/IllegalStateException", "java/lang/IllegalArgumentException"), ("java/lang/IllegalStateException", "java/lang/IndexOutOfBoundsException"), ("java/lang/IndexOutOfBoundsException", "java/lang/IllegalArgumentException"), ("java/lang/IndexOutOfBoundsException", "java/lang/IllegalStateException")]
def qCA : List String := ["java/lang/IllegalArgumentException", "java/lang/IllegalStateException", "java/lang/IndexOutOfBoundsException"]
def qDE : List String := ["java/lang/RuntimeException", "java/lang/Exception", "java/lang/Throwable"]
/-- what the tables say beside a method's own words: the classes and their fields, the nest's links, the texts, the exceptions' classes -/
def qE (D : va_G) (ct : Nat → ClassId) (U : State) : Prop :=
  va_K D vwCl (qT ct) U ∧ (∀ q ∈ qNF, va_Nw (.fieldLinkNest "PlotPatch" q.1 q.2.1 q.2.2.1 q.2.2.2 "PlotPatch") U) ∧ (∀ q ∈ qNM, va_Nw (.methodLinkNest "PlotPatch" q.1 q.2 "PlotPatch") U) ∧ (∀ q ∈ qST, ∃ a, vk_R "PlotPatch" q.1 q.2 a U) ∧ (∀ q ∈ qNC, va_Nc q.1 q.2 U) ∧ (∀ q ∈ qCA, va_Nw (.castable q q) U) ∧ (∀ q ∈ qDE, va_Nw (.declares (Bundle.initS q)) U)
theorem qE.warm {D : va_G} {ct : Nat → ClassId} {s U : State} (hW : s.WarmedH U.vm) (h : qE D ct s) : qE D ct U :=
  ⟨h.1.moved hW.alike, fun q hq => va_Nw.warmF hW (h.2.1 q hq), fun q hq => va_Nw.warmM hW (h.2.2.1 q hq), fun q hq => by obtain ⟨a, ha⟩ := h.2.2.2.1 q hq; exact ⟨a, vk_R.warm hW ha⟩, fun q hq => va_Nc.moved hW.alike (h.2.2.2.2.1 q hq), fun q hq => va_Nw.warmC hW (h.2.2.2.2.2.1 q hq), fun q hq => va_Nw.warmD hW (h.2.2.2.2.2.2 q hq)⟩
def qZ (A : Nat → Prop) (U : State) (H : Heap) : Prop := vx_Zq Bundle.tN "UNASSIGNED_STACK" Bundle.steD A U H ∧ vx_Zq Bundle.tN "SUPPRESSED_SENTINEL" Bundle.listD A U H
theorem qZ.moved {A : Nat → Prop} {u U : State} {H : Heap} (hvm : u.vm.Alike U.vm) (h : qZ A u H) : qZ A U H := ⟨vx_Zq.moved hvm h.1, vx_Zq.moved hvm h.2⟩
theorem qZ.kept {A : Nat → Prop} {U : State} {H H1 : Heap} (h : qZ A U H) (hq : ∀ a : Nat, a < H.size → ¬ A a → H1[a]? = H[a]?) : qZ A U H1 := ⟨vx_Zq.kept h.1 hq, vx_Zq.kept h.2 hq⟩
theorem qZ.narrow {A B : Nat → Prop} {U : State} {H : Heap} (h : qZ A U H) (hAB : ∀ q, B q → A q) : qZ B U H := ⟨vx_Zq.narrow h.1 hAB, vx_Zq.narrow h.2 hAB⟩
def qPre (D : va_G) (ct : Nat → ClassId) (As : List Value) (ws : va_W) (sz : Nat) : Array Value → State → Prop := va_Pc As (fun U => U.heap.size = sz ∧ va_P D vwCl ws U.heap ∧ qE D ct U ∧ va_D (fun _ => True) ws ∧ qZ (va_A ws sz) U U.heap)
theorem qPre.blind {D : va_G} {ct : Nat → ClassId} {As : List Value} {ws : va_W} {sz : Nat} : FrameBlind (qPre D ct As ws sz) := fun a U g mk q => by
  obtain ⟨q0, q1, q2, q3, q4, q5⟩ := q
  exact ⟨q0, q1, q2, qE.warm (s := U) (U := U.calling g mk a) (State.WarmedH.refl U) q3, q4, qZ.moved (u := U) (U := U.calling g mk a) (Vm.Alike.refl U.vm) q5⟩
def qOk (D : va_G) (B : Option Value → va_W → Prop) (ws : va_W) (sz : Nat) : Array Value → State → Outcome → State → Prop := fun _ st o t => (∃ r w, o = .returned r ∧ B r w ∧ va_P D vwCl w t.heap ∧ va_D (va_A ws sz) w) ∧ va_F (va_A ws sz) st t
def qXc (D : va_G) (X : String → va_W → Prop) (ws : va_W) (sz : Nat) : String → State → State → Prop := fun E st t => (∃ w, X E w ∧ va_P D vwCl w t.heap ∧ va_D (va_A ws sz) w) ∧ va_F (va_A ws sz) st t
/-- a method that returns: from the world ws, with what B says of answer and world -/
def qM (l : Launch) (y : MethodName) (wy : List Cond) (rm : Room) (D : va_G) (ct : Nat → ClassId) (As : List Value) (ws : va_W) (B : Option Value → va_W → Prop) (mc ms : Nat) : Prop := ∀ sz, Met l y wy rm (qPre D ct As ws sz) (qOk D B ws sz) mc ms (va_A ws sz)
/-- a method that returns or throws -/
def qMX (l : Launch) (y : MethodName) (wy : List Cond) (rm : Room) (D : va_G) (ct : Nat → ClassId) (As : List Value) (ws : va_W) (B : Option Value → va_W → Prop) (X : String → va_W → Prop) (mc ms : Nat) : Prop := ∀ sz, vx_Met l y wy rm (qPre D ct As ws sz) (qOk D B ws sz) (qXc D X ws sz) mc ms (va_A ws sz)
/-- what holds in a frame as long as it stands -/
def Cx (p : Program) (s : State) (m : MethodId) (args : Array Value) (c : Code) (meth : Method) (cc : ByteArray) (nL : Nat) (ret : Option FieldType) (Ts : List Cond) (own : String) (D : va_G) (ct : Nat → ClassId) (A : Nat → Prop) : Prop :=
  CallFix p m c cc nL s args Ts own ∧ qE D ct s ∧ (∀ q, s.heap.size ≤ q → A q) ∧ meth.locks = false ∧ qZ A s s.heap ∧ meth.sig.returnType = ret
def Cf (p : Program) (l : Launch) (e : Env) (R : Room) (s : State) (m : MethodId) (args : Array Value) (below : List Frame) (meth : Method) (c : Code) (D : va_G) (A : Nat → Prop) (nL cells slots : Nat) (Q : State → Prop) (pc : Nat) (lv : List (Nat × Value)) (st : List Value) (ws : va_W) : Prop :=
  ∀ (H : Heap) (locs : List Loc) (ls : Array Slot), va_P D vwCl ws H → va_D A ws → va_S A s.heap H locs → lv_has ls nL lv → W p l e R s m args below meth c H locs cells slots Q (F0 m pc ls st)
/-- .. with an exception of kind E thrown over the frame -/
def CfX (p : Program) (l : Launch) (e : Env) (R : Room) (s : State) (m : MethodId) (args : Array Value) (below : List Frame) (meth : Method) (c : Code) (D : va_G) (A : Nat → Prop) (nL cells slots : Nat) (Q : State → Prop) (pc : Nat) (lv : List (Nat × Value)) (st : List Value) (ws : va_W) (E : String) : Prop :=
  ∀ (H : Heap) (locs : List Loc) (ls : Array Slot) (ce : Cell) (q : Addr), va_P D vwCl ws H → va_D A ws → va_S A s.heap H locs → lv_has ls nL lv → H[q]? = some ce → ce.vm = .none → s.vm.findClass E = some ce.cls → vx_W p l e R s m args below meth c H locs cells slots Q (F0 m pc ls st) q
theorem qE.nf {D : va_G} {ct : Nat → ClassId} {U : State} (h : qE D ct U) (k : Nat) {q : Nat × String × String × String} (hk : qNF[k]? = some q) {args : Array Value} : (Cond.fieldLinkNest "PlotPatch" q.1 q.2.1 q.2.2.1 q.2.2.2 "PlotPatch").before args U = true := va_Nw.use rfl (h.2.1 q (List.mem_of_getElem? hk))
theorem qE.nm {D : va_G} {ct : Nat → ClassId} {U : State} (h : qE D ct U) (k : Nat) {q : Nat × MethodName} (hk : qNM[k]? = some q) : va_Nw (.methodLinkNest "PlotPatch" q.1 q.2 "PlotPatch") U := h.2.2.1 q (List.mem_of_getElem? hk)
theorem Cx.w {p : Program} {s : State} {m : MethodId} {args : Array Value} {c : Code} {meth : Method} {cc : ByteArray} {nL : Nat} {ret : Option FieldType} {Ts : List Cond} {own : String} {D : va_G} {ct : Nat → ClassId} {A : Nat → Prop} (C : Cx p s m args c meth cc nL ret Ts own D ct A) : ∀ w ∈ Ts, w.before args s = true := C.1.2.2.2.2
/-- loops that count up -/
theorem lp_up {P : Nat → Prop} (N : Nat) (h : ∀ i, i < N → P (i + 1) → P i) (hN : P N) : P 0 := by
  have g : ∀ k, k ≤ N → P (N - k) := by
    intro k
    induction k with
    | zero => intro _; exact hN
    | succ k ih =>
      intro hk
      refine h (N - (k + 1)) (by omega) ?_
      rw [show N - (k + 1) + 1 = N - k by omega]
      exact ih (by omega)
  have := g N (Nat.le_refl N)
  rwa [Nat.sub_self] at this
section QROWS
variable {p : Program} {l : Launch} {e : Env} {R : Room} {s : State} {m : MethodId} {args : Array Value} {below : List Frame} {meth : Method} {c : Code} {D : va_G} {ct : Nat → ClassId} {A : Nat → Prop} {nL cells slots : Nat} {Q : State → Prop}
variable {cc : ByteArray} {ret : Option FieldType} {Ts : List Cond} {own : String} {pc pc2 : Nat} {lv lv' : List (Nat × Value)} {st : List Value} {ws : va_W}
theorem q_iload_n (C : Cx p s m args c meth cc nL ret Ts own D ct A) (j : Nat) {k : Fin 4} {i : Nat} {x : Int32} (hdg : decode cc pc = .ok (.iload_n k, 1)) (hi : (k : Nat) = i) (hj : lv[j]? = some (i, .int x)) (hpc : pc + 1 = pc2) (k : Cf p l e R s m args below meth c D A nL cells slots Q pc2 lv (.int x :: st) ws) : Cf p l e R s m args below meth c D A nL cells slots Q pc lv st ws := by
  subst hpc
  intro H locs ls hP hD hS hl
  exact lv_iload_n C.1.1 C.1.2.1 hdg hi (lv_at hl j hj) (k H locs ls hP hD hS hl)
theorem q_iload (C : Cx p s m args c meth cc nL ret Ts own D ct A) (j : Nat) {i : Nat} {x : Int32} (hdg : decode cc pc = .ok (.iload i, 2)) (hj : lv[j]? = some (i, .int x)) (hpc : pc + 2 = pc2) (k : Cf p l e R s m args below meth c D A nL cells slots Q pc2 lv (.int x :: st) ws) : Cf p l e R s m args below meth c D A nL cells slots Q pc lv st ws := by
  subst hpc
  intro H locs ls hP hD hS hl
  exact lv_iload C.1.1 C.1.2.1 hdg (lv_at hl j hj) (k H locs ls hP hD hS hl)
theorem q_aload_n (C : Cx p s m args c meth cc nL ret Ts own D ct A) (j : Nat) {k : Fin 4} {i : Nat} {x : Nat} (hdg : decode cc pc = .ok (.aload_n k, 1)) (hi : (k : Nat) = i) (hj : lv[j]? = some (i, .ref x)) (hpc : pc + 1 = pc2) (k : Cf p l e R s m args below meth c D A nL cells slots Q pc2 lv (.ref x :: st) ws) : Cf p l e R s m args below meth c D A nL cells slots Q pc lv st ws := by
  subst hpc
  intro H locs ls hP hD hS hl
  exact lv_aload_n C.1.1 C.1.2.1 hdg hi (lv_at hl j hj) (k H locs ls hP hD hS hl)
theorem q_aload (C : Cx p s m args c meth cc nL ret Ts own D ct A) (j : Nat) {i : Nat} {x : Nat} (hdg : decode cc pc = .ok (.aload i, 2)) (hj : lv[j]? = some (i, .ref x)) (hpc : pc + 2 = pc2) (k : Cf p l e R s m args below meth c D A nL cells slots Q pc2 lv (.ref x :: st) ws) : Cf p l e R s m args below meth c D A nL cells slots Q pc lv st ws := by
  subst hpc
  intro H locs ls hP hD hS hl
  exact lv_aload C.1.1 C.1.2.1 hdg (lv_at hl j hj) (k H locs ls hP hD hS hl)
theorem q_iconst (C : Cx p s m args c meth cc nL ret Ts own D ct A) {n : Int} {v : Int32} (hdg : decode cc pc = .ok (.iconst n, 1)) (hv : Int32.ofInt n = v) (hpc : pc + 1 = pc2) (k : Cf p l e R s m args below meth c D A nL cells slots Q pc2 lv (.int v :: st) ws) : Cf p l e R s m args below meth c D A nL cells slots Q pc lv st ws := by
  subst hpc
  intro H locs ls hP hD hS hl
  exact lv_iconst C.1.1 C.1.2.1 hdg hv (k H locs ls hP hD hS hl)
theorem q_bipush (C : Cx p s m args c meth cc nL ret Ts own D ct A) {n : Int} {v : Int32} (hdg : decode cc pc = .ok (.bipush n, 2)) (hv : (Int8.ofInt n).toInt32 = v) (hpc : pc + 2 = pc2) (k : Cf p l e R s m args below meth c D A nL cells slots Q pc2 lv (.int v :: st) ws) : Cf p l e R s m args below meth c D A nL cells slots Q pc lv st ws := by
  subst hpc
  intro H locs ls hP hD hS hl
  exact lv_bipush C.1.1 C.1.2.1 hdg hv (k H locs ls hP hD hS hl)
theorem q_sipush (C : Cx p s m args c meth cc nL ret Ts own D ct A) {n : Int} {v : Int32} (hdg : decode cc pc = .ok (.sipush n, 3)) (hv : (Int16.ofInt n).toInt32 = v) (hpc : pc + 3 = pc2) (k : Cf p l e R s m args below meth c D A nL cells slots Q pc2 lv (.int v :: st) ws) : Cf p l e R s m args below meth c D A nL cells slots Q pc lv st ws := by
  subst hpc
  intro H locs ls hP hD hS hl
  exact lv_sipush C.1.1 C.1.2.1 hdg hv (k H locs ls hP hD hS hl)
theorem q_lconst (C : Cx p s m args c meth cc nL ret Ts own D ct A) {n : Fin 2} {v : Int64} (hdg : decode cc pc = .ok (.lconst n, 1)) (hv : Int64.ofNat (n : Nat) = v) (hpc : pc + 1 = pc2) (k : Cf p l e R s m args below meth c D A nL cells slots Q pc2 lv (.long v :: st) ws) : Cf p l e R s m args below meth c D A nL cells slots Q pc lv st ws := by
  subst hpc
  intro H locs ls hP hD hS hl
  exact lv_lconst C.1.1 C.1.2.1 hdg hv (k H locs ls hP hD hS hl)
theorem q_iadd (C : Cx p s m args c meth cc nL ret Ts own D ct A) {x y v : Int32} (hdg : decode cc pc = .ok (.iadd, 1)) (hv : (x + y) = v) (hpc : pc + 1 = pc2) (k : Cf p l e R s m args below meth c D A nL cells slots Q pc2 lv (.int v :: st) ws) : Cf p l e R s m args below meth c D A nL cells slots Q pc lv (.int y :: .int x :: st) ws := by
  subst hpc
  intro H locs ls hP hD hS hl
  exact lv_iadd C.1.1 C.1.2.1 hdg (by rw [hv]; exact k H locs ls hP hD hS hl)
theorem q_isub (C : Cx p s m args c meth cc nL ret Ts own D ct A) {x y v : Int32} (hdg : decode cc pc = .ok (.isub, 1)) (hv : (x - y) = v) (hpc : pc + 1 = pc2) (k : Cf p l e R s m args below meth c D A nL cells slots Q pc2 lv (.int v :: st) ws) : Cf p l e R s m args below meth c D A nL cells slots Q pc lv (.int y :: .int x :: st) ws := by
  subst hpc
  intro H locs ls hP hD hS hl
  exact lv_isub C.1.1 C.1.2.1 hdg (by rw [hv]; exact k H locs ls hP hD hS hl)
theorem q_imul (C : Cx p s m args c meth cc nL ret Ts own D ct A) {x y v : Int32} (hdg : decode cc pc = .ok (.imul, 1)) (hv : (x * y) = v) (hpc : pc + 1 = pc2) (k : Cf p l e R s m args below meth c D A nL cells slots Q pc2 lv (.int v :: st) ws) : Cf p l e R s m args below meth c D A nL cells slots Q pc lv (.int y :: .int x :: st) ws := by
  subst hpc
  intro H locs ls hP hD hS hl
  exact lv_imul C.1.1 C.1.2.1 hdg (by rw [hv]; exact k H locs ls hP hD hS hl)
theorem q_iand (C : Cx p s m args c meth cc nL ret Ts own D ct A) {x y v : Int32} (hdg : decode cc pc = .ok (.iand, 1)) (hv : (x &&& y) = v) (hpc : pc + 1 = pc2) (k : Cf p l e R s m args below meth c D A nL cells slots Q pc2 lv (.int v :: st) ws) : Cf p l e R s m args below meth c D A nL cells slots Q pc lv (.int y :: .int x :: st) ws := by
  subst hpc
  intro H locs ls hP hD hS hl
  exact lv_iand C.1.1 C.1.2.1 hdg (by rw [hv]; exact k H locs ls hP hD hS hl)
theorem q_ior (C : Cx p s m args c meth cc nL ret Ts own D ct A) {x y v : Int32} (hdg : decode cc pc = .ok (.ior, 1)) (hv : (x ||| y) = v) (hpc : pc + 1 = pc2) (k : Cf p l e R s m args below meth c D A nL cells slots Q pc2 lv (.int v :: st) ws) : Cf p l e R s m args below meth c D A nL cells slots Q pc lv (.int y :: .int x :: st) ws := by
  subst hpc
  intro H locs ls hP hD hS hl
  exact lv_ior C.1.1 C.1.2.1 hdg (by rw [hv]; exact k H locs ls hP hD hS hl)
theorem q_ixor (C : Cx p s m args c meth cc nL ret Ts own D ct A) {x y v : Int32} (hdg : decode cc pc = .ok (.ixor, 1)) (hv : (x ^^^ y) = v) (hpc : pc + 1 = pc2) (k : Cf p l e R s m args below meth c D A nL cells slots Q pc2 lv (.int v :: st) ws) : Cf p l e R s m args below meth c D A nL cells slots Q pc lv (.int y :: .int x :: st) ws := by
  subst hpc
  intro H locs ls hP hD hS hl
  exact lv_ixor C.1.1 C.1.2.1 hdg (by rw [hv]; exact k H locs ls hP hD hS hl)
theorem q_ishl (C : Cx p s m args c meth cc nL ret Ts own D ct A) {x y v : Int32} (hdg : decode cc pc = .ok (.ishl, 1)) (hv : (x <<< (y &&& 31)) = v) (hpc : pc + 1 = pc2) (k : Cf p l e R s m args below meth c D A nL cells slots Q pc2 lv (.int v :: st) ws) : Cf p l e R s m args below meth c D A nL cells slots Q pc lv (.int y :: .int x :: st) ws := by
  subst hpc
  intro H locs ls hP hD hS hl
  exact lv_ishl C.1.1 C.1.2.1 hdg (by rw [hv]; exact k H locs ls hP hD hS hl)
theorem q_idiv (C : Cx p s m args c meth cc nL ret Ts own D ct A) {x y v : Int32} (hdg : decode cc pc = .ok (.idiv, 1)) (hne : ¬ y = 0) (hv : x / y = v) (hpc : pc + 1 = pc2) (k : Cf p l e R s m args below meth c D A nL cells slots Q pc2 lv (.int v :: st) ws) : Cf p l e R s m args below meth c D A nL cells slots Q pc lv (.int y :: .int x :: st) ws := by
  subst hpc
  intro H locs ls hP hD hS hl
  exact lv_idiv C.1.1 C.1.2.1 hdg hne (by rw [hv]; exact k H locs ls hP hD hS hl)
theorem q_ineg (C : Cx p s m args c meth cc nL ret Ts own D ct A) {x v : Int32} (hdg : decode cc pc = .ok (.ineg, 1)) (hv : -x = v) (hpc : pc + 1 = pc2) (k : Cf p l e R s m args below meth c D A nL cells slots Q pc2 lv (.int v :: st) ws) : Cf p l e R s m args below meth c D A nL cells slots Q pc lv (.int x :: st) ws := by
  subst hpc
  intro H locs ls hP hD hS hl
  exact lv_ineg C.1.1 C.1.2.1 hdg (by rw [hv]; exact k H locs ls hP hD hS hl)
theorem q_i2l (C : Cx p s m args c meth cc nL ret Ts own D ct A) {x : Int32} {v : Int64} (hdg : decode cc pc = .ok (.i2l, 1)) (hv : x.toInt64 = v) (hpc : pc + 1 = pc2) (k : Cf p l e R s m args below meth c D A nL cells slots Q pc2 lv (.long v :: st) ws) : Cf p l e R s m args below meth c D A nL cells slots Q pc lv (.int x :: st) ws := by
  subst hpc
  intro H locs ls hP hD hS hl
  exact lv_i2l C.1.1 C.1.2.1 hdg hv (k H locs ls hP hD hS hl)
theorem q_dup (C : Cx p s m args c meth cc nL ret Ts own D ct A) {v : Value} (hdg : decode cc pc = .ok (.dup, 1)) (hv : v.category = 1) (hpc : pc + 1 = pc2) (k : Cf p l e R s m args below meth c D A nL cells slots Q pc2 lv (v :: v :: st) ws) : Cf p l e R s m args below meth c D A nL cells slots Q pc lv (v :: st) ws := by
  subst hpc
  intro H locs ls hP hD hS hl
  exact lv_dup C.1.1 C.1.2.1 hdg hv (k H locs ls hP hD hS hl)
theorem q_dup2 (C : Cx p s m args c meth cc nL ret Ts own D ct A) {v w : Value} (hdg : decode cc pc = .ok (.dup2, 1)) (hv : v.category = 1) (hw : w.category = 1) (hpc : pc + 1 = pc2) (k : Cf p l e R s m args below meth c D A nL cells slots Q pc2 lv (v :: w :: v :: w :: st) ws) : Cf p l e R s m args below meth c D A nL cells slots Q pc lv (v :: w :: st) ws := by
  subst hpc
  intro H locs ls hP hD hS hl
  exact lv_dup2_11 C.1.1 C.1.2.1 hdg hv hw (k H locs ls hP hD hS hl)
theorem q_pop (C : Cx p s m args c meth cc nL ret Ts own D ct A) {v : Value} (hdg : decode cc pc = .ok (.pop, 1)) (hv : v.category = 1) (hpc : pc + 1 = pc2) (k : Cf p l e R s m args below meth c D A nL cells slots Q pc2 lv st ws) : Cf p l e R s m args below meth c D A nL cells slots Q pc lv (v :: st) ws := by
  subst hpc
  intro H locs ls hP hD hS hl
  exact lv_pop C.1.1 C.1.2.1 hdg hv (k H locs ls hP hD hS hl)
theorem q_istore_n (C : Cx p s m args c meth cc nL ret Ts own D ct A) {i : Nat} {x : Int32} {k : Fin 4} (hdg : decode cc pc = .ok (.istore_n k, 1)) (hi : (k : Nat) = i) (hn : i < nL) (hl' : (i, Value.int x) :: lv.filter (fun q => !(q.1 == i) && !(q.1 + 1 == i && q.2.category == 2)) = lv') (hpc : pc + 1 = pc2) (k' : Cf p l e R s m args below meth c D A nL cells slots Q pc2 lv' st ws) : Cf p l e R s m args below meth c D A nL cells slots Q pc lv (.int x :: st) ws := by
  subst hpc
  intro H locs ls hP hD hS hl
  exact lv_istore_n C.1.1 C.1.2.1 hdg hi hl hn hl' (fun ls' h => k' H locs ls' hP hD hS h)
theorem q_istore (C : Cx p s m args c meth cc nL ret Ts own D ct A) {i : Nat} {x : Int32} (hdg : decode cc pc = .ok (.istore i, 2)) (hn : i < nL) (hl' : (i, Value.int x) :: lv.filter (fun q => !(q.1 == i) && !(q.1 + 1 == i && q.2.category == 2)) = lv') (hpc : pc + 2 = pc2) (k' : Cf p l e R s m args below meth c D A nL cells slots Q pc2 lv' st ws) : Cf p l e R s m args below meth c D A nL cells slots Q pc lv (.int x :: st) ws := by
  subst hpc
  intro H locs ls hP hD hS hl
  exact lv_istore C.1.1 C.1.2.1 hdg hl hn hl' (fun ls' h => k' H locs ls' hP hD hS h)
theorem q_astore_n (C : Cx p s m args c meth cc nL ret Ts own D ct A) {i : Nat} {x : Nat} {k : Fin 4} (hdg : decode cc pc = .ok (.astore_n k, 1)) (hi : (k : Nat) = i) (hn : i < nL) (hl' : (i, Value.ref x) :: lv.filter (fun q => !(q.1 == i) && !(q.1 + 1 == i && q.2.category == 2)) = lv') (hpc : pc + 1 = pc2) (k' : Cf p l e R s m args below meth c D A nL cells slots Q pc2 lv' st ws) : Cf p l e R s m args below meth c D A nL cells slots Q pc lv (.ref x :: st) ws := by
  subst hpc
  intro H locs ls hP hD hS hl
  exact lv_astore_n C.1.1 C.1.2.1 hdg hi hl hn hl' (fun ls' h => k' H locs ls' hP hD hS h)
theorem q_astore (C : Cx p s m args c meth cc nL ret Ts own D ct A) {i : Nat} {x : Nat} (hdg : decode cc pc = .ok (.astore i, 2)) (hn : i < nL) (hl' : (i, Value.ref x) :: lv.filter (fun q => !(q.1 == i) && !(q.1 + 1 == i && q.2.category == 2)) = lv') (hpc : pc + 2 = pc2) (k' : Cf p l e R s m args below meth c D A nL cells slots Q pc2 lv' st ws) : Cf p l e R s m args below meth c D A nL cells slots Q pc lv (.ref x :: st) ws := by
  subst hpc
  intro H locs ls hP hD hS hl
  exact lv_astore C.1.1 C.1.2.1 hdg hl hn hl' (fun ls' h => k' H locs ls' hP hD hS h)
theorem q_iinc (C : Cx p s m args c meth cc nL ret Ts own D ct A) (j : Nat) {i : Nat} {n : Int} {x v : Int32} (hdg : decode cc pc = .ok (.iinc i n, 3)) (hj : lv[j]? = some (i, .int x)) (hv : x + Int32.ofInt n = v) (hn : i < nL) (hl' : (i, Value.int v) :: lv.filter (fun q => !(q.1 == i) && !(q.1 + 1 == i && q.2.category == 2)) = lv') (hpc : pc + 3 = pc2) (k' : Cf p l e R s m args below meth c D A nL cells slots Q pc2 lv' st ws) : Cf p l e R s m args below meth c D A nL cells slots Q pc lv st ws := by
  subst hpc
  intro H locs ls hP hD hS hl
  exact lv_iinc (k := j) C.1.1 C.1.2.1 hdg hl hj hv hn hl' (fun ls' h => k' H locs ls' hP hD hS h)
/-- the locals in another order, or fewer -/
theorem q_lv (is : List Nat) (h : lv_pick lv is = lv') (k : Cf p l e R s m args below meth c D A nL cells slots Q pc lv' st ws) : Cf p l e R s m args below meth c D A nL cells slots Q pc lv st ws := fun H locs ls hP hD hS hl => k H locs ls hP hD hS (lv_sub hl is h)
theorem q_eqi {x y : Int32} (h : x = y) (k : Cf p l e R s m args below meth c D A nL cells slots Q pc lv (.int y :: st) ws) : Cf p l e R s m args below meth c D A nL cells slots Q pc lv (.int x :: st) ws := by rw [h]; exact k
theorem q_eqw {ws' : va_W} (h : ws = ws') (k : Cf p l e R s m args below meth c D A nL cells slots Q pc lv st ws') : Cf p l e R s m args below meth c D A nL cells slots Q pc lv st ws := by rw [h]; exact k
theorem q_eql {lv' : List (Nat × Value)} (h : lv = lv') (k : Cf p l e R s m args below meth c D A nL cells slots Q pc lv' st ws) : Cf p l e R s m args below meth c D A nL cells slots Q pc lv st ws := by rw [h]; exact k
theorem q_widen {c2 s2 : Nat} (h1 : cells ≤ c2) (h2 : slots ≤ s2) (k : Cf p l e R s m args below meth c D A nL c2 s2 Q pc lv st ws) : Cf p l e R s m args below meth c D A nL cells slots Q pc lv st ws := fun H locs ls hP hD hS hl => W.widen h1 h2 (k H locs ls hP hD hS hl)
theorem q_goto (C : Cx p s m args c meth cc nL ret Ts own D ct A) {off : Int} (hdg : decode cc pc = .ok (.goto off, 3)) (ht : (pc : Int) + off = (pc2 : Int)) (k : Cf p l e R s m args below meth c D A nL cells slots Q pc2 lv st ws) : Cf p l e R s m args below meth c D A nL cells slots Q pc lv st ws := fun H locs ls hP hD hS hl => lv_goto C.1.1 C.1.2.1 hdg ht (k H locs ls hP hD hS hl)
theorem q_if_eq (C : Cx p s m args c meth cc nL ret Ts own D ct A) {x : Int32} {off : Int} {tgt : Nat} (hdg : decode cc pc = .ok (.ifCond .eq off, 3)) (ht : (pc : Int) + off = (tgt : Int)) (hpc : pc + 3 = pc2) (kt : x = 0 → Cf p l e R s m args below meth c D A nL cells slots Q tgt lv st ws) (kf : ¬ x = 0 → Cf p l e R s m args below meth c D A nL cells slots Q pc2 lv st ws) : Cf p l e R s m args below meth c D A nL cells slots Q pc lv (.int x :: st) ws := by
  subst hpc
  intro H locs ls hP hD hS hl
  exact lv_if_eq C.1.1 C.1.2.1 hdg ht (fun h => kt h H locs ls hP hD hS hl) (fun h => kf h H locs ls hP hD hS hl)
theorem q_icmp_eq (C : Cx p s m args c meth cc nL ret Ts own D ct A) {x y : Int32} {off : Int} {tgt : Nat} (hdg : decode cc pc = .ok (.if_icmp .eq off, 3)) (ht : (pc : Int) + off = (tgt : Int)) (hpc : pc + 3 = pc2) (kt : x = y → Cf p l e R s m args below meth c D A nL cells slots Q tgt lv st ws) (kf : ¬ x = y → Cf p l e R s m args below meth c D A nL cells slots Q pc2 lv st ws) : Cf p l e R s m args below meth c D A nL cells slots Q pc lv (.int y :: .int x :: st) ws := by
  subst hpc
  intro H locs ls hP hD hS hl
  exact lv_icmp_eq C.1.1 C.1.2.1 hdg ht (fun h => kt h H locs ls hP hD hS hl) (fun h => kf h H locs ls hP hD hS hl)
theorem q_if_ne (C : Cx p s m args c meth cc nL ret Ts own D ct A) {x : Int32} {off : Int} {tgt : Nat} (hdg : decode cc pc = .ok (.ifCond .ne off, 3)) (ht : (pc : Int) + off = (tgt : Int)) (hpc : pc + 3 = pc2) (kt : ¬ x = 0 → Cf p l e R s m args below meth c D A nL cells slots Q tgt lv st ws) (kf : x = 0 → Cf p l e R s m args below meth c D A nL cells slots Q pc2 lv st ws) : Cf p l e R s m args below meth c D A nL cells slots Q pc lv (.int x :: st) ws := by
  subst hpc
  intro H locs ls hP hD hS hl
  exact lv_if_ne C.1.1 C.1.2.1 hdg ht (fun h => kt h H locs ls hP hD hS hl) (fun h => kf h H locs ls hP hD hS hl)
theorem q_icmp_ne (C : Cx p s m args c meth cc nL ret Ts own D ct A) {x y : Int32} {off : Int} {tgt : Nat} (hdg : decode cc pc = .ok (.if_icmp .ne off, 3)) (ht : (pc : Int) + off = (tgt : Int)) (hpc : pc + 3 = pc2) (kt : ¬ x = y → Cf p l e R s m args below meth c D A nL cells slots Q tgt lv st ws) (kf : x = y → Cf p l e R s m args below meth c D A nL cells slots Q pc2 lv st ws) : Cf p l e R s m args below meth c D A nL cells slots Q pc lv (.int y :: .int x :: st) ws := by
  subst hpc
  intro H locs ls hP hD hS hl
  exact lv_icmp_ne C.1.1 C.1.2.1 hdg ht (fun h => kt h H locs ls hP hD hS hl) (fun h => kf h H locs ls hP hD hS hl)
theorem q_if_lt (C : Cx p s m args c meth cc nL ret Ts own D ct A) {x : Int32} {off : Int} {tgt : Nat} (hdg : decode cc pc = .ok (.ifCond .lt off, 3)) (ht : (pc : Int) + off = (tgt : Int)) (hpc : pc + 3 = pc2) (kt : x < 0 → Cf p l e R s m args below meth c D A nL cells slots Q tgt lv st ws) (kf : ¬ x < 0 → Cf p l e R s m args below meth c D A nL cells slots Q pc2 lv st ws) : Cf p l e R s m args below meth c D A nL cells slots Q pc lv (.int x :: st) ws := by
  subst hpc
  intro H locs ls hP hD hS hl
  exact lv_if_lt C.1.1 C.1.2.1 hdg ht (fun h => kt h H locs ls hP hD hS hl) (fun h => kf h H locs ls hP hD hS hl)
theorem q_icmp_lt (C : Cx p s m args c meth cc nL ret Ts own D ct A) {x y : Int32} {off : Int} {tgt : Nat} (hdg : decode cc pc = .ok (.if_icmp .lt off, 3)) (ht : (pc : Int) + off = (tgt : Int)) (hpc : pc + 3 = pc2) (kt : x < y → Cf p l e R s m args below meth c D A nL cells slots Q tgt lv st ws) (kf : ¬ x < y → Cf p l e R s m args below meth c D A nL cells slots Q pc2 lv st ws) : Cf p l e R s m args below meth c D A nL cells slots Q pc lv (.int y :: .int x :: st) ws := by
  subst hpc
  intro H locs ls hP hD hS hl
  exact lv_icmp_lt C.1.1 C.1.2.1 hdg ht (fun h => kt h H locs ls hP hD hS hl) (fun h => kf h H locs ls hP hD hS hl)
theorem q_if_ge (C : Cx p s m args c meth cc nL ret Ts own D ct A) {x : Int32} {off : Int} {tgt : Nat} (hdg : decode cc pc = .ok (.ifCond .ge off, 3)) (ht : (pc : Int) + off = (tgt : Int)) (hpc : pc + 3 = pc2) (kt : 0 ≤ x → Cf p l e R s m args below meth c D A nL cells slots Q tgt lv st ws) (kf : ¬ 0 ≤ x → Cf p l e R s m args below meth c D A nL cells slots Q pc2 lv st ws) : Cf p l e R s m args below meth c D A nL cells slots Q pc lv (.int x :: st) ws := by
  subst hpc
  intro H locs ls hP hD hS hl
  exact lv_if_ge C.1.1 C.1.2.1 hdg ht (fun h => kt h H locs ls hP hD hS hl) (fun h => kf h H locs ls hP hD hS hl)
theorem q_icmp_ge (C : Cx p s m args c meth cc nL ret Ts own D ct A) {x y : Int32} {off : Int} {tgt : Nat} (hdg : decode cc pc = .ok (.if_icmp .ge off, 3)) (ht : (pc : Int) + off = (tgt : Int)) (hpc : pc + 3 = pc2) (kt : y ≤ x → Cf p l e R s m args below meth c D A nL cells slots Q tgt lv st ws) (kf : ¬ y ≤ x → Cf p l e R s m args below meth c D A nL cells slots Q pc2 lv st ws) : Cf p l e R s m args below meth c D A nL cells slots Q pc lv (.int y :: .int x :: st) ws := by
  subst hpc
  intro H locs ls hP hD hS hl
  exact lv_icmp_ge C.1.1 C.1.2.1 hdg ht (fun h => kt h H locs ls hP hD hS hl) (fun h => kf h H locs ls hP hD hS hl)
theorem q_if_gt (C : Cx p s m args c meth cc nL ret Ts own D ct A) {x : Int32} {off : Int} {tgt : Nat} (hdg : decode cc pc = .ok (.ifCond .gt off, 3)) (ht : (pc : Int) + off = (tgt : Int)) (hpc : pc + 3 = pc2) (kt : 0 < x → Cf p l e R s m args below meth c D A nL cells slots Q tgt lv st ws) (kf : ¬ 0 < x → Cf p l e R s m args below meth c D A nL cells slots Q pc2 lv st ws) : Cf p l e R s m args below meth c D A nL cells slots Q pc lv (.int x :: st) ws := by
  subst hpc
  intro H locs ls hP hD hS hl
  exact lv_if_gt C.1.1 C.1.2.1 hdg ht (fun h => kt h H locs ls hP hD hS hl) (fun h => kf h H locs ls hP hD hS hl)
theorem q_icmp_gt (C : Cx p s m args c meth cc nL ret Ts own D ct A) {x y : Int32} {off : Int} {tgt : Nat} (hdg : decode cc pc = .ok (.if_icmp .gt off, 3)) (ht : (pc : Int) + off = (tgt : Int)) (hpc : pc + 3 = pc2) (kt : y < x → Cf p l e R s m args below meth c D A nL cells slots Q tgt lv st ws) (kf : ¬ y < x → Cf p l e R s m args below meth c D A nL cells slots Q pc2 lv st ws) : Cf p l e R s m args below meth c D A nL cells slots Q pc lv (.int y :: .int x :: st) ws := by
  subst hpc
  intro H locs ls hP hD hS hl
  exact lv_icmp_gt C.1.1 C.1.2.1 hdg ht (fun h => kt h H locs ls hP hD hS hl) (fun h => kf h H locs ls hP hD hS hl)
theorem q_if_le (C : Cx p s m args c meth cc nL ret Ts own D ct A) {x : Int32} {off : Int} {tgt : Nat} (hdg : decode cc pc = .ok (.ifCond .le off, 3)) (ht : (pc : Int) + off = (tgt : Int)) (hpc : pc + 3 = pc2) (kt : x ≤ 0 → Cf p l e R s m args below meth c D A nL cells slots Q tgt lv st ws) (kf : ¬ x ≤ 0 → Cf p l e R s m args below meth c D A nL cells slots Q pc2 lv st ws) : Cf p l e R s m args below meth c D A nL cells slots Q pc lv (.int x :: st) ws := by
  subst hpc
  intro H locs ls hP hD hS hl
  exact lv_if_le C.1.1 C.1.2.1 hdg ht (fun h => kt h H locs ls hP hD hS hl) (fun h => kf h H locs ls hP hD hS hl)
theorem q_icmp_le (C : Cx p s m args c meth cc nL ret Ts own D ct A) {x y : Int32} {off : Int} {tgt : Nat} (hdg : decode cc pc = .ok (.if_icmp .le off, 3)) (ht : (pc : Int) + off = (tgt : Int)) (hpc : pc + 3 = pc2) (kt : x ≤ y → Cf p l e R s m args below meth c D A nL cells slots Q tgt lv st ws) (kf : ¬ x ≤ y → Cf p l e R s m args below meth c D A nL cells slots Q pc2 lv st ws) : Cf p l e R s m args below meth c D A nL cells slots Q pc lv (.int y :: .int x :: st) ws := by
  subst hpc
  intro H locs ls hP hD hS hl
  exact lv_icmp_le C.1.1 C.1.2.1 hdg ht (fun h => kt h H locs ls hP hD hS hl) (fun h => kf h H locs ls hP hD hS hl)
theorem q_get (C : Cx p s m args c meth cc nL ret Ts own D ct A) {a q0 k ci N index : Nat} {C' ref : String} {T : u_T} {fs : List Value} {v : Value} (hin : ∀ w ∈ u_ws C' T N, w ∈ Ts) (hlink : (Cond.fieldLink own index ref (T k).2.1 (T k).2.2.1).before args s = true) (he : ws[q0]? = some (a, .inr (ci, fs))) (hc : vwCl[ci]? = some (C', T, N)) (hk : k < N) (hsame : (T k).1 = ref) (hv : fs[k]? = some v) (hdg : decode cc pc = .ok (.getfield index, 3)) (hpc : pc + 3 = pc2) (kk : Cf p l e R s m args below meth c D A nL cells slots Q pc2 lv (v :: st) ws) : Cf p l e R s m args below meth c D A nL cells slots Q pc lv (.ref a :: st) ws := by
  subst hpc; subst hsame
  intro H locs ls hP hD hS hl
  exact va_get C.1.1 C.1.2.1 C.w hin C.1.2.2.2.1 C.2.1.1 hP q0 he hc k hk hlink (fun _ h => h) hv hdg (kk H locs ls hP hD hS hl)
theorem q_getN (C : Cx p s m args c meth cc nL ret Ts own D ct A) {a q0 k ci N index : Nat} {C' ref : String} {T : u_T} {fs : List Value} {v : Value} (hin : ∀ w ∈ u_ws C' T N, w ∈ Ts) {host : String} (hlink : (Cond.fieldLinkNest own index ref (T k).2.1 (T k).2.2.1 host).before args s = true) (he : ws[q0]? = some (a, .inr (ci, fs))) (hc : vwCl[ci]? = some (C', T, N)) (hk : k < N) (hsame : (T k).1 = ref) (hv : fs[k]? = some v) (hdg : decode cc pc = .ok (.getfield index, 3)) (hpc : pc + 3 = pc2) (kk : Cf p l e R s m args below meth c D A nL cells slots Q pc2 lv (v :: st) ws) : Cf p l e R s m args below meth c D A nL cells slots Q pc lv (.ref a :: st) ws := by
  subst hpc; subst hsame
  intro H locs ls hP hD hS hl
  exact va_getN C.1.1 C.1.2.1 C.w hin C.1.2.2.2.1 C.2.1.1 hP q0 he hc k hk hlink (fun _ h => h) hv hdg (kk H locs ls hP hD hS hl)
theorem q_put (C : Cx p s m args c meth cc nL ret Ts own D ct A) {a q0 k ci N index : Nat} {C' ref : String} {T : u_T} {fs : List Value} {v : Value} {ty : FieldType} {ws' : va_W} (hin : ∀ w ∈ u_ws C' T N, w ∈ Ts) {ty0 : Nat → FieldType} (hty : ∀ k, k < N → parseFieldDescriptor (T k).2.2.1 = some (ty0 k)) (hnm : ∀ a, a < N → ∀ b, b < N → a ≠ b → (T a).2.1 ≠ (T b).2.1) (hlink : (Cond.fieldLink own index ref (T k).2.1 (T k).2.2.1).before args s = true) (he : ws[q0]? = some (a, .inr (ci, fs))) (hc : vwCl[ci]? = some (C', T, N)) (hk : k < N) (hsame : (T k).1 = ref) (hfin : (T k).2.2.2 = false) (hd : parseFieldDescriptor (T k).2.2.1 = some ty) (hn : narrow ty v = v) (hfit : fits ty v = true) (hl : k < fs.length) (hw : ws.set q0 (a, .inr (ci, fs.set k v)) = ws') (hdg : decode cc pc = .ok (.putfield index, 3)) (hpc : pc + 3 = pc2) (kk : Cf p l e R s m args below meth c D A nL cells slots Q pc2 lv st ws') : Cf p l e R s m args below meth c D A nL cells slots Q pc lv (v :: .ref a :: st) ws := by
  subst hpc; subst hw
  intro H locs ls hP hD hS hls
  exact va_put C.1.1 C.1.2.1 C.w hin ty0 hty hnm C.1.2.2.2.1 C.2.1.1 hP hD hS q0 he hc k hk hlink (by subst hsame; exact fun _ h => h) hfin hd hn hfit hl hdg (fun H1 locs1 hP1 hD1 hS1 => kk H1 locs1 ls hP1 hD1 hS1 hls)
theorem q_putF (C : Cx p s m args c meth cc nL ret Ts own D ct A) {a q0 k ci N index : Nat} {C' ref : String} {T : u_T} {fs : List Value} {v : Value} {ty : FieldType} {ws' : va_W} (hin : ∀ w ∈ u_ws C' T N, w ∈ Ts) {ty0 : Nat → FieldType} (hty : ∀ k, k < N → parseFieldDescriptor (T k).2.2.1 = some (ty0 k)) (hnm : ∀ a, a < N → ∀ b, b < N → a ≠ b → (T a).2.1 ≠ (T b).2.1) (hlink : (Cond.fieldLink own index ref (T k).2.1 (T k).2.2.1).before args s = true) (he : ws[q0]? = some (a, .inr (ci, fs))) (hc : vwCl[ci]? = some (C', T, N)) (hk : k < N) (hsame : (T k).1 = ref) (hfin : (T k).2.2.2 = true) (hin2 : meth.name = "<init>") (hdecl : (T k).1 = own) (hd : parseFieldDescriptor (T k).2.2.1 = some ty) (hn : narrow ty v = v) (hfit : fits ty v = true) (hl : k < fs.length) (hw : ws.set q0 (a, .inr (ci, fs.set k v)) = ws') (hdg : decode cc pc = .ok (.putfield index, 3)) (hpc : pc + 3 = pc2) (kk : Cf p l e R s m args below meth c D A nL cells slots Q pc2 lv st ws') : Cf p l e R s m args below meth c D A nL cells slots Q pc lv (v :: .ref a :: st) ws := by
  subst hpc; subst hw
  intro H locs ls hP hD hS hls
  exact va_putF C.1.1 C.1.2.1 C.w hin ty0 hty hnm C.1.2.2.2.1 C.2.1.1 hP hD hS q0 he hc k hk hlink (by subst hsame; exact fun _ h => h) hfin hin2 hdecl hd hn hfit hl hdg (fun H1 locs1 hP1 hD1 hS1 => kk H1 locs1 ls hP1 hD1 hS1 hls)
theorem q_iald (C : Cx p s m args c meth cc nL ret Ts own D ct A) (j : Nat) {a q0 n : Nat} {cA : ClassId} {f : Nat → Int32} {i : Int32} (ha : ws[q0]? = some (a, .inl (cA, n, .inl f))) (hcA : cA = ct 0) (hi : i = nI j) (hj : j < n) (hn : n < 2 ^ 31) (hdg : decode cc pc = .ok (.iaload, 1)) (hpc : pc + 1 = pc2) (kk : Cf p l e R s m args below meth c D A nL cells slots Q pc2 lv (.int (f j) :: st) ws) : Cf p l e R s m args below meth c D A nL cells slots Q pc lv (.int i :: .ref a :: st) ws := by
  subst hpc; subst hi; subst hcA
  intro H locs ls hP hD hS hl
  exact va_iald C.1.1 C.1.2.1 C.2.1.1 hP q0 0 ha rfl (vp_in_nI hj hn) hdg (by rw [nI_clamp (Nat.lt_trans hj hn)]; exact kk H locs ls hP hD hS hl)
theorem q_zald (C : Cx p s m args c meth cc nL ret Ts own D ct A) (j : Nat) {a q0 n : Nat} {cA : ClassId} {f : Nat → Int32} {i : Int32} (ha : ws[q0]? = some (a, .inl (cA, n, .inl f))) (hcA : cA = ct 1) (hi : i = nI j) (hj : j < n) (hn : n < 2 ^ 31) (hdg : decode cc pc = .ok (.baload, 1)) (hpc : pc + 1 = pc2) (kk : Cf p l e R s m args below meth c D A nL cells slots Q pc2 lv (.int (f j) :: st) ws) : Cf p l e R s m args below meth c D A nL cells slots Q pc lv (.int i :: .ref a :: st) ws := by
  subst hpc; subst hi; subst hcA
  intro H locs ls hP hD hS hl
  exact va_zald C.1.1 C.1.2.1 C.2.1.1 hP q0 1 ha rfl (vp_in_nI hj hn) hdg (by rw [nI_clamp (Nat.lt_trans hj hn)]; exact kk H locs ls hP hD hS hl)
theorem q_iast (C : Cx p s m args c meth cc nL ret Ts own D ct A) (j : Nat) {a q0 n : Nat} {cA : ClassId} {f : Nat → Int32} {i x : Int32} {ws' : va_W} (ha : ws[q0]? = some (a, .inl (cA, n, .inl f))) (hcA : cA = ct 0) (hi : i = nI j) (hj : j < n) (hn : n < 2 ^ 31) (hw : ws.set q0 (a, .inl (cA, n, .inl (upd f j x))) = ws') (hdg : decode cc pc = .ok (.iastore, 1)) (hpc : pc + 1 = pc2) (kk : Cf p l e R s m args below meth c D A nL cells slots Q pc2 lv st ws') : Cf p l e R s m args below meth c D A nL cells slots Q pc lv (.int x :: .int i :: .ref a :: st) ws := by
  subst hpc; subst hi; subst hcA; subst hw
  intro H locs ls hP hD hS hl
  refine va_iast C.1.1 C.1.2.1 C.2.1.1 hP hD hS q0 0 ha rfl (vp_in_nI hj hn) hdg (fun H1 locs1 hP1 hD1 hS1 => ?_)
  rw [nI_clamp (Nat.lt_trans hj hn)] at hP1 hD1
  exact kk H1 locs1 ls hP1 hD1 hS1 hl
theorem q_zast (C : Cx p s m args c meth cc nL ret Ts own D ct A) (j : Nat) {a q0 n : Nat} {cA : ClassId} {f : Nat → Int32} {i x : Int32} {ws' : va_W} (ha : ws[q0]? = some (a, .inl (cA, n, .inl f))) (hcA : cA = ct 1) (hi : i = nI j) (hj : j < n) (hn : n < 2 ^ 31) (hx : vp_nar .boolean x = x) (hw : ws.set q0 (a, .inl (cA, n, .inl (upd f j x))) = ws') (hdg : decode cc pc = .ok (.bastore, 1)) (hpc : pc + 1 = pc2) (kk : Cf p l e R s m args below meth c D A nL cells slots Q pc2 lv st ws') : Cf p l e R s m args below meth c D A nL cells slots Q pc lv (.int x :: .int i :: .ref a :: st) ws := by
  subst hpc; subst hi; subst hcA; subst hw
  intro H locs ls hP hD hS hl
  refine va_zast C.1.1 C.1.2.1 C.2.1.1 hP hD hS q0 1 ha rfl (vp_in_nI hj hn) hdg (fun H1 locs1 hP1 hD1 hS1 => ?_)
  rw [nI_clamp (Nat.lt_trans hj hn), hx] at hP1 hD1
  exact kk H1 locs1 ls hP1 hD1 hS1 hl
theorem q_alen (C : Cx p s m args c meth cc nL ret Ts own D ct A) {a q0 n : Nat} {cA : ClassId} {t0 : Nat} {x : vp_A} {ty : FieldType} {v : Int32} (ha : ws[q0]? = some (a, .inl (cA, x))) (ht : (qT ct)[t0]? = some (cA, ty)) (hv : Int32.ofNat x.1 = v) (hdg : decode cc pc = .ok (.arraylength, 1)) (hpc : pc + 1 = pc2) (kk : Cf p l e R s m args below meth c D A nL cells slots Q pc2 lv (.int v :: st) ws) : Cf p l e R s m args below meth c D A nL cells slots Q pc lv (.ref a :: st) ws := by
  subst hpc
  intro H locs ls hP hD hS hl
  exact va_alen C.1.1 C.1.2.1 C.2.1.1 hP q0 t0 ha ht hv hdg (kk H locs ls hP hD hS hl)
end QROWS
