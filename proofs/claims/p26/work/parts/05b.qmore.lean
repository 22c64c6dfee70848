/-! the packed walk: Math.abs, and 'throw new E("text")' -/
section QMORE
variable {p : Program} {l : Launch} {e : Env} {R : Room} {s : State} {m : MethodId} {args : Array Value} {below : List Frame} {meth : Method} {c : Code} {D : va_G} {ct : Nat → ClassId} {A : Nat → Prop} {nL cells slots : Nat} {Q : State → Prop}
variable {cc : ByteArray} {ret : Option FieldType} {Ts : List Cond} {own : String} {pc pc2 : Nat} {lv lv' : List (Nat × Value)} {st : List Value} {ws : va_W}
theorem q_mabs (C : Cx p s m args c meth cc nL ret Ts own D ct A) {index : Nat} (hlink : (Cond.methodLink own index Lib.Math.abs.name).before args s = true) (hstat : (Cond.static Lib.Math.abs.name).before args s = true) (hini : (Cond.initialized "java/lang/Math").before args s = true) (hcode : (Cond.code Lib.Math.abs.name Lib.Math.abs.code 1 (some .int)).before args s = true)
    (hframes : 1 ≤ R.frames) (hlocals : (st.map fun v => v.category).sum + 13 ≤ R.locals) (hc : cells ≤ R.cells) (hs : slots ≤ R.slots) {x v : Int32} (hv : (if 0 ≤ x then x else 0 - x) = v) (hdg : decode cc pc = .ok (.invokestatic index, 3)) (hpc : pc + 3 = pc2)
    (k : Cf p l e R s m args below meth c D A nL cells slots Q pc2 lv (.int v :: st) ws) : Cf p l e R s m args below meth c D A nL cells slots Q pc lv (.int x :: st) ws := by
  subst hpc; subst hv
  intro H locs ls hP hD hS hl
  exact va_mabs C.1.1 C.1.2.1 (C.1.2.2.1.trans hl.1.symm) C.1.2.2.2.1 hlink hstat hini hcode hframes hlocals hc hs hdg (k H locs ls hP hD hS hl)
/-- throw new E("text"), E's superclasses up to Exception in names -/
theorem q_throwS (C : Cx p s m args c meth cc nL ret Ts own D ct A) (hl : l.stackTraces = false) {B : Option Value → va_W → Prop} {X : String → va_W → Prop} {ws0 : va_W} {mc ms : Nat} (hQ : qQX D B X ws0 s args below mc ms A Q) (htab : ∀ x ∈ c.exceptionTable.toList, False) {cls : String} {names : List String} {ik ic : Nat} (hown : own = "PlotPatch") (j : Nat) {is : Nat} {text : String} (hj : qST[j]? = some (is, text))
    (hcls : Bundle.fit cls = true) (hnames : ∀ n ∈ names, Bundle.fit n = true) (hk : (Cond.classLink own ik cls).before args s = true) (hini : (Cond.initialized cls).before args s = true) (hat : ∀ w ∈ vx_atS own ic cls names, w.before args s = true) (hgood : ∀ w ∈ Cond.classLink own ik cls :: Cond.initialized cls :: vx_atS own ic cls names, vx_ot w = true)
    (d0 : decode cc pc = .ok (.new ik, 3)) (d3 : decode cc (pc + 3) = .ok (.dup, 1)) (d4 : decode cc (pc + 4) = .ok (.ldc is, 2)) (d6 : decode cc (pc + 6) = .ok (.invokespecial ic, 3)) (d9 : decode cc (pc + 9) = .ok (.athrow, 1))
    (hRframes : names.length + 3 < R.frames) (hRlocals : (st.map fun v => v.category).sum + (13 * (names.length + 1) + 43) ≤ R.locals) (hRcells : cells + 1 ≤ R.cells) (hRslots : slots + 6 ≤ R.slots) (hc : cells + 1 ≤ mc) (hs : slots + 6 ≤ ms) (hX : X cls ws) :
    Cf p l e R s m args below meth c D A nL cells slots Q pc lv st ws := by
  obtain ⟨rfl, rfl⟩ := hQ
  obtain ⟨sa, hsa⟩ := C.2.1.2.2.2.1 _ (List.mem_of_getElem? hj)
  subst hown
  intro H locs ls hP hD hS hls
  refine vx_throwS (sa := sa) (text := text) C.1.1 C.1.2.1 hl C.1.2.2.2.1 hcls hnames hk hini hsa hat hgood C.2.2.2.2.1.1 C.2.2.2.2.1.2 hS (hls.1.trans C.1.2.2.1.symm) d0 d3 d4 d6 d9 (fun x hx => (htab x hx).elim) hRframes hRlocals hRcells hRslots C.2.2.2.1 (fun t ht h1 h2 => ?_) hS.2.2 hc hs
  have hk1 : ∀ (k : Nat) (x : Nat × va_E), ws[k]? = some x → t.heap[x.1]? = H[x.1]? := fun k x hx => h2 x.1 ((hP k x hx).lt)
  exact ⟨⟨ws, hX, hP.kept hk1, hD⟩, Nat.le_trans hS.1 h1, fun q q1 q2 => by rw [h2 q (Nat.lt_of_lt_of_le q1 hS.1)]; exact hS.2.1 q q1 q2⟩
end QMORE
/-- the words of the throws that a method's own list can't hold -/
def qWx (cls : String) : List Cond := [Cond.castable cls cls, Cond.declares (Bundle.initS "java/lang/RuntimeException"), Cond.declares (Bundle.initS "java/lang/Exception"), Cond.declares (Bundle.initS "java/lang/Throwable")]
theorem q_atS {D : va_G} {ct : Nat → ClassId} {args : Array Value} {s : State} {own cls : String} {ic : Nat} {names : List String} (hE : qE D ct s) (h1 : ∀ w ∈ (vx_atS own ic cls names).filter goodWord, w.before args s = true) (h2 : ∀ w ∈ (vx_atS own ic cls names).filter (fun w => !goodWord w), w ∈ qWx cls) (h3 : cls ∈ qCA) : ∀ w ∈ vx_atS own ic cls names, w.before args s = true :=
  vx_hat h1 h2 (vx_c (va_Nw.use rfl (hE.2.2.2.2.2.1 cls h3)) (vx_c (va_Nw.use rfl (hE.2.2.2.2.2.2 _ (by decide +kernel))) (vx_c (va_Nw.use rfl (hE.2.2.2.2.2.2 _ (by decide +kernel))) (vx_c (va_Nw.use rfl (hE.2.2.2.2.2.2 _ (by decide +kernel))) vx_n))))
theorem q_ng0 : ∀ w ∈ (vx_atS RX3 49 "java/lang/IndexOutOfBoundsException" ["java/lang/RuntimeException", "java/lang/Exception"]).filter (fun w => !goodWord w), w ∈ qWx "java/lang/IndexOutOfBoundsException" := by decide +kernel
theorem q_ot0 : ∀ w ∈ Cond.classLink RX3 45 "java/lang/IndexOutOfBoundsException" :: Cond.initialized "java/lang/IndexOutOfBoundsException" :: vx_atS RX3 49 "java/lang/IndexOutOfBoundsException" ["java/lang/RuntimeException", "java/lang/Exception"], vx_ot w = true := by decide +kernel
theorem q_ng1 : ∀ w ∈ (vx_atS RX3 195 "java/lang/IllegalArgumentException" ["java/lang/RuntimeException", "java/lang/Exception"]).filter (fun w => !goodWord w), w ∈ qWx "java/lang/IllegalArgumentException" := by decide +kernel
theorem q_ot1 : ∀ w ∈ Cond.classLink RX3 191 "java/lang/IllegalArgumentException" :: Cond.initialized "java/lang/IllegalArgumentException" :: vx_atS RX3 195 "java/lang/IllegalArgumentException" ["java/lang/RuntimeException", "java/lang/Exception"], vx_ot w = true := by decide +kernel
theorem q_ng2 : ∀ w ∈ (vx_atS RX3 63 "java/lang/IllegalStateException" ["java/lang/RuntimeException", "java/lang/Exception"]).filter (fun w => !goodWord w), w ∈ qWx "java/lang/IllegalStateException" := by decide +kernel
theorem q_ot2 : ∀ w ∈ Cond.classLink RX3 59 "java/lang/IllegalStateException" :: Cond.initialized "java/lang/IllegalStateException" :: vx_atS RX3 63 "java/lang/IllegalStateException" ["java/lang/RuntimeException", "java/lang/Exception"], vx_ot w = true := by decide +kernel
