/-! the law's helpers: the out place beside PlotPatch's world; catching -/
def wXo (ct : Nat → ClassId) (a : Nat → Nat) (o : Nat) (g : Nat → Int64) (x : Nat → Nat → Int32) : va_W := wX ct a x ++ [(o, .inl (ct 2, 1, .inr (.inl g)))]
theorem wXo_g26 (ct : Nat → ClassId) (a : Nat → Nat) (o : Nat) (g : Nat → Int64) (x : Nat → Nat → Int32) : (wXo ct a o g x)[26]? = some (o, .inl (ct 2, 1, .inr (.inl g))) := rfl
theorem wXo_a26 (ct : Nat → ClassId) (a : Nat → Nat) (o : Nat) (g g' : Nat → Int64) (x : Nat → Nat → Int32) : (wXo ct a o g x).set 26 (o, .inl (ct 2, 1, .inr (.inl g'))) = wXo ct a o g' x := rfl
theorem wXo_C (ct : Nat → ClassId) (a : Nat → Nat) (o : Nat) (g : Nat → Int64) (x : Nat → Nat → Int32) : [0, 1, 2, 3, 4, 5, 6, 7, 8, 9, 10, 11, 12, 13, 14, 15, 16, 17, 18, 19, 20, 21, 22, 23, 24, 25].map (fun i => (wXo ct a o g x)[i]?) = (wX ct a x).map some := rfl
theorem wXo_R (ct : Nat → ClassId) (a : Nat → Nat) (o : Nat) (g : Nat → Int64) (x : Nat → Nat → Int32) : [26].map (fun i => (wXo ct a o g x)[i]?) = (qWr (wXo ct a o g x) [26]).map some := rfl
theorem wXo_2 (ct : Nat → ClassId) (a : Nat → Nat) (o : Nat) (g : Nat → Int64) (x x' : Nat → Nat → Int32) : [1, 2, 3, 4, 5, 6, 7, 8, 9, 10, 11, 12, 13, 14, 15, 16, 17, 18, 19, 20, 21, 22, 23, 24, 25, 26, 0].map (fun i => (qWr (wXo ct a o g x) [26] ++ wX ct a x')[i]?) = (wXo ct a o g x').map some := rfl
/-- the code of a helper: 0: returned, or the exception's place in its list, from 1 -/
def hcod (L : List String) : Option String → Int32
  | none => 0
  | some E => nI (L.idxOf E + 1)
/-- the world behind a helper -/
def wXh (ct : Nat → ClassId) (a : Nat → Nat) (o : Nat) (g : Nat → Int64) (x x' : Nat → Nat → Int32) (v : Int64) : Option String → va_W
  | none => wXo ct a o (vp_updL g 0 v) x'
  | some _ => wXo ct a o g x
section QCATCH
variable {p : Program} {l : Launch} {e : Env} {R : Room} {s : State} {m : MethodId} {args : Array Value} {below : List Frame} {meth : Method} {c : Code} {D : va_G} {ct : Nat → ClassId} {A : Nat → Prop} {nL cells slots : Nat} {Q : State → Prop}
variable {cc : ByteArray} {ret : Option FieldType} {Ts : List Cond} {own : String} {pc pc2 : Nat} {lv : List (Nat × Value)} {st : List Value} {ws : va_W}
theorem q_catch (C : Cx p s m args c meth cc nL ret Ts own D ct A) {hh : List (Nat × Nat × Nat × Nat)} (htab : c.exceptionTable.toList = tableOf hh) (k : Nat) {q : Nat × Nat × Nat × Nat} (hk : hh = hh.take k ++ q :: hh.drop (k + 1)) {E : String}
    (hpass : ∀ z ∈ hh.take k, z.2.2.2 ≠ 0 ∧ ∃ nm : String, Cond.classLink own z.2.2.2 nm ∈ Ts ∧ (E, nm) ∈ qNC) (hcov : covers ⟨q.1, q.2.1, q.2.2.1, q.2.2.2⟩ pc = true) (h0 : q.2.2.2 ≠ 0) (hlink : Cond.classLink own q.2.2.2 E ∈ Ts) (hca : E ∈ qCA) (hpc : q.2.2.1 = pc2)
    (kk : ∀ q9 : Nat, Cf p l e R s m args below meth c D A nL cells slots Q pc2 lv [.ref q9] ws) : CfX p l e R s m args below meth c D A nL cells slots Q pc lv st ws E := by
  subst hpc
  intro H locs ls ce q9 hP hD hS hl h1 h2 h3
  refine vx_catch (name := E) C.1.2.2.2.1 (tableOf (hh.take k)) ⟨q.1, q.2.1, q.2.2.1, q.2.2.2⟩ (tableOf (hh.drop (k + 1))) ?_ ?_ hcov h0 (C.w _ hlink) (va_Nw.use rfl (C.2.1.2.2.2.2.2.1 E hca)) h1 h2 h3 (kk q9 H locs ls hP hD hS hl)
  · rw [htab]
    show tableOf hh = _
    conv => lhs; rw [hk]
    show List.map _ _ = _
    rw [List.map_append]; rfl
  · intro z hz
    obtain ⟨w, hw, rfl⟩ := List.mem_map.mp hz
    obtain ⟨a1, nm, a2, a3⟩ := hpass w hw
    exact Or.inr ⟨a1, nm, C.w _ a2, C.2.1.2.2.2.2.1 _ a3⟩
end QCATCH
