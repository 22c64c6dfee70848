/-! the packed walk: rows of the law's own instructions -/
section QROWS2
variable {p : Program} {l : Launch} {e : Env} {R : Room} {s : State} {m : MethodId} {args : Array Value} {below : List Frame} {meth : Method} {c : Code} {D : va_G} {ct : Nat → ClassId} {A : Nat → Prop} {nL cells slots : Nat} {Q : State → Prop}
variable {cc : ByteArray} {ret : Option FieldType} {Ts : List Cond} {own : String} {pc pc2 : Nat} {lv lv' : List (Nat × Value)} {st : List Value} {ws : va_W}
theorem q_irem (C : Cx p s m args c meth cc nL ret Ts own D ct A) {x y v : Int32} (hdg : decode cc pc = .ok (.irem, 1)) (hne : ¬ y = 0) (hv : x - x / y * y = v) (hpc : pc + 1 = pc2) (k : Cf p l e R s m args below meth c D A nL cells slots Q pc2 lv (.int v :: st) ws) : Cf p l e R s m args below meth c D A nL cells slots Q pc lv (.int y :: .int x :: st) ws := by
  subst hpc
  intro H locs ls hP hD hS hl
  exact lv_irem C.1.1 C.1.2.1 hdg hne (by rw [hv]; exact k H locs ls hP hD hS hl)
theorem q_ishr (C : Cx p s m args c meth cc nL ret Ts own D ct A) {x y v : Int32} (hdg : decode cc pc = .ok (.ishr, 1)) (hv : x >>> (y &&& 31) = v) (hpc : pc + 1 = pc2) (k : Cf p l e R s m args below meth c D A nL cells slots Q pc2 lv (.int v :: st) ws) : Cf p l e R s m args below meth c D A nL cells slots Q pc lv (.int y :: .int x :: st) ws := by
  subst hpc
  intro H locs ls hP hD hS hl
  exact lv_ishr C.1.1 C.1.2.1 hdg (by rw [hv]; exact k H locs ls hP hD hS hl)
theorem q_iushr (C : Cx p s m args c meth cc nL ret Ts own D ct A) {x y v : Int32} (hdg : decode cc pc = .ok (.iushr, 1)) (hv : (x.toUInt32 >>> (y.toUInt32 &&& Int32.toUInt32 31)).toInt32 = v) (hpc : pc + 1 = pc2) (k : Cf p l e R s m args below meth c D A nL cells slots Q pc2 lv (.int v :: st) ws) : Cf p l e R s m args below meth c D A nL cells slots Q pc lv (.int y :: .int x :: st) ws := by
  subst hpc
  intro H locs ls hP hD hS hl
  exact lv_iushr C.1.1 C.1.2.1 hdg hv (k H locs ls hP hD hS hl)
theorem q_ldc2 (C : Cx p s m args c meth cc nL ret Ts own D ct A) {index : Nat} {v : Int64} (hc : (Jvm.Cond.constantLong own index v).before args s = true) (hdg : decode cc pc = .ok (.ldc2_w index, 3)) (hpc : pc + 3 = pc2) (k : Cf p l e R s m args below meth c D A nL cells slots Q pc2 lv (.long v :: st) ws) : Cf p l e R s m args below meth c D A nL cells slots Q pc lv st ws := by
  subst hpc
  intro H locs ls hP hD hS hl
  exact lv_ldc2 C.1.1 C.1.2.1 C.1.2.2.2.1 hc hdg (k H locs ls hP hD hS hl)
theorem q_lmul (C : Cx p s m args c meth cc nL ret Ts own D ct A) {x y v : Int64} (hdg : decode cc pc = .ok (.lmul, 1)) (hv : x * y = v) (hpc : pc + 1 = pc2) (k : Cf p l e R s m args below meth c D A nL cells slots Q pc2 lv (.long v :: st) ws) : Cf p l e R s m args below meth c D A nL cells slots Q pc lv (.long y :: .long x :: st) ws := by
  subst hpc
  intro H locs ls hP hD hS hl
  exact lv_lmul C.1.1 C.1.2.1 hdg (by rw [hv]; exact k H locs ls hP hD hS hl)
theorem q_lushr (C : Cx p s m args c meth cc nL ret Ts own D ct A) {x v : Int64} {y : Int32} (hdg : decode cc pc = .ok (.lushr, 1)) (hv : (x.toUInt64 >>> (y.toInt64.toUInt64 &&& Int64.toUInt64 63)).toInt64 = v) (hpc : pc + 1 = pc2) (k : Cf p l e R s m args below meth c D A nL cells slots Q pc2 lv (.long v :: st) ws) : Cf p l e R s m args below meth c D A nL cells slots Q pc lv (.int y :: .long x :: st) ws := by
  subst hpc
  intro H locs ls hP hD hS hl
  exact lv_lushr C.1.1 C.1.2.1 hdg hv (k H locs ls hP hD hS hl)
theorem q_l2i (C : Cx p s m args c meth cc nL ret Ts own D ct A) {x : Int64} {v : Int32} (hdg : decode cc pc = .ok (.l2i, 1)) (hv : x.toInt32 = v) (hpc : pc + 1 = pc2) (k : Cf p l e R s m args below meth c D A nL cells slots Q pc2 lv (.int v :: st) ws) : Cf p l e R s m args below meth c D A nL cells slots Q pc lv (.long x :: st) ws := by
  subst hpc
  intro H locs ls hP hD hS hl
  exact lv_l2i C.1.1 C.1.2.1 hdg hv (k H locs ls hP hD hS hl)
end QROWS2
