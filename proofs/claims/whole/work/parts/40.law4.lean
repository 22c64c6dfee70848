/-! rows of the law's own walk: the script, and the comparing of longs -/
section QLAW
variable {p : Program} {l : Launch} {e : Env} {R : Room} {s : State} {m : MethodId} {args : Array Value} {below : List Frame} {meth : Method} {c : Code} {D : va_G} {ct : Nat → ClassId} {A : Nat → Prop} {nL cells slots : Nat} {Q : State → Prop}
variable {cc : ByteArray} {ret : Option FieldType} {Ts : List Cond} {own : String} {pc pc2 : Nat} {lv lv' : List (Nat × Value)} {st : List Value} {ws : va_W}
theorem q_sld (C : Cx p s m args c meth cc nL ret Ts own D ct A) {sb L : Nat} {xs : Nat → Int32} (hX : va_X sb L xs s s.heap) (hbl : sb < s.heap.size) (hbA : ¬ A sb) (j : Nat) {i : Int32} (hi : i = nI j) (hj : j < L) (hL : L < 2 ^ 31) (hdg : decode cc pc = .ok (.iaload, 1)) (hpc : pc + 1 = pc2)
    (kk : Cf p l e R s m args below meth c D A nL cells slots Q pc2 lv (.int (xs j) :: st) ws) : Cf p l e R s m args below meth c D A nL cells slots Q pc lv (.int i :: .ref sb :: st) ws := by
  subst hpc; subst hi
  intro H locs ls hP hD hS hl
  exact va_sld C.1.1 C.1.2.1 hX hbl hbA hS (vp_in_nI hj hL) hdg (by rw [nI_clamp (Nat.lt_trans hj hL)]; exact kk H locs ls hP hD hS hl)
theorem q_slen (C : Cx p s m args c meth cc nL ret Ts own D ct A) {sb L : Nat} {xs : Nat → Int32} (hX : va_X sb L xs s s.heap) (hbl : sb < s.heap.size) (hbA : ¬ A sb) (hdg : decode cc pc = .ok (.arraylength, 1)) (hpc : pc + 1 = pc2)
    (kk : Cf p l e R s m args below meth c D A nL cells slots Q pc2 lv (.int (nI L) :: st) ws) : Cf p l e R s m args below meth c D A nL cells slots Q pc lv (.ref sb :: st) ws := by
  subst hpc
  intro H locs ls hP hD hS hl
  exact va_slen C.1.1 C.1.2.1 hX hbl hbA hS hdg (kk H locs ls hP hD hS hl)
theorem q_lcmp_eq (C : Cx p s m args c meth cc nL ret Ts own D ct A) {u v : Int64} (huv : u = v) (hdg : decode cc pc = .ok (.lcmp, 1)) (hpc : pc + 1 = pc2)
    (kk : Cf p l e R s m args below meth c D A nL cells slots Q pc2 lv (.int 0 :: st) ws) : Cf p l e R s m args below meth c D A nL cells slots Q pc lv (.long v :: .long u :: st) ws := by
  subst hpc; subst huv
  intro H locs ls hP hD hS hl
  refine W.lcmp C.1.1 C.1.2.1 hdg ?_
  rw [show lg_cmp u u = 0 by unfold lg_cmp; rw [if_neg (Int64.lt_irrefl)]; simp]
  exact kk H locs ls hP hD hS hl
end QLAW
