/-! the law's loop -/
section QTAB
variable {p : Program} {l : Launch} {e : Env} {R : Room} {s : State} {m : MethodId} {args : Array Value} {below : List Frame} {meth : Method} {c : Code} {D : va_G} {ct : Nat → ClassId} {A : Nat → Prop} {nL cells slots : Nat} {Q : State → Prop}
variable {cc : ByteArray} {ret : Option FieldType} {Ts : List Cond} {own : String} {pc : Nat} {lv : List (Nat × Value)} {st : List Value} {ws : va_W}
theorem q_tabO (C : Cx p s m args c meth cc nL ret Ts own D ct A) {dflt lo hi : Int} {offs : Array Int} {len : Nat} {x : Int32} {tgt : Nat} (hdg : decode cc pc = .ok (.tableswitch dflt lo hi offs, len)) (h : x.toInt < lo ∨ hi < x.toInt) (ht : (pc : Int) + dflt = (tgt : Int))
    (kk : Cf p l e R s m args below meth c D A nL cells slots Q tgt lv st ws) : Cf p l e R s m args below meth c D A nL cells slots Q pc lv (.int x :: st) ws := by
  intro H locs ls hP hD hS hl
  exact lv_tableOut C.1.1 C.1.2.1 hdg h ht (kk H locs ls hP hD hS hl)
theorem q_tabI (C : Cx p s m args c meth cc nL ret Ts own D ct A) {dflt lo hi : Int} {offs : Array Int} {len : Nat} {x : Int32} {off : Int} {tgt : Nat} (j : Int) (hj : x.toInt = j) (hdg : decode cc pc = .ok (.tableswitch dflt lo hi offs, len)) (h1 : ¬ j < lo) (h2 : ¬ hi < j) (ho : offs[(j - lo).toNat]? = some off) (ht : (pc : Int) + off = (tgt : Int))
    (kk : Cf p l e R s m args below meth c D A nL cells slots Q tgt lv st ws) : Cf p l e R s m args below meth c D A nL cells slots Q pc lv (.int x :: st) ws := by
  subst hj
  intro H locs ls hP hD hS hl
  exact lv_tableIn C.1.1 C.1.2.1 hdg h1 h2 ho ht (kk H locs ls hP hD hS hl)
end QTAB
set_option maxHeartbeats 4000000 in
set_option maxRecDepth 100000 in
theorem lw_loop (l : Launch) (hl : l.stackTraces = false) {p : Program} {e : Env} {s : State} {m : MethodId} {args : Array Value} {below : List Frame} {meth : Method} {c : Code} {D : va_G} {ct : Nat → ClassId} {A : Nat → Prop} {Q : State → Prop} (C : Cx p s m args c meth cL_law 7 (some .boolean) wsL_law RL D ct A) {sb L : Nat} {xs : Nat → Int32} (hX : va_X sb L xs s s.heap) (hbl : sb < s.heap.size) (hbA : ¬ A sb) (hL : L ≤ 2048) {a b : Nat → Nat} {o : Nat}
    (kend : ∀ (cells slots : Nat) (lv : List (Nat × Value)) (ws : va_W), cells ≤ 1088 → slots ≤ 8873 → Cf p l e room_1 s m args below meth c D A 7 cells slots Q 1479 lv [] ws) : ∀ (k i : Nat) (g : Nat → Int64) (x y : Nat → Nat → Int32), L < 4 * (i + k) → 4 * i ≤ L → RE (50 * i) x y → Cf p l e room_1 s m args below meth c D A 7 (49 + i) (591 + 6 * i) Q 23 [(4, .int (nI (4 * i))), (3, .ref o), (2, .ref (b 30)), (1, .ref (a 30)), (0, .ref sb)] [] (wL ct a b o g x y) := by
  intro k
  induction k with
  | zero => intro i g x y h1 h2; omega
  | succ k ih =>
  intro i g x y h1 h2 hR
  have e4 : (4 : Int32).toInt = 4 := by decide
  have eL : (nI L).toInt = (L : Int) := nI_toInt (by omega)
  have ei : (nI (4 * i)).toInt = ((4 * i : Nat) : Int) := nI_toInt (by omega)
  have eL4 : (nI L - 4).toInt = (L : Int) - 4 := by rw [i_sub (by omega) (by omega), eL, e4]
  refine q_iload (pc2 := 25) C 0 dL_law_23 rfl rfl ?_
  refine q_aload_n (pc2 := 26) C 4 dL_law_25 rfl rfl rfl ?_
  refine q_slen (pc2 := 27) C hX hbl hbA dL_law_26 rfl ?_
  refine q_iconst (v := 4) (pc2 := 28) C dL_law_27 (by decide) rfl ?_
  refine q_isub (v := nI L - 4) (pc2 := 29) C dL_law_28 rfl rfl ?_
  refine q_icmp_gt (tgt := 1479) (pc2 := 32) C dL_law_29 (by decide) rfl (fun _ => kend _ _ _ _ (by omega) (by omega)) (fun h9 => ?_)
  have hi : 4 * i + 4 ≤ L := by
    rw [i_lt, eL4, ei] at h9
    omega
  have kk : ∀ (g' : Nat → Int64) (x' y' : Nat → Nat → Int32), RE (50 * i + 50) x' y' → Cf p l e room_1 s m args below meth c D A 7 (49 + i + 1) (591 + 6 * i + 6) Q 1473 [(4, .int (nI (4 * i))), (3, .ref o), (2, .ref (b 30)), (1, .ref (a 30)), (0, .ref sb)] [] (wL ct a b o g' x' y') := by
    intro g' x' y' hR'
    refine q_iinc (v := nI (4 * (i + 1))) (lv' := [(4, .int (nI (4 * (i + 1)))), (3, .ref o), (2, .ref (b 30)), (1, .ref (a 30)), (0, .ref sb)]) (pc2 := 1476) C 0 dL_law_1473 rfl (show nI (4 * i) + Int32.ofInt 4 = nI (4 * (i + 1)) by rw [show Int32.ofInt 4 = nI 4 from by decide]; exact nI_add (4 * i) 4) (by decide) rfl rfl ?_
    refine q_goto (pc2 := 23) C dL_law_1476 (by decide) ?_
    refine q_widen (c2 := 49 + (i + 1)) (s2 := 591 + 6 * (i + 1)) (by omega) (by omega) ?_
    exact ih (i + 1) g' x' y' (by omega) (by omega) (RE.mono (by omega) hR')
  have hN : 50 * i + 50 < 2 ^ 29 := by omega
  have hc : 49 + i + 1 ≤ 1088 := by omega
  have hs : 591 + 6 * i + 6 ≤ 8873 := by omega
  refine q_aload_n (pc2 := 33) C 4 dL_law_32 rfl rfl rfl ?_
  refine q_iload (pc2 := 35) C 0 dL_law_33 rfl rfl ?_
  refine q_sld (pc2 := 36) C hX hbl hbA (4 * i) rfl (by omega) (by omega) dL_law_35 rfl ?_
  refine q_bipush (v := 31) (pc2 := 38) C dL_law_36 (by decide) rfl ?_
  obtain ⟨j, hj, ej⟩ := pk_andE (xs (4 * i)) (m := 31) 5 (by decide)
  refine q_iand (v := nI j) (pc2 := 39) C dL_law_38 ej rfl ?_
  have ejI : (nI j).toInt = (j : Int) := nI_toInt (by omega)
  by_cases h22 : 22 < j
  · refine q_tabO (tgt := 1473) C dL_law_39 (Or.inr (by rw [ejI]; omega)) (by decide) ?_
    refine q_widen (Nat.le_add_right _ 1) (Nat.le_add_right _ 6) ?_
    exact kk g x y (RE.mono (by omega) hR)
  rcases (show j = 0 ∨ j = 1 ∨ j = 2 ∨ j = 3 ∨ j = 4 ∨ j = 5 ∨ j = 6 ∨ j = 7 ∨ j = 8 ∨ j = 9 ∨ j = 10 ∨ j = 11 ∨ j = 12 ∨ j = 13 ∨ j = 14 ∨ j = 15 ∨ j = 16 ∨ j = 17 ∨ j = 18 ∨ j = 19 ∨ j = 20 ∨ j = 21 ∨ j = 22 by omega) with rfl | rfl | rfl | rfl | rfl | rfl | rfl | rfl | rfl | rfl | rfl | rfl | rfl | rfl | rfl | rfl | rfl | rfl | rfl | rfl | rfl | rfl | rfl
  · exact q_tabI (tgt := 144) C 0 ejI dL_law_39 (by decide) (by decide) (off := 105) rfl (by decide) (lc_bar l hl C hX hbl hbA hL hN hR hi hc hs kk)
  · exact q_tabI (tgt := 224) C 1 ejI dL_law_39 (by decide) (by decide) (off := 185) rfl (by decide) (lc_lamp l hl C hX hbl hbA hL hN hR hi hc hs kk)
  · exact q_tabI (tgt := 292) C 2 ejI dL_law_39 (by decide) (by decide) (off := 253) rfl (by decide) (lc_hang l hl C hX hbl hbA hL hN hR hi hc hs kk)
  · exact q_tabI (tgt := 372) C 3 ejI dL_law_39 (by decide) (by decide) (off := 333) rfl (by decide) (lc_down l hl C hX hbl hbA hL hN hR hi hc hs kk)
  · exact q_tabI (tgt := 435) C 4 ejI dL_law_39 (by decide) (by decide) (off := 396) rfl (by decide) (lc_onBar l hl C hX hbl hbA hL hN hR hi hc hs kk)
  · exact q_tabI (tgt := 503) C 5 ejI dL_law_39 (by decide) (by decide) (off := 464) rfl (by decide) (lc_where l hl C hX hbl hbA hL hN hR hi hc hs kk)
  · exact q_tabI (tgt := 559) C 6 ejI dL_law_39 (by decide) (by decide) (off := 520) rfl (by decide) (lc_tour l C hR hc hs kk)
  · exact q_tabI (tgt := 572) C 7 ejI dL_law_39 (by decide) (by decide) (off := 533) rfl (by decide) (lc_patch l hl C hX hbl hbA hL hN hR hi hc hs kk)
  · exact q_tabI (tgt := 640) C 8 ejI dL_law_39 (by decide) (by decide) (off := 601) rfl (by decide) (lc_gap l hl C hX hbl hbA hL hN hR hi hc hs kk)
  · exact q_tabI (tgt := 696) C 9 ejI dL_law_39 (by decide) (by decide) (off := 657) rfl (by decide) (lc_plug l hl C hX hbl hbA hL hN hR hi hc hs kk)
  · exact q_tabI (tgt := 764) C 10 ejI dL_law_39 (by decide) (by decide) (off := 725) rfl (by decide) (lc_load l hl C hX hbl hbA hL hN hR hi hc hs kk)
  · exact q_tabI (tgt := 820) C 11 ejI dL_law_39 (by decide) (by decide) (off := 781) rfl (by decide) (lc_cue l hl C hX hbl hbA hL hN hR hi hc hs kk)
  · exact q_tabI (tgt := 900) C 12 ejI dL_law_39 (by decide) (by decide) (off := 861) rfl (by decide) (lc_name l hl C hX hbl hbA hL hN hR hi hc hs kk)
  · exact q_tabI (tgt := 980) C 13 ejI dL_law_39 (by decide) (by decide) (off := 941) rfl (by decide) (lc_go l hl C hX hbl hbA hL hN hR hi hc hs kk)
  · exact q_tabI (tgt := 1024) C 14 ejI dL_law_39 (by decide) (by decide) (off := 985) rfl (by decide) (lc_tick l hl C hX hbl hbA hL hN hR hi hc hs kk)
  · exact q_tabI (tgt := 1080) C 15 ejI dL_law_39 (by decide) (by decide) (off := 1041) rfl (by decide) (lc_rewind l C hR hc hs kk)
  · exact q_tabI (tgt := 1093) C 16 ejI dL_law_39 (by decide) (by decide) (off := 1054) rfl (by decide) (lc_level l hl C hX hbl hbA hL hN hR hi hc hs kk)
  · exact q_tabI (tgt := 1149) C 17 ejI dL_law_39 (by decide) (by decide) (off := 1110) rfl (by decide) (lc_wanted l hl C hX hbl hbA hL hN hR hi hc hs kk)
  · exact q_tabI (tgt := 1205) C 18 ejI dL_law_39 (by decide) (by decide) (off := 1166) rfl (by decide) (lc_wantedByCues l hl C hX hbl hbA hL hN hR hi hc hs kk)
  · exact q_tabI (tgt := 1261) C 19 ejI dL_law_39 (by decide) (by decide) (off := 1222) rfl (by decide) (lc_bulb l hl C hX hbl hbA hL hN hR hi hc hs kk)
  · exact q_tabI (tgt := 1324) C 20 ejI dL_law_39 (by decide) (by decide) (off := 1285) rfl (by decide) (lc_standIn l hl C hX hbl hbA hL hN hR hi hc hs kk)
  · exact q_tabI (tgt := 1392) C 21 ejI dL_law_39 (by decide) (by decide) (off := 1353) rfl (by decide) (lc_colour l hl C hX hbl hbA hL hN hR hi hc hs kk)
  · exact q_tabI (tgt := 1460) C 22 ejI dL_law_39 (by decide) (by decide) (off := 1421) rfl (by decide) (lc_burnt l C hR hc hs kk)
