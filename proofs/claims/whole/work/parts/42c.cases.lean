/-! the law's cases -/
set_option maxHeartbeats 4000000 in
set_option maxRecDepth 100000 in
theorem lc_plug (l : Launch) (hl : l.stackTraces = false) {p : Program} {e : Env} {s : State} {m : MethodId} {args : Array Value} {below : List Frame} {meth : Method} {c : Code} {D : va_G} {ct : Nat → ClassId} {A : Nat → Prop} {Q : State → Prop} (C : Cx p s m args c meth cL_law 7 (some .boolean) wsL_law RL D ct A) {sb L : Nat} {xs : Nat → Int32} (hX : va_X sb L xs s s.heap) (hbl : sb < s.heap.size) (hbA : ¬ A sb) (hL : L ≤ 2048) {a b : Nat → Nat} {o : Nat} {g : Nat → Int64} {x y : Nat → Nat → Int32} {N : Nat} (hN : N + 50 < 2 ^ 29) (hR : RE N x y) {i : Nat} (hi : 4 * i + 4 ≤ L) {cells slots : Nat} (hc : cells + 1 ≤ 1088) (hs : slots + 6 ≤ 8873)
    (kk : ∀ (g' : Nat → Int64) (x' y' : Nat → Nat → Int32), RE (N + 50) x' y' → Cf p l e room_1 s m args below meth c D A 7 (cells + 1) (slots + 6) Q 1473 [(4, .int (nI (4 * i))), (3, .ref o), (2, .ref (b 30)), (1, .ref (a 30)), (0, .ref sb)] [] (wL ct a b o g' x' y')) : Cf p l e room_1 s m args below meth c D A 7 cells slots Q 696 [(4, .int (nI (4 * i))), (3, .ref o), (2, .ref (b 30)), (1, .ref (a 30)), (0, .ref sb)] [] (wL ct a b o g x y) := by
  obtain ⟨n, h, q, bb, t, ht, r⟩ := hR
  have S := st_plug hN r ht (xs (4 * i + 1)) (xs (4 * i + 2))
  obtain ⟨hn10, hlt, hq8, hbq, hn, hnM, hh, hhM, hq, hqM, hb, hbM, hti, hTM, e1, e2, e3, e5, e6, e7, e11, e17, e18, e19, e20, hbars, hlen, hkind, hlow, hhigh, hfst, hplc, hnam, hcur, hrul, hbeg⟩ := id r
  have hc0 : cells ≤ 1088 := Nat.le_trans (Nat.le_succ cells) hc
  have hs0 : slots ≤ 8873 := Nat.le_trans (Nat.le_add_right slots 6) hs
  have hfd := fdk r
  have hok : ∀ k, k < 10 → wOk y k := fun k hk => TM_ok hTM (by omega) k hk
  have hBM : ∀ s, s < 2 → 0 ≤ y 1 s := fun s hs => by obtain ⟨k, hk, e⟩ := hbars s hs; rw [e]; exact nI_pos' (by omega)
  have hB : ∀ s, s < 2 → 0 ≤ x 5 s := fun s hs => by rw [e5]; exact hBM s hs
  obtain ⟨kb, hkb4, hkb⟩ := hbars h hlt
  have hkbX : x 5 h = nI kb := by rw [e5]; exact hkb
  have M := c_L_plug l D ct a o g x (set2 x 14 (upd (x 14) (xs (4 * i + 1)).toNatClampNeg (xs (4 * i + 2)))) (xs (4 * i + 1)) (xs (4 * i + 2)) (if (0 ≤ (xs (4 * i + 1)) ∧ (xs (4 * i + 1)) < x 0 0) then (if ((xs (4 * i + 2)) = -1 ∨ (0 ≤ (xs (4 * i + 2)) ∧ (xs (4 * i + 2)) < 4)) then none else some eI) else some eI) (StOk.mem S) (x 14 (xs (4 * i + 1)).toNatClampNeg) (c_X3_plug l hl D ct a x n hn hn10 (xs (4 * i + 1)) (xs (4 * i + 2)))
  have MM := c_X4_plug l D ct b y n hnM hn10 (xs (4 * i + 1)) (xs (4 * i + 2))
  rcases S with ⟨hoc, hT, hr, hA, hRE⟩ | ⟨E, hE, hoc, hT, h0, hB9, hRE⟩
  · skip
    rw [hoc] at M
    rw [if_pos hT, if_pos hT] at MM
    refine q_aload_n (pc2 := 697) C 3 dL_law_696 rfl rfl rfl ?_
    refine q_aload_n (pc2 := 698) C 4 dL_law_697 rfl rfl rfl ?_
    refine q_iload (pc2 := 700) C 0 dL_law_698 rfl rfl ?_
    refine q_iconst (v := 1) (pc2 := 701) C dL_law_700 (by decide) rfl ?_
    refine q_iadd (v := nI (4 * i + 1)) (pc2 := 702) C dL_law_701 (nI_add (4 * i) 1) rfl ?_
    refine q_sld (pc2 := 703) C hX hbl hbA (4 * i + 1) rfl (by omega) (by omega) dL_law_702 rfl ?_
    refine q_aload_n (pc2 := 704) C 4 dL_law_703 rfl rfl rfl ?_
    refine q_iload (pc2 := 706) C 0 dL_law_704 rfl rfl ?_
    refine q_iconst (v := 2) (pc2 := 707) C dL_law_706 (by decide) rfl ?_
    refine q_iadd (v := nI (4 * i + 2)) (pc2 := 708) C dL_law_707 (nI_add (4 * i) 2) rfl ?_
    refine q_sld (pc2 := 709) C hX hbl hbA (4 * i + 2) rfl (by omega) (by omega) dL_law_708 rfl ?_
    refine q_aload_n (pc2 := 710) C 1 dL_law_709 rfl rfl rfl ?_
    refine q_LH (pc2 := 713) (As := [.ref (a 30), .int (xs (4 * i + 1)), .int (xs (4 * i + 2)), .ref o]) (st := []) (st2 := [.int 0]) (g' := vp_updL g 0 ((x 14 (xs (4 * i + 1)).toNatClampNeg).toInt64)) (x' := set2 x 14 (upd (x 14) (xs (4 * i + 1)).toNatClampNeg (xs (4 * i + 2)))) (c2 := cells) (s2 := slots) C M (vx_cwSW 4 C.w gL_law_L_plug rfl rfl rfl (by decide +kernel) ⟨Nat.le_of_ble_eq_true rfl, Nat.le_of_ble_eq_true rfl⟩) dL_law_710 rfl rfl (Nat.le_of_ble_eq_true rfl) ⟨hc0, hs0⟩ rfl rfl rfl rfl ?_
    refine q_istore (lv' := [(5, .int 0), (4, .int (nI (4 * i))), (3, .ref o), (2, .ref (b 30)), (1, .ref (a 30)), (0, .ref sb)]) (pc2 := 715) C dL_law_713 (by decide) rfl rfl ?_
    refine q_aload_n (pc2 := 716) C 3 dL_law_715 rfl rfl rfl ?_
    refine q_aload_n (pc2 := 717) C 5 dL_law_716 rfl rfl rfl ?_
    refine q_iload (pc2 := 719) C 1 dL_law_717 rfl rfl ?_
    refine q_iconst (v := 1) (pc2 := 720) C dL_law_719 (by decide) rfl ?_
    refine q_iadd (v := nI (4 * i + 1)) (pc2 := 721) C dL_law_720 (nI_add (4 * i) 1) rfl ?_
    refine q_sld (pc2 := 722) C hX hbl hbA (4 * i + 1) rfl (by omega) (by omega) dL_law_721 rfl ?_
    refine q_aload_n (pc2 := 723) C 5 dL_law_722 rfl rfl rfl ?_
    refine q_iload (pc2 := 725) C 1 dL_law_723 rfl rfl ?_
    refine q_iconst (v := 2) (pc2 := 726) C dL_law_725 (by decide) rfl ?_
    refine q_iadd (v := nI (4 * i + 2)) (pc2 := 727) C dL_law_726 (nI_add (4 * i) 2) rfl ?_
    refine q_sld (pc2 := 728) C hX hbl hbA (4 * i + 2) rfl (by omega) (by omega) dL_law_727 rfl ?_
    refine q_LM (pc2 := 731) (As := [.int (xs (4 * i + 1)), .int (xs (4 * i + 2))]) (st := []) (st2 := [.int (y 10 (xs (4 * i + 1)).toNatClampNeg)]) (y' := set2 (set2 y 27 (fun _ => T1 (inR (xs (4 * i + 1)) 0 (y 4 0 - 1) ∧ inR (xs (4 * i + 2)) (-1) 3))) 10 (upd (y 10) (xs (4 * i + 1)).toNatClampNeg (xs (4 * i + 2)))) C MM (cwV 2 C.w gL_law_X4_plug rfl rfl rfl (by decide +kernel) ⟨Nat.le_of_ble_eq_true rfl, Nat.le_of_ble_eq_true rfl⟩) dL_law_728 rfl rfl (Nat.le_of_ble_eq_true rfl) ⟨hc0, hs0⟩ rfl rfl ?_
    refine q_istore (lv' := [(6, .int (y 10 (xs (4 * i + 1)).toNatClampNeg)), (5, .int 0), (4, .int (nI (4 * i))), (3, .ref o), (2, .ref (b 30)), (1, .ref (a 30)), (0, .ref sb)]) (pc2 := 733) C dL_law_731 (by decide) rfl rfl ?_
    refine q_aload_n (pc2 := 734) C 4 dL_law_733 rfl rfl rfl ?_
    refine q_LM (pc2 := 737) (As := []) (st := []) (st2 := [.int ((set2 (set2 y 27 (fun _ => T1 (inR (xs (4 * i + 1)) 0 (y 4 0 - 1) ∧ inR (xs (4 * i + 2)) (-1) 3))) 10 (upd (y 10) (xs (4 * i + 1)).toNatClampNeg (xs (4 * i + 2)))) 27 0)]) (y' := set2 (set2 y 27 (fun _ => T1 (inR (xs (4 * i + 1)) 0 (y 4 0 - 1) ∧ inR (xs (4 * i + 2)) (-1) 3))) 10 (upd (y 10) (xs (4 * i + 1)).toNatClampNeg (xs (4 * i + 2)))) C (c_X4_thrown l D ct b (set2 (set2 y 27 (fun _ => T1 (inR (xs (4 * i + 1)) 0 (y 4 0 - 1) ∧ inR (xs (4 * i + 2)) (-1) 3))) 10 (upd (y 10) (xs (4 * i + 1)).toNatClampNeg (xs (4 * i + 2))))) (cwV 0 C.w gL_law_X4_thrown rfl rfl rfl (by decide +kernel) ⟨Nat.le_of_ble_eq_true rfl, Nat.le_of_ble_eq_true rfl⟩) dL_law_734 rfl rfl (Nat.le_of_ble_eq_true rfl) ⟨hc0, hs0⟩ rfl rfl ?_
    refine q_iload (pc2 := 739) C 1 dL_law_737 rfl rfl ?_
    refine q_icmp_eq (tgt := 744) (pc2 := 742) C dL_law_739 (by decide) rfl (fun _ => ?_) (fun h9 => absurd (hA.trans hT) h9)
    refine q_iload (pc2 := 746) C 1 dL_law_744 rfl rfl ?_
    refine q_if_ne (tgt := 761) (pc2 := 749) C dL_law_746 (by decide) rfl (fun h9 => absurd rfl h9) (fun _ => ?_)
    refine q_aload_n (pc2 := 750) C 3 dL_law_749 rfl rfl rfl ?_
    refine q_iconst (v := 0) (pc2 := 751) C dL_law_750 (by decide) rfl ?_
    refine q_lald (pc2 := 752) C 0 (wL_g48 ct a b o (vp_updL g 0 ((x 14 (xs (4 * i + 1)).toNatClampNeg).toInt64)) (set2 x 14 (upd (x 14) (xs (4 * i + 1)).toNatClampNeg (xs (4 * i + 2)))) (set2 (set2 y 27 (fun _ => T1 (inR (xs (4 * i + 1)) 0 (y 4 0 - 1) ∧ inR (xs (4 * i + 2)) (-1) 3))) 10 (upd (y 10) (xs (4 * i + 1)).toNatClampNeg (xs (4 * i + 2))))) rfl rfl (by decide) (by decide) dL_law_751 rfl ?_
    refine q_iload (pc2 := 754) C 0 dL_law_752 rfl rfl ?_
    refine q_i2l (pc2 := 755) C dL_law_754 rfl rfl ?_
    refine q_lcmp_eq (pc2 := 756) C ((if_pos rfl).trans (congrArg Int32.toInt64 hr)) dL_law_755 rfl ?_
    refine q_if_eq (tgt := 761) (pc2 := 759) C dL_law_756 (by decide) rfl (fun _ => ?_) (fun h9 => absurd rfl h9)
    refine q_goto (pc2 := 1473) C dL_law_761 (by decide) ?_
    refine q_widen (Nat.le_add_right cells 1) (Nat.le_add_right slots 6) ?_
    refine q_lv (lv' := [(4, .int (nI (4 * i))), (3, .ref o), (2, .ref (b 30)), (1, .ref (a 30)), (0, .ref sb)]) [2, 3, 4, 5, 6] rfl ?_
    exact kk _ _ _ (RE.mono (by omega) hRE)
  · skip
    rw [hoc] at M
    rw [if_neg h0, if_neg h0] at MM
    refine q_aload_n (pc2 := 697) C 3 dL_law_696 rfl rfl rfl ?_
    refine q_aload_n (pc2 := 698) C 4 dL_law_697 rfl rfl rfl ?_
    refine q_iload (pc2 := 700) C 0 dL_law_698 rfl rfl ?_
    refine q_iconst (v := 1) (pc2 := 701) C dL_law_700 (by decide) rfl ?_
    refine q_iadd (v := nI (4 * i + 1)) (pc2 := 702) C dL_law_701 (nI_add (4 * i) 1) rfl ?_
    refine q_sld (pc2 := 703) C hX hbl hbA (4 * i + 1) rfl (by omega) (by omega) dL_law_702 rfl ?_
    refine q_aload_n (pc2 := 704) C 4 dL_law_703 rfl rfl rfl ?_
    refine q_iload (pc2 := 706) C 0 dL_law_704 rfl rfl ?_
    refine q_iconst (v := 2) (pc2 := 707) C dL_law_706 (by decide) rfl ?_
    refine q_iadd (v := nI (4 * i + 2)) (pc2 := 708) C dL_law_707 (nI_add (4 * i) 2) rfl ?_
    refine q_sld (pc2 := 709) C hX hbl hbA (4 * i + 2) rfl (by omega) (by omega) dL_law_708 rfl ?_
    refine q_aload_n (pc2 := 710) C 1 dL_law_709 rfl rfl rfl ?_
    refine q_LH (pc2 := 713) (As := [.ref (a 30), .int (xs (4 * i + 1)), .int (xs (4 * i + 2)), .ref o]) (st := []) (st2 := [.int (hcod [eI] (some E))]) (g' := g) (x' := x) (c2 := (cells + 1)) (s2 := (slots + 6)) C M (vx_cwSW 4 C.w gL_law_L_plug rfl rfl rfl (by decide +kernel) ⟨Nat.le_of_ble_eq_true rfl, Nat.le_of_ble_eq_true rfl⟩) dL_law_710 rfl rfl (Nat.le_of_ble_eq_true rfl) ⟨hc, hs⟩ rfl rfl rfl rfl ?_
    refine q_istore (lv' := [(5, .int (hcod [eI] (some E))), (4, .int (nI (4 * i))), (3, .ref o), (2, .ref (b 30)), (1, .ref (a 30)), (0, .ref sb)]) (pc2 := 715) C dL_law_713 (by decide) rfl rfl ?_
    refine q_aload_n (pc2 := 716) C 3 dL_law_715 rfl rfl rfl ?_
    refine q_aload_n (pc2 := 717) C 5 dL_law_716 rfl rfl rfl ?_
    refine q_iload (pc2 := 719) C 1 dL_law_717 rfl rfl ?_
    refine q_iconst (v := 1) (pc2 := 720) C dL_law_719 (by decide) rfl ?_
    refine q_iadd (v := nI (4 * i + 1)) (pc2 := 721) C dL_law_720 (nI_add (4 * i) 1) rfl ?_
    refine q_sld (pc2 := 722) C hX hbl hbA (4 * i + 1) rfl (by omega) (by omega) dL_law_721 rfl ?_
    refine q_aload_n (pc2 := 723) C 5 dL_law_722 rfl rfl rfl ?_
    refine q_iload (pc2 := 725) C 1 dL_law_723 rfl rfl ?_
    refine q_iconst (v := 2) (pc2 := 726) C dL_law_725 (by decide) rfl ?_
    refine q_iadd (v := nI (4 * i + 2)) (pc2 := 727) C dL_law_726 (nI_add (4 * i) 2) rfl ?_
    refine q_sld (pc2 := 728) C hX hbl hbA (4 * i + 2) rfl (by omega) (by omega) dL_law_727 rfl ?_
    refine q_LM (pc2 := 731) (As := [.int (xs (4 * i + 1)), .int (xs (4 * i + 2))]) (st := []) (st2 := [.int 0]) (y' := set2 y 27 (fun _ => T1 (inR (xs (4 * i + 1)) 0 (y 4 0 - 1) ∧ inR (xs (4 * i + 2)) (-1) 3))) C MM (cwV 2 C.w gL_law_X4_plug rfl rfl rfl (by decide +kernel) ⟨Nat.le_of_ble_eq_true rfl, Nat.le_of_ble_eq_true rfl⟩) dL_law_728 rfl rfl (Nat.le_of_ble_eq_true rfl) ⟨hc, hs⟩ rfl rfl ?_
    refine q_istore (lv' := [(6, .int 0), (5, .int (hcod [eI] (some E))), (4, .int (nI (4 * i))), (3, .ref o), (2, .ref (b 30)), (1, .ref (a 30)), (0, .ref sb)]) (pc2 := 733) C dL_law_731 (by decide) rfl rfl ?_
    refine q_aload_n (pc2 := 734) C 4 dL_law_733 rfl rfl rfl ?_
    refine q_LM (pc2 := 737) (As := []) (st := []) (st2 := [.int ((set2 y 27 (fun _ => T1 (inR (xs (4 * i + 1)) 0 (y 4 0 - 1) ∧ inR (xs (4 * i + 2)) (-1) 3))) 27 0)]) (y' := set2 y 27 (fun _ => T1 (inR (xs (4 * i + 1)) 0 (y 4 0 - 1) ∧ inR (xs (4 * i + 2)) (-1) 3))) C (c_X4_thrown l D ct b (set2 y 27 (fun _ => T1 (inR (xs (4 * i + 1)) 0 (y 4 0 - 1) ∧ inR (xs (4 * i + 2)) (-1) 3)))) (cwV 0 C.w gL_law_X4_thrown rfl rfl rfl (by decide +kernel) ⟨Nat.le_of_ble_eq_true rfl, Nat.le_of_ble_eq_true rfl⟩) dL_law_734 rfl rfl (Nat.le_of_ble_eq_true rfl) ⟨hc, hs⟩ rfl rfl ?_
    refine q_iload (pc2 := 739) C 1 dL_law_737 rfl rfl ?_
    refine q_icmp_eq (tgt := 744) (pc2 := 742) C dL_law_739 (by decide) rfl (fun _ => ?_) (fun h9 => absurd (hB9.trans hT) h9)
    refine q_iload (pc2 := 746) C 1 dL_law_744 rfl rfl ?_
    refine q_if_ne (tgt := 761) (pc2 := 749) C dL_law_746 (by decide) rfl (fun _ => ?_) (fun h9 => absurd (hT.trans h9) h0)
    refine q_goto (pc2 := 1473) C dL_law_761 (by decide) ?_
    refine q_lv (lv' := [(4, .int (nI (4 * i))), (3, .ref o), (2, .ref (b 30)), (1, .ref (a 30)), (0, .ref sb)]) [2, 3, 4, 5, 6] rfl ?_
    exact kk g x _ (RE.mono (by omega) hRE)

set_option maxHeartbeats 4000000 in
set_option maxRecDepth 100000 in
theorem lc_patch (l : Launch) (hl : l.stackTraces = false) {p : Program} {e : Env} {s : State} {m : MethodId} {args : Array Value} {below : List Frame} {meth : Method} {c : Code} {D : va_G} {ct : Nat → ClassId} {A : Nat → Prop} {Q : State → Prop} (C : Cx p s m args c meth cL_law 7 (some .boolean) wsL_law RL D ct A) {sb L : Nat} {xs : Nat → Int32} (hX : va_X sb L xs s s.heap) (hbl : sb < s.heap.size) (hbA : ¬ A sb) (hL : L ≤ 2048) {a b : Nat → Nat} {o : Nat} {g : Nat → Int64} {x y : Nat → Nat → Int32} {N : Nat} (hN : N + 50 < 2 ^ 29) (hR : RE N x y) {i : Nat} (hi : 4 * i + 4 ≤ L) {cells slots : Nat} (hc : cells + 1 ≤ 1088) (hs : slots + 6 ≤ 8873)
    (kk : ∀ (g' : Nat → Int64) (x' y' : Nat → Nat → Int32), RE (N + 50) x' y' → Cf p l e room_1 s m args below meth c D A 7 (cells + 1) (slots + 6) Q 1473 [(4, .int (nI (4 * i))), (3, .ref o), (2, .ref (b 30)), (1, .ref (a 30)), (0, .ref sb)] [] (wL ct a b o g' x' y')) : Cf p l e room_1 s m args below meth c D A 7 cells slots Q 572 [(4, .int (nI (4 * i))), (3, .ref o), (2, .ref (b 30)), (1, .ref (a 30)), (0, .ref sb)] [] (wL ct a b o g x y) := by
  obtain ⟨n, h, q, bb, t, ht, r⟩ := hR
  have S := st_patch hN r ht (xs (4 * i + 1)) (xs (4 * i + 2))
  obtain ⟨hn10, hlt, hq8, hbq, hn, hnM, hh, hhM, hq, hqM, hb, hbM, hti, hTM, e1, e2, e3, e5, e6, e7, e11, e17, e18, e19, e20, hbars, hlen, hkind, hlow, hhigh, hfst, hplc, hnam, hcur, hrul, hbeg⟩ := id r
  have hc0 : cells ≤ 1088 := Nat.le_trans (Nat.le_succ cells) hc
  have hs0 : slots ≤ 8873 := Nat.le_trans (Nat.le_add_right slots 6) hs
  have hfd := fdk r
  have hok : ∀ k, k < 10 → wOk y k := fun k hk => TM_ok hTM (by omega) k hk
  have hBM : ∀ s, s < 2 → 0 ≤ y 1 s := fun s hs => by obtain ⟨k, hk, e⟩ := hbars s hs; rw [e]; exact nI_pos' (by omega)
  have hB : ∀ s, s < 2 → 0 ≤ x 5 s := fun s hs => by rw [e5]; exact hBM s hs
  obtain ⟨kb, hkb4, hkb⟩ := hbars h hlt
  have hkbX : x 5 h = nI kb := by rw [e5]; exact hkb
  have M := c_L_patch l D ct a o g x (set2 x 12 (upd (x 12) (xs (4 * i + 1)).toNatClampNeg (xs (4 * i + 2)))) (xs (4 * i + 1)) (xs (4 * i + 2)) (if (0 ≤ (xs (4 * i + 1)) ∧ (xs (4 * i + 1)) < x 0 0) then (if (-1 ≤ (xs (4 * i + 2)) ∧ (xs (4 * i + 2)) ≤ 100 - x 13 (xs (4 * i + 1)).toNatClampNeg) then none else some eA) else some eI) (StOk.mem S) (dbl (fun k => cntH (set2 x 12 (upd (x 12) (xs (4 * i + 1)).toNatClampNeg (xs (4 * i + 2)))) (nI k))) (c_X3_patch l hl D ct a x n hn hn10 (xs (4 * i + 1)) (xs (4 * i + 2)))
  have MM := c_X4_patch l D ct b y n hnM hn10 (xs (4 * i + 1)) (xs (4 * i + 2))
  rcases S with ⟨hoc, hT, hr, hA, hRE⟩ | ⟨E, hE, hoc, hT, h0, hB9, hRE⟩
  · skip
    rw [hoc] at M
    rw [if_pos hT, if_pos hT] at MM
    refine q_aload_n (pc2 := 573) C 3 dL_law_572 rfl rfl rfl ?_
    refine q_aload_n (pc2 := 574) C 4 dL_law_573 rfl rfl rfl ?_
    refine q_iload (pc2 := 576) C 0 dL_law_574 rfl rfl ?_
    refine q_iconst (v := 1) (pc2 := 577) C dL_law_576 (by decide) rfl ?_
    refine q_iadd (v := nI (4 * i + 1)) (pc2 := 578) C dL_law_577 (nI_add (4 * i) 1) rfl ?_
    refine q_sld (pc2 := 579) C hX hbl hbA (4 * i + 1) rfl (by omega) (by omega) dL_law_578 rfl ?_
    refine q_aload_n (pc2 := 580) C 4 dL_law_579 rfl rfl rfl ?_
    refine q_iload (pc2 := 582) C 0 dL_law_580 rfl rfl ?_
    refine q_iconst (v := 2) (pc2 := 583) C dL_law_582 (by decide) rfl ?_
    refine q_iadd (v := nI (4 * i + 2)) (pc2 := 584) C dL_law_583 (nI_add (4 * i) 2) rfl ?_
    refine q_sld (pc2 := 585) C hX hbl hbA (4 * i + 2) rfl (by omega) (by omega) dL_law_584 rfl ?_
    refine q_aload_n (pc2 := 586) C 1 dL_law_585 rfl rfl rfl ?_
    refine q_LH (pc2 := 589) (As := [.ref (a 30), .int (xs (4 * i + 1)), .int (xs (4 * i + 2)), .ref o]) (st := []) (st2 := [.int 0]) (g' := vp_updL g 0 ((dbl (fun k => cntH (set2 x 12 (upd (x 12) (xs (4 * i + 1)).toNatClampNeg (xs (4 * i + 2)))) (nI k))).toInt64)) (x' := set2 x 12 (upd (x 12) (xs (4 * i + 1)).toNatClampNeg (xs (4 * i + 2)))) (c2 := cells) (s2 := slots) C M (vx_cwSW 4 C.w gL_law_L_patch rfl rfl rfl (by decide +kernel) ⟨Nat.le_of_ble_eq_true rfl, Nat.le_of_ble_eq_true rfl⟩) dL_law_586 rfl rfl (Nat.le_of_ble_eq_true rfl) ⟨hc0, hs0⟩ rfl rfl rfl rfl ?_
    refine q_istore (lv' := [(5, .int 0), (4, .int (nI (4 * i))), (3, .ref o), (2, .ref (b 30)), (1, .ref (a 30)), (0, .ref sb)]) (pc2 := 591) C dL_law_589 (by decide) rfl rfl ?_
    refine q_aload_n (pc2 := 592) C 3 dL_law_591 rfl rfl rfl ?_
    refine q_aload_n (pc2 := 593) C 5 dL_law_592 rfl rfl rfl ?_
    refine q_iload (pc2 := 595) C 1 dL_law_593 rfl rfl ?_
    refine q_iconst (v := 1) (pc2 := 596) C dL_law_595 (by decide) rfl ?_
    refine q_iadd (v := nI (4 * i + 1)) (pc2 := 597) C dL_law_596 (nI_add (4 * i) 1) rfl ?_
    refine q_sld (pc2 := 598) C hX hbl hbA (4 * i + 1) rfl (by omega) (by omega) dL_law_597 rfl ?_
    refine q_aload_n (pc2 := 599) C 5 dL_law_598 rfl rfl rfl ?_
    refine q_iload (pc2 := 601) C 1 dL_law_599 rfl rfl ?_
    refine q_iconst (v := 2) (pc2 := 602) C dL_law_601 (by decide) rfl ?_
    refine q_iadd (v := nI (4 * i + 2)) (pc2 := 603) C dL_law_602 (nI_add (4 * i) 2) rfl ?_
    refine q_sld (pc2 := 604) C hX hbl hbA (4 * i + 2) rfl (by omega) (by omega) dL_law_603 rfl ?_
    refine q_LM (pc2 := 607) (As := [.int (xs (4 * i + 1)), .int (xs (4 * i + 2))]) (st := []) (st2 := [.int (dbl (fun k => atM (set2 (set2 y 27 (fun _ => T2 (inR (xs (4 * i + 1)) 0 (y 4 0 - 1)) (inR (xs (4 * i + 1)) 0 (y 4 0 - 1) ∧ inR (xs (4 * i + 2)) (-1) (100 - hasA (y 5 (xs (4 * i + 1)).toNatClampNeg))))) 9 (upd (y 9) (xs (4 * i + 1)).toNatClampNeg (xs (4 * i + 2)))) n (nI k)))]) (y' := set2 (set2 y 27 (fun _ => T2 (inR (xs (4 * i + 1)) 0 (y 4 0 - 1)) (inR (xs (4 * i + 1)) 0 (y 4 0 - 1) ∧ inR (xs (4 * i + 2)) (-1) (100 - hasA (y 5 (xs (4 * i + 1)).toNatClampNeg))))) 9 (upd (y 9) (xs (4 * i + 1)).toNatClampNeg (xs (4 * i + 2)))) C MM (cwV 2 C.w gL_law_X4_patch rfl rfl rfl (by decide +kernel) ⟨Nat.le_of_ble_eq_true rfl, Nat.le_of_ble_eq_true rfl⟩) dL_law_604 rfl rfl (Nat.le_of_ble_eq_true rfl) ⟨hc0, hs0⟩ rfl rfl ?_
    refine q_istore (lv' := [(6, .int (dbl (fun k => atM (set2 (set2 y 27 (fun _ => T2 (inR (xs (4 * i + 1)) 0 (y 4 0 - 1)) (inR (xs (4 * i + 1)) 0 (y 4 0 - 1) ∧ inR (xs (4 * i + 2)) (-1) (100 - hasA (y 5 (xs (4 * i + 1)).toNatClampNeg))))) 9 (upd (y 9) (xs (4 * i + 1)).toNatClampNeg (xs (4 * i + 2)))) n (nI k)))), (5, .int 0), (4, .int (nI (4 * i))), (3, .ref o), (2, .ref (b 30)), (1, .ref (a 30)), (0, .ref sb)]) (pc2 := 609) C dL_law_607 (by decide) rfl rfl ?_
    refine q_aload_n (pc2 := 610) C 4 dL_law_609 rfl rfl rfl ?_
    refine q_LM (pc2 := 613) (As := []) (st := []) (st2 := [.int ((set2 (set2 y 27 (fun _ => T2 (inR (xs (4 * i + 1)) 0 (y 4 0 - 1)) (inR (xs (4 * i + 1)) 0 (y 4 0 - 1) ∧ inR (xs (4 * i + 2)) (-1) (100 - hasA (y 5 (xs (4 * i + 1)).toNatClampNeg))))) 9 (upd (y 9) (xs (4 * i + 1)).toNatClampNeg (xs (4 * i + 2)))) 27 0)]) (y' := set2 (set2 y 27 (fun _ => T2 (inR (xs (4 * i + 1)) 0 (y 4 0 - 1)) (inR (xs (4 * i + 1)) 0 (y 4 0 - 1) ∧ inR (xs (4 * i + 2)) (-1) (100 - hasA (y 5 (xs (4 * i + 1)).toNatClampNeg))))) 9 (upd (y 9) (xs (4 * i + 1)).toNatClampNeg (xs (4 * i + 2)))) C (c_X4_thrown l D ct b (set2 (set2 y 27 (fun _ => T2 (inR (xs (4 * i + 1)) 0 (y 4 0 - 1)) (inR (xs (4 * i + 1)) 0 (y 4 0 - 1) ∧ inR (xs (4 * i + 2)) (-1) (100 - hasA (y 5 (xs (4 * i + 1)).toNatClampNeg))))) 9 (upd (y 9) (xs (4 * i + 1)).toNatClampNeg (xs (4 * i + 2))))) (cwV 0 C.w gL_law_X4_thrown rfl rfl rfl (by decide +kernel) ⟨Nat.le_of_ble_eq_true rfl, Nat.le_of_ble_eq_true rfl⟩) dL_law_610 rfl rfl (Nat.le_of_ble_eq_true rfl) ⟨hc0, hs0⟩ rfl rfl ?_
    refine q_iload (pc2 := 615) C 1 dL_law_613 rfl rfl ?_
    refine q_icmp_eq (tgt := 620) (pc2 := 618) C dL_law_615 (by decide) rfl (fun _ => ?_) (fun h9 => absurd (hA.trans hT) h9)
    refine q_iload (pc2 := 622) C 1 dL_law_620 rfl rfl ?_
    refine q_if_ne (tgt := 637) (pc2 := 625) C dL_law_622 (by decide) rfl (fun h9 => absurd rfl h9) (fun _ => ?_)
    refine q_aload_n (pc2 := 626) C 3 dL_law_625 rfl rfl rfl ?_
    refine q_iconst (v := 0) (pc2 := 627) C dL_law_626 (by decide) rfl ?_
    refine q_lald (pc2 := 628) C 0 (wL_g48 ct a b o (vp_updL g 0 ((dbl (fun k => cntH (set2 x 12 (upd (x 12) (xs (4 * i + 1)).toNatClampNeg (xs (4 * i + 2)))) (nI k))).toInt64)) (set2 x 12 (upd (x 12) (xs (4 * i + 1)).toNatClampNeg (xs (4 * i + 2)))) (set2 (set2 y 27 (fun _ => T2 (inR (xs (4 * i + 1)) 0 (y 4 0 - 1)) (inR (xs (4 * i + 1)) 0 (y 4 0 - 1) ∧ inR (xs (4 * i + 2)) (-1) (100 - hasA (y 5 (xs (4 * i + 1)).toNatClampNeg))))) 9 (upd (y 9) (xs (4 * i + 1)).toNatClampNeg (xs (4 * i + 2))))) rfl rfl (by decide) (by decide) dL_law_627 rfl ?_
    refine q_iload (pc2 := 630) C 0 dL_law_628 rfl rfl ?_
    refine q_i2l (pc2 := 631) C dL_law_630 rfl rfl ?_
    refine q_lcmp_eq (pc2 := 632) C ((if_pos rfl).trans (congrArg Int32.toInt64 hr)) dL_law_631 rfl ?_
    refine q_if_eq (tgt := 637) (pc2 := 635) C dL_law_632 (by decide) rfl (fun _ => ?_) (fun h9 => absurd rfl h9)
    refine q_goto (pc2 := 1473) C dL_law_637 (by decide) ?_
    refine q_widen (Nat.le_add_right cells 1) (Nat.le_add_right slots 6) ?_
    refine q_lv (lv' := [(4, .int (nI (4 * i))), (3, .ref o), (2, .ref (b 30)), (1, .ref (a 30)), (0, .ref sb)]) [2, 3, 4, 5, 6] rfl ?_
    exact kk _ _ _ (RE.mono (by omega) hRE)
  · skip
    rw [hoc] at M
    rw [if_neg h0, if_neg h0] at MM
    refine q_aload_n (pc2 := 573) C 3 dL_law_572 rfl rfl rfl ?_
    refine q_aload_n (pc2 := 574) C 4 dL_law_573 rfl rfl rfl ?_
    refine q_iload (pc2 := 576) C 0 dL_law_574 rfl rfl ?_
    refine q_iconst (v := 1) (pc2 := 577) C dL_law_576 (by decide) rfl ?_
    refine q_iadd (v := nI (4 * i + 1)) (pc2 := 578) C dL_law_577 (nI_add (4 * i) 1) rfl ?_
    refine q_sld (pc2 := 579) C hX hbl hbA (4 * i + 1) rfl (by omega) (by omega) dL_law_578 rfl ?_
    refine q_aload_n (pc2 := 580) C 4 dL_law_579 rfl rfl rfl ?_
    refine q_iload (pc2 := 582) C 0 dL_law_580 rfl rfl ?_
    refine q_iconst (v := 2) (pc2 := 583) C dL_law_582 (by decide) rfl ?_
    refine q_iadd (v := nI (4 * i + 2)) (pc2 := 584) C dL_law_583 (nI_add (4 * i) 2) rfl ?_
    refine q_sld (pc2 := 585) C hX hbl hbA (4 * i + 2) rfl (by omega) (by omega) dL_law_584 rfl ?_
    refine q_aload_n (pc2 := 586) C 1 dL_law_585 rfl rfl rfl ?_
    refine q_LH (pc2 := 589) (As := [.ref (a 30), .int (xs (4 * i + 1)), .int (xs (4 * i + 2)), .ref o]) (st := []) (st2 := [.int (hcod [eI, eA] (some E))]) (g' := g) (x' := x) (c2 := (cells + 1)) (s2 := (slots + 6)) C M (vx_cwSW 4 C.w gL_law_L_patch rfl rfl rfl (by decide +kernel) ⟨Nat.le_of_ble_eq_true rfl, Nat.le_of_ble_eq_true rfl⟩) dL_law_586 rfl rfl (Nat.le_of_ble_eq_true rfl) ⟨hc, hs⟩ rfl rfl rfl rfl ?_
    refine q_istore (lv' := [(5, .int (hcod [eI, eA] (some E))), (4, .int (nI (4 * i))), (3, .ref o), (2, .ref (b 30)), (1, .ref (a 30)), (0, .ref sb)]) (pc2 := 591) C dL_law_589 (by decide) rfl rfl ?_
    refine q_aload_n (pc2 := 592) C 3 dL_law_591 rfl rfl rfl ?_
    refine q_aload_n (pc2 := 593) C 5 dL_law_592 rfl rfl rfl ?_
    refine q_iload (pc2 := 595) C 1 dL_law_593 rfl rfl ?_
    refine q_iconst (v := 1) (pc2 := 596) C dL_law_595 (by decide) rfl ?_
    refine q_iadd (v := nI (4 * i + 1)) (pc2 := 597) C dL_law_596 (nI_add (4 * i) 1) rfl ?_
    refine q_sld (pc2 := 598) C hX hbl hbA (4 * i + 1) rfl (by omega) (by omega) dL_law_597 rfl ?_
    refine q_aload_n (pc2 := 599) C 5 dL_law_598 rfl rfl rfl ?_
    refine q_iload (pc2 := 601) C 1 dL_law_599 rfl rfl ?_
    refine q_iconst (v := 2) (pc2 := 602) C dL_law_601 (by decide) rfl ?_
    refine q_iadd (v := nI (4 * i + 2)) (pc2 := 603) C dL_law_602 (nI_add (4 * i) 2) rfl ?_
    refine q_sld (pc2 := 604) C hX hbl hbA (4 * i + 2) rfl (by omega) (by omega) dL_law_603 rfl ?_
    refine q_LM (pc2 := 607) (As := [.int (xs (4 * i + 1)), .int (xs (4 * i + 2))]) (st := []) (st2 := [.int 0]) (y' := set2 y 27 (fun _ => T2 (inR (xs (4 * i + 1)) 0 (y 4 0 - 1)) (inR (xs (4 * i + 1)) 0 (y 4 0 - 1) ∧ inR (xs (4 * i + 2)) (-1) (100 - hasA (y 5 (xs (4 * i + 1)).toNatClampNeg))))) C MM (cwV 2 C.w gL_law_X4_patch rfl rfl rfl (by decide +kernel) ⟨Nat.le_of_ble_eq_true rfl, Nat.le_of_ble_eq_true rfl⟩) dL_law_604 rfl rfl (Nat.le_of_ble_eq_true rfl) ⟨hc, hs⟩ rfl rfl ?_
    refine q_istore (lv' := [(6, .int 0), (5, .int (hcod [eI, eA] (some E))), (4, .int (nI (4 * i))), (3, .ref o), (2, .ref (b 30)), (1, .ref (a 30)), (0, .ref sb)]) (pc2 := 609) C dL_law_607 (by decide) rfl rfl ?_
    refine q_aload_n (pc2 := 610) C 4 dL_law_609 rfl rfl rfl ?_
    refine q_LM (pc2 := 613) (As := []) (st := []) (st2 := [.int ((set2 y 27 (fun _ => T2 (inR (xs (4 * i + 1)) 0 (y 4 0 - 1)) (inR (xs (4 * i + 1)) 0 (y 4 0 - 1) ∧ inR (xs (4 * i + 2)) (-1) (100 - hasA (y 5 (xs (4 * i + 1)).toNatClampNeg))))) 27 0)]) (y' := set2 y 27 (fun _ => T2 (inR (xs (4 * i + 1)) 0 (y 4 0 - 1)) (inR (xs (4 * i + 1)) 0 (y 4 0 - 1) ∧ inR (xs (4 * i + 2)) (-1) (100 - hasA (y 5 (xs (4 * i + 1)).toNatClampNeg))))) C (c_X4_thrown l D ct b (set2 y 27 (fun _ => T2 (inR (xs (4 * i + 1)) 0 (y 4 0 - 1)) (inR (xs (4 * i + 1)) 0 (y 4 0 - 1) ∧ inR (xs (4 * i + 2)) (-1) (100 - hasA (y 5 (xs (4 * i + 1)).toNatClampNeg)))))) (cwV 0 C.w gL_law_X4_thrown rfl rfl rfl (by decide +kernel) ⟨Nat.le_of_ble_eq_true rfl, Nat.le_of_ble_eq_true rfl⟩) dL_law_610 rfl rfl (Nat.le_of_ble_eq_true rfl) ⟨hc, hs⟩ rfl rfl ?_
    refine q_iload (pc2 := 615) C 1 dL_law_613 rfl rfl ?_
    refine q_icmp_eq (tgt := 620) (pc2 := 618) C dL_law_615 (by decide) rfl (fun _ => ?_) (fun h9 => absurd (hB9.trans hT) h9)
    refine q_iload (pc2 := 622) C 1 dL_law_620 rfl rfl ?_
    refine q_if_ne (tgt := 637) (pc2 := 625) C dL_law_622 (by decide) rfl (fun _ => ?_) (fun h9 => absurd (hT.trans h9) h0)
    refine q_goto (pc2 := 1473) C dL_law_637 (by decide) ?_
    refine q_lv (lv' := [(4, .int (nI (4 * i))), (3, .ref o), (2, .ref (b 30)), (1, .ref (a 30)), (0, .ref sb)]) [2, 3, 4, 5, 6] rfl ?_
    exact kk g x _ (RE.mono (by omega) hRE)

set_option maxHeartbeats 4000000 in
set_option maxRecDepth 100000 in
theorem lc_colour (l : Launch) (hl : l.stackTraces = false) {p : Program} {e : Env} {s : State} {m : MethodId} {args : Array Value} {below : List Frame} {meth : Method} {c : Code} {D : va_G} {ct : Nat → ClassId} {A : Nat → Prop} {Q : State → Prop} (C : Cx p s m args c meth cL_law 7 (some .boolean) wsL_law RL D ct A) {sb L : Nat} {xs : Nat → Int32} (hX : va_X sb L xs s s.heap) (hbl : sb < s.heap.size) (hbA : ¬ A sb) (hL : L ≤ 2048) {a b : Nat → Nat} {o : Nat} {g : Nat → Int64} {x y : Nat → Nat → Int32} {N : Nat} (hN : N + 50 < 2 ^ 29) (hR : RE N x y) {i : Nat} (hi : 4 * i + 4 ≤ L) {cells slots : Nat} (hc : cells + 1 ≤ 1088) (hs : slots + 6 ≤ 8873)
    (kk : ∀ (g' : Nat → Int64) (x' y' : Nat → Nat → Int32), RE (N + 50) x' y' → Cf p l e room_1 s m args below meth c D A 7 (cells + 1) (slots + 6) Q 1473 [(4, .int (nI (4 * i))), (3, .ref o), (2, .ref (b 30)), (1, .ref (a 30)), (0, .ref sb)] [] (wL ct a b o g' x' y')) : Cf p l e room_1 s m args below meth c D A 7 cells slots Q 1392 [(4, .int (nI (4 * i))), (3, .ref o), (2, .ref (b 30)), (1, .ref (a 30)), (0, .ref sb)] [] (wL ct a b o g x y) := by
  obtain ⟨n, h, q, bb, t, ht, r⟩ := hR
  have S := st_colour hN r ht (xs (4 * i + 1)) (xs (4 * i + 2))
  obtain ⟨hn10, hlt, hq8, hbq, hn, hnM, hh, hhM, hq, hqM, hb, hbM, hti, hTM, e1, e2, e3, e5, e6, e7, e11, e17, e18, e19, e20, hbars, hlen, hkind, hlow, hhigh, hfst, hplc, hnam, hcur, hrul, hbeg⟩ := id r
  have hc0 : cells ≤ 1088 := Nat.le_trans (Nat.le_succ cells) hc
  have hs0 : slots ≤ 8873 := Nat.le_trans (Nat.le_add_right slots 6) hs
  have hfd := fdk r
  have hok : ∀ k, k < 10 → wOk y k := fun k hk => TM_ok hTM (by omega) k hk
  have hBM : ∀ s, s < 2 → 0 ≤ y 1 s := fun s hs => by obtain ⟨k, hk, e⟩ := hbars s hs; rw [e]; exact nI_pos' (by omega)
  have hB : ∀ s, s < 2 → 0 ≤ x 5 s := fun s hs => by rw [e5]; exact hBM s hs
  obtain ⟨kb, hkb4, hkb⟩ := hbars h hlt
  have hkbX : x 5 h = nI kb := by rw [e5]; exact hkb
  have M := c_L_colour l D ct a o g x (set2 (set2 x 1 (upd (x 1) (xs (4 * i + 1)).toNatClampNeg (xs (4 * i + 2)))) 2 (upd (x 2) (xs (4 * i + 1)).toNatClampNeg 0)) (xs (4 * i + 1)) (xs (4 * i + 2)) (if (0 ≤ (xs (4 * i + 1)) ∧ (xs (4 * i + 1)) < x 0 0) then (if (0 ≤ (xs (4 * i + 2)) ∧ (xs (4 * i + 2)) ≤ 20) then none else some eA) else some eI) (StOk.mem S) (x 1 (xs (4 * i + 1)).toNatClampNeg) (c_X3_colour l hl D ct a x n hn hn10 (xs (4 * i + 1)) (xs (4 * i + 2)))
  have MM := c_X4_colour l D ct b y n hnM hn10 (xs (4 * i + 1)) (xs (4 * i + 2))
  rcases S with ⟨hoc, hT, hr, hA, hRE⟩ | ⟨E, hE, hoc, hT, h0, hB9, hRE⟩
  · skip
    rw [hoc] at M
    rw [if_pos hT, if_pos hT] at MM
    refine q_aload_n (pc2 := 1393) C 3 dL_law_1392 rfl rfl rfl ?_
    refine q_aload_n (pc2 := 1394) C 4 dL_law_1393 rfl rfl rfl ?_
    refine q_iload (pc2 := 1396) C 0 dL_law_1394 rfl rfl ?_
    refine q_iconst (v := 1) (pc2 := 1397) C dL_law_1396 (by decide) rfl ?_
    refine q_iadd (v := nI (4 * i + 1)) (pc2 := 1398) C dL_law_1397 (nI_add (4 * i) 1) rfl ?_
    refine q_sld (pc2 := 1399) C hX hbl hbA (4 * i + 1) rfl (by omega) (by omega) dL_law_1398 rfl ?_
    refine q_aload_n (pc2 := 1400) C 4 dL_law_1399 rfl rfl rfl ?_
    refine q_iload (pc2 := 1402) C 0 dL_law_1400 rfl rfl ?_
    refine q_iconst (v := 2) (pc2 := 1403) C dL_law_1402 (by decide) rfl ?_
    refine q_iadd (v := nI (4 * i + 2)) (pc2 := 1404) C dL_law_1403 (nI_add (4 * i) 2) rfl ?_
    refine q_sld (pc2 := 1405) C hX hbl hbA (4 * i + 2) rfl (by omega) (by omega) dL_law_1404 rfl ?_
    refine q_aload_n (pc2 := 1406) C 1 dL_law_1405 rfl rfl rfl ?_
    refine q_LH (pc2 := 1409) (As := [.ref (a 30), .int (xs (4 * i + 1)), .int (xs (4 * i + 2)), .ref o]) (st := []) (st2 := [.int 0]) (g' := vp_updL g 0 ((x 1 (xs (4 * i + 1)).toNatClampNeg).toInt64)) (x' := set2 (set2 x 1 (upd (x 1) (xs (4 * i + 1)).toNatClampNeg (xs (4 * i + 2)))) 2 (upd (x 2) (xs (4 * i + 1)).toNatClampNeg 0)) (c2 := cells) (s2 := slots) C M (vx_cwSW 4 C.w gL_law_L_colour rfl rfl rfl (by decide +kernel) ⟨Nat.le_of_ble_eq_true rfl, Nat.le_of_ble_eq_true rfl⟩) dL_law_1406 rfl rfl (Nat.le_of_ble_eq_true rfl) ⟨hc0, hs0⟩ rfl rfl rfl rfl ?_
    refine q_istore (lv' := [(5, .int 0), (4, .int (nI (4 * i))), (3, .ref o), (2, .ref (b 30)), (1, .ref (a 30)), (0, .ref sb)]) (pc2 := 1411) C dL_law_1409 (by decide) rfl rfl ?_
    refine q_aload_n (pc2 := 1412) C 3 dL_law_1411 rfl rfl rfl ?_
    refine q_aload_n (pc2 := 1413) C 5 dL_law_1412 rfl rfl rfl ?_
    refine q_iload (pc2 := 1415) C 1 dL_law_1413 rfl rfl ?_
    refine q_iconst (v := 1) (pc2 := 1416) C dL_law_1415 (by decide) rfl ?_
    refine q_iadd (v := nI (4 * i + 1)) (pc2 := 1417) C dL_law_1416 (nI_add (4 * i) 1) rfl ?_
    refine q_sld (pc2 := 1418) C hX hbl hbA (4 * i + 1) rfl (by omega) (by omega) dL_law_1417 rfl ?_
    refine q_aload_n (pc2 := 1419) C 5 dL_law_1418 rfl rfl rfl ?_
    refine q_iload (pc2 := 1421) C 1 dL_law_1419 rfl rfl ?_
    refine q_iconst (v := 2) (pc2 := 1422) C dL_law_1421 (by decide) rfl ?_
    refine q_iadd (v := nI (4 * i + 2)) (pc2 := 1423) C dL_law_1422 (nI_add (4 * i) 2) rfl ?_
    refine q_sld (pc2 := 1424) C hX hbl hbA (4 * i + 2) rfl (by omega) (by omega) dL_law_1423 rfl ?_
    refine q_LM (pc2 := 1427) (As := [.int (xs (4 * i + 1)), .int (xs (4 * i + 2))]) (st := []) (st2 := [.int (y 6 (xs (4 * i + 1)).toNatClampNeg)]) (y' := set2 (set2 (set2 y 27 (fun _ => T2 (inR (xs (4 * i + 1)) 0 (y 4 0 - 1)) (inR (xs (4 * i + 2)) 0 20))) 6 (upd (y 6) (xs (4 * i + 1)).toNatClampNeg (xs (4 * i + 2)))) 12 (upd (y 12) (xs (4 * i + 1)).toNatClampNeg 0)) C MM (cwV 2 C.w gL_law_X4_colour rfl rfl rfl (by decide +kernel) ⟨Nat.le_of_ble_eq_true rfl, Nat.le_of_ble_eq_true rfl⟩) dL_law_1424 rfl rfl (Nat.le_of_ble_eq_true rfl) ⟨hc0, hs0⟩ rfl rfl ?_
    refine q_istore (lv' := [(6, .int (y 6 (xs (4 * i + 1)).toNatClampNeg)), (5, .int 0), (4, .int (nI (4 * i))), (3, .ref o), (2, .ref (b 30)), (1, .ref (a 30)), (0, .ref sb)]) (pc2 := 1429) C dL_law_1427 (by decide) rfl rfl ?_
    refine q_aload_n (pc2 := 1430) C 4 dL_law_1429 rfl rfl rfl ?_
    refine q_LM (pc2 := 1433) (As := []) (st := []) (st2 := [.int ((set2 (set2 (set2 y 27 (fun _ => T2 (inR (xs (4 * i + 1)) 0 (y 4 0 - 1)) (inR (xs (4 * i + 2)) 0 20))) 6 (upd (y 6) (xs (4 * i + 1)).toNatClampNeg (xs (4 * i + 2)))) 12 (upd (y 12) (xs (4 * i + 1)).toNatClampNeg 0)) 27 0)]) (y' := set2 (set2 (set2 y 27 (fun _ => T2 (inR (xs (4 * i + 1)) 0 (y 4 0 - 1)) (inR (xs (4 * i + 2)) 0 20))) 6 (upd (y 6) (xs (4 * i + 1)).toNatClampNeg (xs (4 * i + 2)))) 12 (upd (y 12) (xs (4 * i + 1)).toNatClampNeg 0)) C (c_X4_thrown l D ct b (set2 (set2 (set2 y 27 (fun _ => T2 (inR (xs (4 * i + 1)) 0 (y 4 0 - 1)) (inR (xs (4 * i + 2)) 0 20))) 6 (upd (y 6) (xs (4 * i + 1)).toNatClampNeg (xs (4 * i + 2)))) 12 (upd (y 12) (xs (4 * i + 1)).toNatClampNeg 0))) (cwV 0 C.w gL_law_X4_thrown rfl rfl rfl (by decide +kernel) ⟨Nat.le_of_ble_eq_true rfl, Nat.le_of_ble_eq_true rfl⟩) dL_law_1430 rfl rfl (Nat.le_of_ble_eq_true rfl) ⟨hc0, hs0⟩ rfl rfl ?_
    refine q_iload (pc2 := 1435) C 1 dL_law_1433 rfl rfl ?_
    refine q_icmp_eq (tgt := 1440) (pc2 := 1438) C dL_law_1435 (by decide) rfl (fun _ => ?_) (fun h9 => absurd (hA.trans hT) h9)
    refine q_iload (pc2 := 1442) C 1 dL_law_1440 rfl rfl ?_
    refine q_if_ne (tgt := 1457) (pc2 := 1445) C dL_law_1442 (by decide) rfl (fun h9 => absurd rfl h9) (fun _ => ?_)
    refine q_aload_n (pc2 := 1446) C 3 dL_law_1445 rfl rfl rfl ?_
    refine q_iconst (v := 0) (pc2 := 1447) C dL_law_1446 (by decide) rfl ?_
    refine q_lald (pc2 := 1448) C 0 (wL_g48 ct a b o (vp_updL g 0 ((x 1 (xs (4 * i + 1)).toNatClampNeg).toInt64)) (set2 (set2 x 1 (upd (x 1) (xs (4 * i + 1)).toNatClampNeg (xs (4 * i + 2)))) 2 (upd (x 2) (xs (4 * i + 1)).toNatClampNeg 0)) (set2 (set2 (set2 y 27 (fun _ => T2 (inR (xs (4 * i + 1)) 0 (y 4 0 - 1)) (inR (xs (4 * i + 2)) 0 20))) 6 (upd (y 6) (xs (4 * i + 1)).toNatClampNeg (xs (4 * i + 2)))) 12 (upd (y 12) (xs (4 * i + 1)).toNatClampNeg 0))) rfl rfl (by decide) (by decide) dL_law_1447 rfl ?_
    refine q_iload (pc2 := 1450) C 0 dL_law_1448 rfl rfl ?_
    refine q_i2l (pc2 := 1451) C dL_law_1450 rfl rfl ?_
    refine q_lcmp_eq (pc2 := 1452) C ((if_pos rfl).trans (congrArg Int32.toInt64 hr)) dL_law_1451 rfl ?_
    refine q_if_eq (tgt := 1457) (pc2 := 1455) C dL_law_1452 (by decide) rfl (fun _ => ?_) (fun h9 => absurd rfl h9)
    refine q_goto (pc2 := 1473) C dL_law_1457 (by decide) ?_
    refine q_widen (Nat.le_add_right cells 1) (Nat.le_add_right slots 6) ?_
    refine q_lv (lv' := [(4, .int (nI (4 * i))), (3, .ref o), (2, .ref (b 30)), (1, .ref (a 30)), (0, .ref sb)]) [2, 3, 4, 5, 6] rfl ?_
    exact kk _ _ _ (RE.mono (by omega) hRE)
  · skip
    rw [hoc] at M
    rw [if_neg h0, if_neg h0] at MM
    refine q_aload_n (pc2 := 1393) C 3 dL_law_1392 rfl rfl rfl ?_
    refine q_aload_n (pc2 := 1394) C 4 dL_law_1393 rfl rfl rfl ?_
    refine q_iload (pc2 := 1396) C 0 dL_law_1394 rfl rfl ?_
    refine q_iconst (v := 1) (pc2 := 1397) C dL_law_1396 (by decide) rfl ?_
    refine q_iadd (v := nI (4 * i + 1)) (pc2 := 1398) C dL_law_1397 (nI_add (4 * i) 1) rfl ?_
    refine q_sld (pc2 := 1399) C hX hbl hbA (4 * i + 1) rfl (by omega) (by omega) dL_law_1398 rfl ?_
    refine q_aload_n (pc2 := 1400) C 4 dL_law_1399 rfl rfl rfl ?_
    refine q_iload (pc2 := 1402) C 0 dL_law_1400 rfl rfl ?_
    refine q_iconst (v := 2) (pc2 := 1403) C dL_law_1402 (by decide) rfl ?_
    refine q_iadd (v := nI (4 * i + 2)) (pc2 := 1404) C dL_law_1403 (nI_add (4 * i) 2) rfl ?_
    refine q_sld (pc2 := 1405) C hX hbl hbA (4 * i + 2) rfl (by omega) (by omega) dL_law_1404 rfl ?_
    refine q_aload_n (pc2 := 1406) C 1 dL_law_1405 rfl rfl rfl ?_
    refine q_LH (pc2 := 1409) (As := [.ref (a 30), .int (xs (4 * i + 1)), .int (xs (4 * i + 2)), .ref o]) (st := []) (st2 := [.int (hcod [eI, eA] (some E))]) (g' := g) (x' := x) (c2 := (cells + 1)) (s2 := (slots + 6)) C M (vx_cwSW 4 C.w gL_law_L_colour rfl rfl rfl (by decide +kernel) ⟨Nat.le_of_ble_eq_true rfl, Nat.le_of_ble_eq_true rfl⟩) dL_law_1406 rfl rfl (Nat.le_of_ble_eq_true rfl) ⟨hc, hs⟩ rfl rfl rfl rfl ?_
    refine q_istore (lv' := [(5, .int (hcod [eI, eA] (some E))), (4, .int (nI (4 * i))), (3, .ref o), (2, .ref (b 30)), (1, .ref (a 30)), (0, .ref sb)]) (pc2 := 1411) C dL_law_1409 (by decide) rfl rfl ?_
    refine q_aload_n (pc2 := 1412) C 3 dL_law_1411 rfl rfl rfl ?_
    refine q_aload_n (pc2 := 1413) C 5 dL_law_1412 rfl rfl rfl ?_
    refine q_iload (pc2 := 1415) C 1 dL_law_1413 rfl rfl ?_
    refine q_iconst (v := 1) (pc2 := 1416) C dL_law_1415 (by decide) rfl ?_
    refine q_iadd (v := nI (4 * i + 1)) (pc2 := 1417) C dL_law_1416 (nI_add (4 * i) 1) rfl ?_
    refine q_sld (pc2 := 1418) C hX hbl hbA (4 * i + 1) rfl (by omega) (by omega) dL_law_1417 rfl ?_
    refine q_aload_n (pc2 := 1419) C 5 dL_law_1418 rfl rfl rfl ?_
    refine q_iload (pc2 := 1421) C 1 dL_law_1419 rfl rfl ?_
    refine q_iconst (v := 2) (pc2 := 1422) C dL_law_1421 (by decide) rfl ?_
    refine q_iadd (v := nI (4 * i + 2)) (pc2 := 1423) C dL_law_1422 (nI_add (4 * i) 2) rfl ?_
    refine q_sld (pc2 := 1424) C hX hbl hbA (4 * i + 2) rfl (by omega) (by omega) dL_law_1423 rfl ?_
    refine q_LM (pc2 := 1427) (As := [.int (xs (4 * i + 1)), .int (xs (4 * i + 2))]) (st := []) (st2 := [.int 0]) (y' := set2 y 27 (fun _ => T2 (inR (xs (4 * i + 1)) 0 (y 4 0 - 1)) (inR (xs (4 * i + 2)) 0 20))) C MM (cwV 2 C.w gL_law_X4_colour rfl rfl rfl (by decide +kernel) ⟨Nat.le_of_ble_eq_true rfl, Nat.le_of_ble_eq_true rfl⟩) dL_law_1424 rfl rfl (Nat.le_of_ble_eq_true rfl) ⟨hc, hs⟩ rfl rfl ?_
    refine q_istore (lv' := [(6, .int 0), (5, .int (hcod [eI, eA] (some E))), (4, .int (nI (4 * i))), (3, .ref o), (2, .ref (b 30)), (1, .ref (a 30)), (0, .ref sb)]) (pc2 := 1429) C dL_law_1427 (by decide) rfl rfl ?_
    refine q_aload_n (pc2 := 1430) C 4 dL_law_1429 rfl rfl rfl ?_
    refine q_LM (pc2 := 1433) (As := []) (st := []) (st2 := [.int ((set2 y 27 (fun _ => T2 (inR (xs (4 * i + 1)) 0 (y 4 0 - 1)) (inR (xs (4 * i + 2)) 0 20))) 27 0)]) (y' := set2 y 27 (fun _ => T2 (inR (xs (4 * i + 1)) 0 (y 4 0 - 1)) (inR (xs (4 * i + 2)) 0 20))) C (c_X4_thrown l D ct b (set2 y 27 (fun _ => T2 (inR (xs (4 * i + 1)) 0 (y 4 0 - 1)) (inR (xs (4 * i + 2)) 0 20)))) (cwV 0 C.w gL_law_X4_thrown rfl rfl rfl (by decide +kernel) ⟨Nat.le_of_ble_eq_true rfl, Nat.le_of_ble_eq_true rfl⟩) dL_law_1430 rfl rfl (Nat.le_of_ble_eq_true rfl) ⟨hc, hs⟩ rfl rfl ?_
    refine q_iload (pc2 := 1435) C 1 dL_law_1433 rfl rfl ?_
    refine q_icmp_eq (tgt := 1440) (pc2 := 1438) C dL_law_1435 (by decide) rfl (fun _ => ?_) (fun h9 => absurd (hB9.trans hT) h9)
    refine q_iload (pc2 := 1442) C 1 dL_law_1440 rfl rfl ?_
    refine q_if_ne (tgt := 1457) (pc2 := 1445) C dL_law_1442 (by decide) rfl (fun _ => ?_) (fun h9 => absurd (hT.trans h9) h0)
    refine q_goto (pc2 := 1473) C dL_law_1457 (by decide) ?_
    refine q_lv (lv' := [(4, .int (nI (4 * i))), (3, .ref o), (2, .ref (b 30)), (1, .ref (a 30)), (0, .ref sb)]) [2, 3, 4, 5, 6] rfl ?_
    exact kk g x _ (RE.mono (by omega) hRE)

set_option maxHeartbeats 4000000 in
set_option maxRecDepth 100000 in
theorem lc_cue (l : Launch) (hl : l.stackTraces = false) {p : Program} {e : Env} {s : State} {m : MethodId} {args : Array Value} {below : List Frame} {meth : Method} {c : Code} {D : va_G} {ct : Nat → ClassId} {A : Nat → Prop} {Q : State → Prop} (C : Cx p s m args c meth cL_law 7 (some .boolean) wsL_law RL D ct A) {sb L : Nat} {xs : Nat → Int32} (hX : va_X sb L xs s s.heap) (hbl : sb < s.heap.size) (hbA : ¬ A sb) (hL : L ≤ 2048) {a b : Nat → Nat} {o : Nat} {g : Nat → Int64} {x y : Nat → Nat → Int32} {N : Nat} (hN : N + 50 < 2 ^ 29) (hR : RE N x y) {i : Nat} (hi : 4 * i + 4 ≤ L) {cells slots : Nat} (hc : cells + 1 ≤ 1088) (hs : slots + 6 ≤ 8873)
    (kk : ∀ (g' : Nat → Int64) (x' y' : Nat → Nat → Int32), RE (N + 50) x' y' → Cf p l e room_1 s m args below meth c D A 7 (cells + 1) (slots + 6) Q 1473 [(4, .int (nI (4 * i))), (3, .ref o), (2, .ref (b 30)), (1, .ref (a 30)), (0, .ref sb)] [] (wL ct a b o g' x' y')) : Cf p l e room_1 s m args below meth c D A 7 cells slots Q 820 [(4, .int (nI (4 * i))), (3, .ref o), (2, .ref (b 30)), (1, .ref (a 30)), (0, .ref sb)] [] (wL ct a b o g x y) := by
  obtain ⟨n, h, q, bb, t, ht, r⟩ := hR
  have S := st_cue hN r ht (xs (4 * i + 1)) (xs (4 * i + 2)) (xs (4 * i + 3))
  obtain ⟨hn10, hlt, hq8, hbq, hn, hnM, hh, hhM, hq, hqM, hb, hbM, hti, hTM, e1, e2, e3, e5, e6, e7, e11, e17, e18, e19, e20, hbars, hlen, hkind, hlow, hhigh, hfst, hplc, hnam, hcur, hrul, hbeg⟩ := id r
  have hc0 : cells ≤ 1088 := Nat.le_trans (Nat.le_succ cells) hc
  have hs0 : slots ≤ 8873 := Nat.le_trans (Nat.le_add_right slots 6) hs
  have hfd := fdk r
  have hok : ∀ k, k < 10 → wOk y k := fun k hk => TM_ok hTM (by omega) k hk
  have hBM : ∀ s, s < 2 → 0 ≤ y 1 s := fun s hs => by obtain ⟨k, hk, e⟩ := hbars s hs; rw [e]; exact nI_pos' (by omega)
  have hB : ∀ s, s < 2 → 0 ≤ x 5 s := fun s hs => by rw [e5]; exact hBM s hs
  obtain ⟨kb, hkb4, hkb⟩ := hbars h hlt
  have hkbX : x 5 h = nI kb := by rw [e5]; exact hkb
  have M := c_L_cue l D ct a o g x (set2 (set2 (set2 (set2 x 16 (fun _ => x 16 0 + 1)) 17 (upd (x 17) q (xs (4 * i + 1)))) 18 (upd (x 18) q (xs (4 * i + 2)))) 19 (upd (x 19) q (xs (4 * i + 3)))) (xs (4 * i + 1)) (xs (4 * i + 2)) (xs (4 * i + 3)) (if (0 ≤ (xs (4 * i + 1)) ∧ (xs (4 * i + 1)) ≤ 50) then (if (0 ≤ (xs (4 * i + 2)) ∧ (xs (4 * i + 2)) ≤ 2) then (if (-1 ≤ (xs (4 * i + 3)) ∧ (xs (4 * i + 3)) ≤ 50) then (if (x 16 0 < 8) then none else some eS) else some eA) else some eA) else some eA) (StOk.mem S) (x 16 0) (c_X3_cue l hl D ct a x q hq hq8 (xs (4 * i + 1)) (xs (4 * i + 2)) (xs (4 * i + 3)))
  have MM := c_X4_cue l D ct b y q hqM hq8 (xs (4 * i + 1)) (xs (4 * i + 2)) (xs (4 * i + 3))
  rcases S with ⟨hoc, hT, hr, hA, hRE⟩ | ⟨E, hE, hoc, hT, h0, hB9, hRE⟩
  · skip
    rw [hoc] at M
    rw [if_pos hT, if_pos hT] at MM
    refine q_aload_n (pc2 := 821) C 3 dL_law_820 rfl rfl rfl ?_
    refine q_aload_n (pc2 := 822) C 4 dL_law_821 rfl rfl rfl ?_
    refine q_iload (pc2 := 824) C 0 dL_law_822 rfl rfl ?_
    refine q_iconst (v := 1) (pc2 := 825) C dL_law_824 (by decide) rfl ?_
    refine q_iadd (v := nI (4 * i + 1)) (pc2 := 826) C dL_law_825 (nI_add (4 * i) 1) rfl ?_
    refine q_sld (pc2 := 827) C hX hbl hbA (4 * i + 1) rfl (by omega) (by omega) dL_law_826 rfl ?_
    refine q_aload_n (pc2 := 828) C 4 dL_law_827 rfl rfl rfl ?_
    refine q_iload (pc2 := 830) C 0 dL_law_828 rfl rfl ?_
    refine q_iconst (v := 2) (pc2 := 831) C dL_law_830 (by decide) rfl ?_
    refine q_iadd (v := nI (4 * i + 2)) (pc2 := 832) C dL_law_831 (nI_add (4 * i) 2) rfl ?_
    refine q_sld (pc2 := 833) C hX hbl hbA (4 * i + 2) rfl (by omega) (by omega) dL_law_832 rfl ?_
    refine q_aload_n (pc2 := 834) C 4 dL_law_833 rfl rfl rfl ?_
    refine q_iload (pc2 := 836) C 0 dL_law_834 rfl rfl ?_
    refine q_iconst (v := 3) (pc2 := 837) C dL_law_836 (by decide) rfl ?_
    refine q_iadd (v := nI (4 * i + 3)) (pc2 := 838) C dL_law_837 (nI_add (4 * i) 3) rfl ?_
    refine q_sld (pc2 := 839) C hX hbl hbA (4 * i + 3) rfl (by omega) (by omega) dL_law_838 rfl ?_
    refine q_aload_n (pc2 := 840) C 1 dL_law_839 rfl rfl rfl ?_
    refine q_LH (pc2 := 843) (As := [.ref (a 30), .int (xs (4 * i + 1)), .int (xs (4 * i + 2)), .int (xs (4 * i + 3)), .ref o]) (st := []) (st2 := [.int 0]) (g' := vp_updL g 0 ((x 16 0).toInt64)) (x' := set2 (set2 (set2 (set2 x 16 (fun _ => x 16 0 + 1)) 17 (upd (x 17) q (xs (4 * i + 1)))) 18 (upd (x 18) q (xs (4 * i + 2)))) 19 (upd (x 19) q (xs (4 * i + 3)))) (c2 := cells) (s2 := slots) C M (vx_cwSW 5 C.w gL_law_L_cue rfl rfl rfl (by decide +kernel) ⟨Nat.le_of_ble_eq_true rfl, Nat.le_of_ble_eq_true rfl⟩) dL_law_840 rfl rfl (Nat.le_of_ble_eq_true rfl) ⟨hc0, hs0⟩ rfl rfl rfl rfl ?_
    refine q_istore (lv' := [(5, .int 0), (4, .int (nI (4 * i))), (3, .ref o), (2, .ref (b 30)), (1, .ref (a 30)), (0, .ref sb)]) (pc2 := 845) C dL_law_843 (by decide) rfl rfl ?_
    refine q_aload_n (pc2 := 846) C 3 dL_law_845 rfl rfl rfl ?_
    refine q_aload_n (pc2 := 847) C 5 dL_law_846 rfl rfl rfl ?_
    refine q_iload (pc2 := 849) C 1 dL_law_847 rfl rfl ?_
    refine q_iconst (v := 1) (pc2 := 850) C dL_law_849 (by decide) rfl ?_
    refine q_iadd (v := nI (4 * i + 1)) (pc2 := 851) C dL_law_850 (nI_add (4 * i) 1) rfl ?_
    refine q_sld (pc2 := 852) C hX hbl hbA (4 * i + 1) rfl (by omega) (by omega) dL_law_851 rfl ?_
    refine q_aload_n (pc2 := 853) C 5 dL_law_852 rfl rfl rfl ?_
    refine q_iload (pc2 := 855) C 1 dL_law_853 rfl rfl ?_
    refine q_iconst (v := 2) (pc2 := 856) C dL_law_855 (by decide) rfl ?_
    refine q_iadd (v := nI (4 * i + 2)) (pc2 := 857) C dL_law_856 (nI_add (4 * i) 2) rfl ?_
    refine q_sld (pc2 := 858) C hX hbl hbA (4 * i + 2) rfl (by omega) (by omega) dL_law_857 rfl ?_
    refine q_aload_n (pc2 := 859) C 5 dL_law_858 rfl rfl rfl ?_
    refine q_iload (pc2 := 861) C 1 dL_law_859 rfl rfl ?_
    refine q_iconst (v := 3) (pc2 := 862) C dL_law_861 (by decide) rfl ?_
    refine q_iadd (v := nI (4 * i + 3)) (pc2 := 863) C dL_law_862 (nI_add (4 * i) 3) rfl ?_
    refine q_sld (pc2 := 864) C hX hbl hbA (4 * i + 3) rfl (by omega) (by omega) dL_law_863 rfl ?_
    refine q_LM (pc2 := 867) (As := [.int (xs (4 * i + 1)), .int (xs (4 * i + 2)), .int (xs (4 * i + 3))]) (st := []) (st2 := [.int (y 18 0 + 1 - 1)]) (y' := set2 (set2 (set2 (set2 (set2 y 27 (fun _ => T2 (inR (xs (4 * i + 1)) 0 50 ∧ inR (xs (4 * i + 2)) 0 2 ∧ inR (xs (4 * i + 3)) (-1) 50) (y 18 0 < 8))) 19 (upd (y 19) q (xs (4 * i + 1)))) 20 (upd (y 20) q (xs (4 * i + 2)))) 21 (upd (y 21) q (xs (4 * i + 3)))) 18 (fun _ => y 18 0 + 1)) C MM (cwV 3 C.w gL_law_X4_cue rfl rfl rfl (by decide +kernel) ⟨Nat.le_of_ble_eq_true rfl, Nat.le_of_ble_eq_true rfl⟩) dL_law_864 rfl rfl (Nat.le_of_ble_eq_true rfl) ⟨hc0, hs0⟩ rfl rfl ?_
    refine q_istore (lv' := [(6, .int (y 18 0 + 1 - 1)), (5, .int 0), (4, .int (nI (4 * i))), (3, .ref o), (2, .ref (b 30)), (1, .ref (a 30)), (0, .ref sb)]) (pc2 := 869) C dL_law_867 (by decide) rfl rfl ?_
    refine q_aload_n (pc2 := 870) C 4 dL_law_869 rfl rfl rfl ?_
    refine q_LM (pc2 := 873) (As := []) (st := []) (st2 := [.int ((set2 (set2 (set2 (set2 (set2 y 27 (fun _ => T2 (inR (xs (4 * i + 1)) 0 50 ∧ inR (xs (4 * i + 2)) 0 2 ∧ inR (xs (4 * i + 3)) (-1) 50) (y 18 0 < 8))) 19 (upd (y 19) q (xs (4 * i + 1)))) 20 (upd (y 20) q (xs (4 * i + 2)))) 21 (upd (y 21) q (xs (4 * i + 3)))) 18 (fun _ => y 18 0 + 1)) 27 0)]) (y' := set2 (set2 (set2 (set2 (set2 y 27 (fun _ => T2 (inR (xs (4 * i + 1)) 0 50 ∧ inR (xs (4 * i + 2)) 0 2 ∧ inR (xs (4 * i + 3)) (-1) 50) (y 18 0 < 8))) 19 (upd (y 19) q (xs (4 * i + 1)))) 20 (upd (y 20) q (xs (4 * i + 2)))) 21 (upd (y 21) q (xs (4 * i + 3)))) 18 (fun _ => y 18 0 + 1)) C (c_X4_thrown l D ct b (set2 (set2 (set2 (set2 (set2 y 27 (fun _ => T2 (inR (xs (4 * i + 1)) 0 50 ∧ inR (xs (4 * i + 2)) 0 2 ∧ inR (xs (4 * i + 3)) (-1) 50) (y 18 0 < 8))) 19 (upd (y 19) q (xs (4 * i + 1)))) 20 (upd (y 20) q (xs (4 * i + 2)))) 21 (upd (y 21) q (xs (4 * i + 3)))) 18 (fun _ => y 18 0 + 1))) (cwV 0 C.w gL_law_X4_thrown rfl rfl rfl (by decide +kernel) ⟨Nat.le_of_ble_eq_true rfl, Nat.le_of_ble_eq_true rfl⟩) dL_law_870 rfl rfl (Nat.le_of_ble_eq_true rfl) ⟨hc0, hs0⟩ rfl rfl ?_
    refine q_iload (pc2 := 875) C 1 dL_law_873 rfl rfl ?_
    refine q_icmp_eq (tgt := 880) (pc2 := 878) C dL_law_875 (by decide) rfl (fun _ => ?_) (fun h9 => absurd (hA.trans hT) h9)
    refine q_iload (pc2 := 882) C 1 dL_law_880 rfl rfl ?_
    refine q_if_ne (tgt := 897) (pc2 := 885) C dL_law_882 (by decide) rfl (fun h9 => absurd rfl h9) (fun _ => ?_)
    refine q_aload_n (pc2 := 886) C 3 dL_law_885 rfl rfl rfl ?_
    refine q_iconst (v := 0) (pc2 := 887) C dL_law_886 (by decide) rfl ?_
    refine q_lald (pc2 := 888) C 0 (wL_g48 ct a b o (vp_updL g 0 ((x 16 0).toInt64)) (set2 (set2 (set2 (set2 x 16 (fun _ => x 16 0 + 1)) 17 (upd (x 17) q (xs (4 * i + 1)))) 18 (upd (x 18) q (xs (4 * i + 2)))) 19 (upd (x 19) q (xs (4 * i + 3)))) (set2 (set2 (set2 (set2 (set2 y 27 (fun _ => T2 (inR (xs (4 * i + 1)) 0 50 ∧ inR (xs (4 * i + 2)) 0 2 ∧ inR (xs (4 * i + 3)) (-1) 50) (y 18 0 < 8))) 19 (upd (y 19) q (xs (4 * i + 1)))) 20 (upd (y 20) q (xs (4 * i + 2)))) 21 (upd (y 21) q (xs (4 * i + 3)))) 18 (fun _ => y 18 0 + 1))) rfl rfl (by decide) (by decide) dL_law_887 rfl ?_
    refine q_iload (pc2 := 890) C 0 dL_law_888 rfl rfl ?_
    refine q_i2l (pc2 := 891) C dL_law_890 rfl rfl ?_
    refine q_lcmp_eq (pc2 := 892) C ((if_pos rfl).trans (congrArg Int32.toInt64 hr)) dL_law_891 rfl ?_
    refine q_if_eq (tgt := 897) (pc2 := 895) C dL_law_892 (by decide) rfl (fun _ => ?_) (fun h9 => absurd rfl h9)
    refine q_goto (pc2 := 1473) C dL_law_897 (by decide) ?_
    refine q_widen (Nat.le_add_right cells 1) (Nat.le_add_right slots 6) ?_
    refine q_lv (lv' := [(4, .int (nI (4 * i))), (3, .ref o), (2, .ref (b 30)), (1, .ref (a 30)), (0, .ref sb)]) [2, 3, 4, 5, 6] rfl ?_
    exact kk _ _ _ (RE.mono (by omega) hRE)
  · skip
    rw [hoc] at M
    rw [if_neg h0, if_neg h0] at MM
    refine q_aload_n (pc2 := 821) C 3 dL_law_820 rfl rfl rfl ?_
    refine q_aload_n (pc2 := 822) C 4 dL_law_821 rfl rfl rfl ?_
    refine q_iload (pc2 := 824) C 0 dL_law_822 rfl rfl ?_
    refine q_iconst (v := 1) (pc2 := 825) C dL_law_824 (by decide) rfl ?_
    refine q_iadd (v := nI (4 * i + 1)) (pc2 := 826) C dL_law_825 (nI_add (4 * i) 1) rfl ?_
    refine q_sld (pc2 := 827) C hX hbl hbA (4 * i + 1) rfl (by omega) (by omega) dL_law_826 rfl ?_
    refine q_aload_n (pc2 := 828) C 4 dL_law_827 rfl rfl rfl ?_
    refine q_iload (pc2 := 830) C 0 dL_law_828 rfl rfl ?_
    refine q_iconst (v := 2) (pc2 := 831) C dL_law_830 (by decide) rfl ?_
    refine q_iadd (v := nI (4 * i + 2)) (pc2 := 832) C dL_law_831 (nI_add (4 * i) 2) rfl ?_
    refine q_sld (pc2 := 833) C hX hbl hbA (4 * i + 2) rfl (by omega) (by omega) dL_law_832 rfl ?_
    refine q_aload_n (pc2 := 834) C 4 dL_law_833 rfl rfl rfl ?_
    refine q_iload (pc2 := 836) C 0 dL_law_834 rfl rfl ?_
    refine q_iconst (v := 3) (pc2 := 837) C dL_law_836 (by decide) rfl ?_
    refine q_iadd (v := nI (4 * i + 3)) (pc2 := 838) C dL_law_837 (nI_add (4 * i) 3) rfl ?_
    refine q_sld (pc2 := 839) C hX hbl hbA (4 * i + 3) rfl (by omega) (by omega) dL_law_838 rfl ?_
    refine q_aload_n (pc2 := 840) C 1 dL_law_839 rfl rfl rfl ?_
    refine q_LH (pc2 := 843) (As := [.ref (a 30), .int (xs (4 * i + 1)), .int (xs (4 * i + 2)), .int (xs (4 * i + 3)), .ref o]) (st := []) (st2 := [.int (hcod [eA, eS] (some E))]) (g' := g) (x' := x) (c2 := (cells + 1)) (s2 := (slots + 6)) C M (vx_cwSW 5 C.w gL_law_L_cue rfl rfl rfl (by decide +kernel) ⟨Nat.le_of_ble_eq_true rfl, Nat.le_of_ble_eq_true rfl⟩) dL_law_840 rfl rfl (Nat.le_of_ble_eq_true rfl) ⟨hc, hs⟩ rfl rfl rfl rfl ?_
    refine q_istore (lv' := [(5, .int (hcod [eA, eS] (some E))), (4, .int (nI (4 * i))), (3, .ref o), (2, .ref (b 30)), (1, .ref (a 30)), (0, .ref sb)]) (pc2 := 845) C dL_law_843 (by decide) rfl rfl ?_
    refine q_aload_n (pc2 := 846) C 3 dL_law_845 rfl rfl rfl ?_
    refine q_aload_n (pc2 := 847) C 5 dL_law_846 rfl rfl rfl ?_
    refine q_iload (pc2 := 849) C 1 dL_law_847 rfl rfl ?_
    refine q_iconst (v := 1) (pc2 := 850) C dL_law_849 (by decide) rfl ?_
    refine q_iadd (v := nI (4 * i + 1)) (pc2 := 851) C dL_law_850 (nI_add (4 * i) 1) rfl ?_
    refine q_sld (pc2 := 852) C hX hbl hbA (4 * i + 1) rfl (by omega) (by omega) dL_law_851 rfl ?_
    refine q_aload_n (pc2 := 853) C 5 dL_law_852 rfl rfl rfl ?_
    refine q_iload (pc2 := 855) C 1 dL_law_853 rfl rfl ?_
    refine q_iconst (v := 2) (pc2 := 856) C dL_law_855 (by decide) rfl ?_
    refine q_iadd (v := nI (4 * i + 2)) (pc2 := 857) C dL_law_856 (nI_add (4 * i) 2) rfl ?_
    refine q_sld (pc2 := 858) C hX hbl hbA (4 * i + 2) rfl (by omega) (by omega) dL_law_857 rfl ?_
    refine q_aload_n (pc2 := 859) C 5 dL_law_858 rfl rfl rfl ?_
    refine q_iload (pc2 := 861) C 1 dL_law_859 rfl rfl ?_
    refine q_iconst (v := 3) (pc2 := 862) C dL_law_861 (by decide) rfl ?_
    refine q_iadd (v := nI (4 * i + 3)) (pc2 := 863) C dL_law_862 (nI_add (4 * i) 3) rfl ?_
    refine q_sld (pc2 := 864) C hX hbl hbA (4 * i + 3) rfl (by omega) (by omega) dL_law_863 rfl ?_
    refine q_LM (pc2 := 867) (As := [.int (xs (4 * i + 1)), .int (xs (4 * i + 2)), .int (xs (4 * i + 3))]) (st := []) (st2 := [.int 0]) (y' := set2 y 27 (fun _ => T2 (inR (xs (4 * i + 1)) 0 50 ∧ inR (xs (4 * i + 2)) 0 2 ∧ inR (xs (4 * i + 3)) (-1) 50) (y 18 0 < 8))) C MM (cwV 3 C.w gL_law_X4_cue rfl rfl rfl (by decide +kernel) ⟨Nat.le_of_ble_eq_true rfl, Nat.le_of_ble_eq_true rfl⟩) dL_law_864 rfl rfl (Nat.le_of_ble_eq_true rfl) ⟨hc, hs⟩ rfl rfl ?_
    refine q_istore (lv' := [(6, .int 0), (5, .int (hcod [eA, eS] (some E))), (4, .int (nI (4 * i))), (3, .ref o), (2, .ref (b 30)), (1, .ref (a 30)), (0, .ref sb)]) (pc2 := 869) C dL_law_867 (by decide) rfl rfl ?_
    refine q_aload_n (pc2 := 870) C 4 dL_law_869 rfl rfl rfl ?_
    refine q_LM (pc2 := 873) (As := []) (st := []) (st2 := [.int ((set2 y 27 (fun _ => T2 (inR (xs (4 * i + 1)) 0 50 ∧ inR (xs (4 * i + 2)) 0 2 ∧ inR (xs (4 * i + 3)) (-1) 50) (y 18 0 < 8))) 27 0)]) (y' := set2 y 27 (fun _ => T2 (inR (xs (4 * i + 1)) 0 50 ∧ inR (xs (4 * i + 2)) 0 2 ∧ inR (xs (4 * i + 3)) (-1) 50) (y 18 0 < 8))) C (c_X4_thrown l D ct b (set2 y 27 (fun _ => T2 (inR (xs (4 * i + 1)) 0 50 ∧ inR (xs (4 * i + 2)) 0 2 ∧ inR (xs (4 * i + 3)) (-1) 50) (y 18 0 < 8)))) (cwV 0 C.w gL_law_X4_thrown rfl rfl rfl (by decide +kernel) ⟨Nat.le_of_ble_eq_true rfl, Nat.le_of_ble_eq_true rfl⟩) dL_law_870 rfl rfl (Nat.le_of_ble_eq_true rfl) ⟨hc, hs⟩ rfl rfl ?_
    refine q_iload (pc2 := 875) C 1 dL_law_873 rfl rfl ?_
    refine q_icmp_eq (tgt := 880) (pc2 := 878) C dL_law_875 (by decide) rfl (fun _ => ?_) (fun h9 => absurd (hB9.trans hT) h9)
    refine q_iload (pc2 := 882) C 1 dL_law_880 rfl rfl ?_
    refine q_if_ne (tgt := 897) (pc2 := 885) C dL_law_882 (by decide) rfl (fun _ => ?_) (fun h9 => absurd (hT.trans h9) h0)
    refine q_goto (pc2 := 1473) C dL_law_897 (by decide) ?_
    refine q_lv (lv' := [(4, .int (nI (4 * i))), (3, .ref o), (2, .ref (b 30)), (1, .ref (a 30)), (0, .ref sb)]) [2, 3, 4, 5, 6] rfl ?_
    exact kk g x _ (RE.mono (by omega) hRE)

set_option maxHeartbeats 4000000 in
set_option maxRecDepth 100000 in
theorem lc_lamp (l : Launch) (hl : l.stackTraces = false) {p : Program} {e : Env} {s : State} {m : MethodId} {args : Array Value} {below : List Frame} {meth : Method} {c : Code} {D : va_G} {ct : Nat → ClassId} {A : Nat → Prop} {Q : State → Prop} (C : Cx p s m args c meth cL_law 7 (some .boolean) wsL_law RL D ct A) {sb L : Nat} {xs : Nat → Int32} (hX : va_X sb L xs s s.heap) (hbl : sb < s.heap.size) (hbA : ¬ A sb) (hL : L ≤ 2048) {a b : Nat → Nat} {o : Nat} {g : Nat → Int64} {x y : Nat → Nat → Int32} {N : Nat} (hN : N + 50 < 2 ^ 29) (hR : RE N x y) {i : Nat} (hi : 4 * i + 4 ≤ L) {cells slots : Nat} (hc : cells + 1 ≤ 1088) (hs : slots + 6 ≤ 8873)
    (kk : ∀ (g' : Nat → Int64) (x' y' : Nat → Nat → Int32), RE (N + 50) x' y' → Cf p l e room_1 s m args below meth c D A 7 (cells + 1) (slots + 6) Q 1473 [(4, .int (nI (4 * i))), (3, .ref o), (2, .ref (b 30)), (1, .ref (a 30)), (0, .ref sb)] [] (wL ct a b o g' x' y')) : Cf p l e room_1 s m args below meth c D A 7 cells slots Q 224 [(4, .int (nI (4 * i))), (3, .ref o), (2, .ref (b 30)), (1, .ref (a 30)), (0, .ref sb)] [] (wL ct a b o g x y) := by
  obtain ⟨n, h, q, bb, t, ht, r⟩ := hR
  have S := st_lamp hN r ht (xs (4 * i + 1)) (xs (4 * i + 2))
  obtain ⟨hn10, hlt, hq8, hbq, hn, hnM, hh, hhM, hq, hqM, hb, hbM, hti, hTM, e1, e2, e3, e5, e6, e7, e11, e17, e18, e19, e20, hbars, hlen, hkind, hlow, hhigh, hfst, hplc, hnam, hcur, hrul, hbeg⟩ := id r
  have hc0 : cells ≤ 1088 := Nat.le_trans (Nat.le_succ cells) hc
  have hs0 : slots ≤ 8873 := Nat.le_trans (Nat.le_add_right slots 6) hs
  have hfd := fdk r
  have hok : ∀ k, k < 10 → wOk y k := fun k hk => TM_ok hTM (by omega) k hk
  have hBM : ∀ s, s < 2 → 0 ≤ y 1 s := fun s hs => by obtain ⟨k, hk, e⟩ := hbars s hs; rw [e]; exact nI_pos' (by omega)
  have hB : ∀ s, s < 2 → 0 ≤ x 5 s := fun s hs => by rw [e5]; exact hBM s hs
  obtain ⟨kb, hkb4, hkb⟩ := hbars h hlt
  have hkbX : x 5 h = nI kb := by rw [e5]; exact hkb
  have M := c_L_lamp l D ct a o g x (set2 (set2 (set2 (set2 (set2 x 0 (fun _ => x 0 0 + 1)) 1 (upd (x 1) n (xs (4 * i + 2)))) 8 (upd (x 8) n (wgh (xs (4 * i + 1))))) 13 (upd (x 13) n (wdX (xs (4 * i + 1))))) 15 (upd (x 15) n (drw (xs (4 * i + 1))))) (xs (4 * i + 1)) (xs (4 * i + 2)) (if (0 ≤ (xs (4 * i + 1)) ∧ (xs (4 * i + 1)) ≤ 3) then (if (0 ≤ (xs (4 * i + 2)) ∧ (xs (4 * i + 2)) ≤ 20) then (if (x 0 0 < 10) then none else some eS) else some eA) else some eA) (StOk.mem S) (x 0 0) (c_X3_lamp l hl D ct a x n hn hn10 (xs (4 * i + 1)) (xs (4 * i + 2)))
  have MM := c_X4_lamp l D ct b y n hnM hn10 (xs (4 * i + 1)) (xs (4 * i + 2))
  rcases S with ⟨hoc, hT, hr, hA, hRE⟩ | ⟨E, hE, hoc, hT, h0, hB9, hRE⟩
  · skip
    rw [hoc] at M
    rw [if_pos hT, if_pos hT] at MM
    refine q_aload_n (pc2 := 225) C 3 dL_law_224 rfl rfl rfl ?_
    refine q_aload_n (pc2 := 226) C 4 dL_law_225 rfl rfl rfl ?_
    refine q_iload (pc2 := 228) C 0 dL_law_226 rfl rfl ?_
    refine q_iconst (v := 1) (pc2 := 229) C dL_law_228 (by decide) rfl ?_
    refine q_iadd (v := nI (4 * i + 1)) (pc2 := 230) C dL_law_229 (nI_add (4 * i) 1) rfl ?_
    refine q_sld (pc2 := 231) C hX hbl hbA (4 * i + 1) rfl (by omega) (by omega) dL_law_230 rfl ?_
    refine q_aload_n (pc2 := 232) C 4 dL_law_231 rfl rfl rfl ?_
    refine q_iload (pc2 := 234) C 0 dL_law_232 rfl rfl ?_
    refine q_iconst (v := 2) (pc2 := 235) C dL_law_234 (by decide) rfl ?_
    refine q_iadd (v := nI (4 * i + 2)) (pc2 := 236) C dL_law_235 (nI_add (4 * i) 2) rfl ?_
    refine q_sld (pc2 := 237) C hX hbl hbA (4 * i + 2) rfl (by omega) (by omega) dL_law_236 rfl ?_
    refine q_aload_n (pc2 := 238) C 1 dL_law_237 rfl rfl rfl ?_
    refine q_LH (pc2 := 241) (As := [.ref (a 30), .int (xs (4 * i + 1)), .int (xs (4 * i + 2)), .ref o]) (st := []) (st2 := [.int 0]) (g' := vp_updL g 0 ((x 0 0).toInt64)) (x' := set2 (set2 (set2 (set2 (set2 x 0 (fun _ => x 0 0 + 1)) 1 (upd (x 1) n (xs (4 * i + 2)))) 8 (upd (x 8) n (wgh (xs (4 * i + 1))))) 13 (upd (x 13) n (wdX (xs (4 * i + 1))))) 15 (upd (x 15) n (drw (xs (4 * i + 1))))) (c2 := cells) (s2 := slots) C M (vx_cwSW 4 C.w gL_law_L_lamp rfl rfl rfl (by decide +kernel) ⟨Nat.le_of_ble_eq_true rfl, Nat.le_of_ble_eq_true rfl⟩) dL_law_238 rfl rfl (Nat.le_of_ble_eq_true rfl) ⟨hc0, hs0⟩ rfl rfl rfl rfl ?_
    refine q_istore (lv' := [(5, .int 0), (4, .int (nI (4 * i))), (3, .ref o), (2, .ref (b 30)), (1, .ref (a 30)), (0, .ref sb)]) (pc2 := 243) C dL_law_241 (by decide) rfl rfl ?_
    refine q_aload_n (pc2 := 244) C 3 dL_law_243 rfl rfl rfl ?_
    refine q_aload_n (pc2 := 245) C 5 dL_law_244 rfl rfl rfl ?_
    refine q_iload (pc2 := 247) C 1 dL_law_245 rfl rfl ?_
    refine q_iconst (v := 1) (pc2 := 248) C dL_law_247 (by decide) rfl ?_
    refine q_iadd (v := nI (4 * i + 1)) (pc2 := 249) C dL_law_248 (nI_add (4 * i) 1) rfl ?_
    refine q_sld (pc2 := 250) C hX hbl hbA (4 * i + 1) rfl (by omega) (by omega) dL_law_249 rfl ?_
    refine q_aload_n (pc2 := 251) C 5 dL_law_250 rfl rfl rfl ?_
    refine q_iload (pc2 := 253) C 1 dL_law_251 rfl rfl ?_
    refine q_iconst (v := 2) (pc2 := 254) C dL_law_253 (by decide) rfl ?_
    refine q_iadd (v := nI (4 * i + 2)) (pc2 := 255) C dL_law_254 (nI_add (4 * i) 2) rfl ?_
    refine q_sld (pc2 := 256) C hX hbl hbA (4 * i + 2) rfl (by omega) (by omega) dL_law_255 rfl ?_
    refine q_LM (pc2 := 259) (As := [.int (xs (4 * i + 1)), .int (xs (4 * i + 2))]) (st := []) (st2 := [.int (y 4 0 + 1 - 1)]) (y' := set2 (set2 (set2 (set2 (set2 (set2 (set2 y 27 (fun _ => T2 (inR (xs (4 * i + 1)) 0 3 ∧ inR (xs (4 * i + 2)) 0 20) (y 4 0 < 10))) 5 (upd (y 5) n (xs (4 * i + 1)))) 6 (upd (y 6) n (xs (4 * i + 2)))) 7 (upd (y 7) n (-1))) 9 (upd (y 9) n (-1))) 10 (upd (y 10) n (-1))) 4 (fun _ => y 4 0 + 1)) C MM (cwV 2 C.w gL_law_X4_lamp rfl rfl rfl (by decide +kernel) ⟨Nat.le_of_ble_eq_true rfl, Nat.le_of_ble_eq_true rfl⟩) dL_law_256 rfl rfl (Nat.le_of_ble_eq_true rfl) ⟨hc0, hs0⟩ rfl rfl ?_
    refine q_istore (lv' := [(6, .int (y 4 0 + 1 - 1)), (5, .int 0), (4, .int (nI (4 * i))), (3, .ref o), (2, .ref (b 30)), (1, .ref (a 30)), (0, .ref sb)]) (pc2 := 261) C dL_law_259 (by decide) rfl rfl ?_
    refine q_aload_n (pc2 := 262) C 4 dL_law_261 rfl rfl rfl ?_
    refine q_LM (pc2 := 265) (As := []) (st := []) (st2 := [.int ((set2 (set2 (set2 (set2 (set2 (set2 (set2 y 27 (fun _ => T2 (inR (xs (4 * i + 1)) 0 3 ∧ inR (xs (4 * i + 2)) 0 20) (y 4 0 < 10))) 5 (upd (y 5) n (xs (4 * i + 1)))) 6 (upd (y 6) n (xs (4 * i + 2)))) 7 (upd (y 7) n (-1))) 9 (upd (y 9) n (-1))) 10 (upd (y 10) n (-1))) 4 (fun _ => y 4 0 + 1)) 27 0)]) (y' := set2 (set2 (set2 (set2 (set2 (set2 (set2 y 27 (fun _ => T2 (inR (xs (4 * i + 1)) 0 3 ∧ inR (xs (4 * i + 2)) 0 20) (y 4 0 < 10))) 5 (upd (y 5) n (xs (4 * i + 1)))) 6 (upd (y 6) n (xs (4 * i + 2)))) 7 (upd (y 7) n (-1))) 9 (upd (y 9) n (-1))) 10 (upd (y 10) n (-1))) 4 (fun _ => y 4 0 + 1)) C (c_X4_thrown l D ct b (set2 (set2 (set2 (set2 (set2 (set2 (set2 y 27 (fun _ => T2 (inR (xs (4 * i + 1)) 0 3 ∧ inR (xs (4 * i + 2)) 0 20) (y 4 0 < 10))) 5 (upd (y 5) n (xs (4 * i + 1)))) 6 (upd (y 6) n (xs (4 * i + 2)))) 7 (upd (y 7) n (-1))) 9 (upd (y 9) n (-1))) 10 (upd (y 10) n (-1))) 4 (fun _ => y 4 0 + 1))) (cwV 0 C.w gL_law_X4_thrown rfl rfl rfl (by decide +kernel) ⟨Nat.le_of_ble_eq_true rfl, Nat.le_of_ble_eq_true rfl⟩) dL_law_262 rfl rfl (Nat.le_of_ble_eq_true rfl) ⟨hc0, hs0⟩ rfl rfl ?_
    refine q_iload (pc2 := 267) C 1 dL_law_265 rfl rfl ?_
    refine q_icmp_eq (tgt := 272) (pc2 := 270) C dL_law_267 (by decide) rfl (fun _ => ?_) (fun h9 => absurd (hA.trans hT) h9)
    refine q_iload (pc2 := 274) C 1 dL_law_272 rfl rfl ?_
    refine q_if_ne (tgt := 289) (pc2 := 277) C dL_law_274 (by decide) rfl (fun h9 => absurd rfl h9) (fun _ => ?_)
    refine q_aload_n (pc2 := 278) C 3 dL_law_277 rfl rfl rfl ?_
    refine q_iconst (v := 0) (pc2 := 279) C dL_law_278 (by decide) rfl ?_
    refine q_lald (pc2 := 280) C 0 (wL_g48 ct a b o (vp_updL g 0 ((x 0 0).toInt64)) (set2 (set2 (set2 (set2 (set2 x 0 (fun _ => x 0 0 + 1)) 1 (upd (x 1) n (xs (4 * i + 2)))) 8 (upd (x 8) n (wgh (xs (4 * i + 1))))) 13 (upd (x 13) n (wdX (xs (4 * i + 1))))) 15 (upd (x 15) n (drw (xs (4 * i + 1))))) (set2 (set2 (set2 (set2 (set2 (set2 (set2 y 27 (fun _ => T2 (inR (xs (4 * i + 1)) 0 3 ∧ inR (xs (4 * i + 2)) 0 20) (y 4 0 < 10))) 5 (upd (y 5) n (xs (4 * i + 1)))) 6 (upd (y 6) n (xs (4 * i + 2)))) 7 (upd (y 7) n (-1))) 9 (upd (y 9) n (-1))) 10 (upd (y 10) n (-1))) 4 (fun _ => y 4 0 + 1))) rfl rfl (by decide) (by decide) dL_law_279 rfl ?_
    refine q_iload (pc2 := 282) C 0 dL_law_280 rfl rfl ?_
    refine q_i2l (pc2 := 283) C dL_law_282 rfl rfl ?_
    refine q_lcmp_eq (pc2 := 284) C ((if_pos rfl).trans (congrArg Int32.toInt64 hr)) dL_law_283 rfl ?_
    refine q_if_eq (tgt := 289) (pc2 := 287) C dL_law_284 (by decide) rfl (fun _ => ?_) (fun h9 => absurd rfl h9)
    refine q_goto (pc2 := 1473) C dL_law_289 (by decide) ?_
    refine q_widen (Nat.le_add_right cells 1) (Nat.le_add_right slots 6) ?_
    refine q_lv (lv' := [(4, .int (nI (4 * i))), (3, .ref o), (2, .ref (b 30)), (1, .ref (a 30)), (0, .ref sb)]) [2, 3, 4, 5, 6] rfl ?_
    exact kk _ _ _ (RE.mono (by omega) hRE)
  · skip
    rw [hoc] at M
    rw [if_neg h0, if_neg h0] at MM
    refine q_aload_n (pc2 := 225) C 3 dL_law_224 rfl rfl rfl ?_
    refine q_aload_n (pc2 := 226) C 4 dL_law_225 rfl rfl rfl ?_
    refine q_iload (pc2 := 228) C 0 dL_law_226 rfl rfl ?_
    refine q_iconst (v := 1) (pc2 := 229) C dL_law_228 (by decide) rfl ?_
    refine q_iadd (v := nI (4 * i + 1)) (pc2 := 230) C dL_law_229 (nI_add (4 * i) 1) rfl ?_
    refine q_sld (pc2 := 231) C hX hbl hbA (4 * i + 1) rfl (by omega) (by omega) dL_law_230 rfl ?_
    refine q_aload_n (pc2 := 232) C 4 dL_law_231 rfl rfl rfl ?_
    refine q_iload (pc2 := 234) C 0 dL_law_232 rfl rfl ?_
    refine q_iconst (v := 2) (pc2 := 235) C dL_law_234 (by decide) rfl ?_
    refine q_iadd (v := nI (4 * i + 2)) (pc2 := 236) C dL_law_235 (nI_add (4 * i) 2) rfl ?_
    refine q_sld (pc2 := 237) C hX hbl hbA (4 * i + 2) rfl (by omega) (by omega) dL_law_236 rfl ?_
    refine q_aload_n (pc2 := 238) C 1 dL_law_237 rfl rfl rfl ?_
    refine q_LH (pc2 := 241) (As := [.ref (a 30), .int (xs (4 * i + 1)), .int (xs (4 * i + 2)), .ref o]) (st := []) (st2 := [.int (hcod [eA, eS] (some E))]) (g' := g) (x' := x) (c2 := (cells + 1)) (s2 := (slots + 6)) C M (vx_cwSW 4 C.w gL_law_L_lamp rfl rfl rfl (by decide +kernel) ⟨Nat.le_of_ble_eq_true rfl, Nat.le_of_ble_eq_true rfl⟩) dL_law_238 rfl rfl (Nat.le_of_ble_eq_true rfl) ⟨hc, hs⟩ rfl rfl rfl rfl ?_
    refine q_istore (lv' := [(5, .int (hcod [eA, eS] (some E))), (4, .int (nI (4 * i))), (3, .ref o), (2, .ref (b 30)), (1, .ref (a 30)), (0, .ref sb)]) (pc2 := 243) C dL_law_241 (by decide) rfl rfl ?_
    refine q_aload_n (pc2 := 244) C 3 dL_law_243 rfl rfl rfl ?_
    refine q_aload_n (pc2 := 245) C 5 dL_law_244 rfl rfl rfl ?_
    refine q_iload (pc2 := 247) C 1 dL_law_245 rfl rfl ?_
    refine q_iconst (v := 1) (pc2 := 248) C dL_law_247 (by decide) rfl ?_
    refine q_iadd (v := nI (4 * i + 1)) (pc2 := 249) C dL_law_248 (nI_add (4 * i) 1) rfl ?_
    refine q_sld (pc2 := 250) C hX hbl hbA (4 * i + 1) rfl (by omega) (by omega) dL_law_249 rfl ?_
    refine q_aload_n (pc2 := 251) C 5 dL_law_250 rfl rfl rfl ?_
    refine q_iload (pc2 := 253) C 1 dL_law_251 rfl rfl ?_
    refine q_iconst (v := 2) (pc2 := 254) C dL_law_253 (by decide) rfl ?_
    refine q_iadd (v := nI (4 * i + 2)) (pc2 := 255) C dL_law_254 (nI_add (4 * i) 2) rfl ?_
    refine q_sld (pc2 := 256) C hX hbl hbA (4 * i + 2) rfl (by omega) (by omega) dL_law_255 rfl ?_
    refine q_LM (pc2 := 259) (As := [.int (xs (4 * i + 1)), .int (xs (4 * i + 2))]) (st := []) (st2 := [.int 0]) (y' := set2 y 27 (fun _ => T2 (inR (xs (4 * i + 1)) 0 3 ∧ inR (xs (4 * i + 2)) 0 20) (y 4 0 < 10))) C MM (cwV 2 C.w gL_law_X4_lamp rfl rfl rfl (by decide +kernel) ⟨Nat.le_of_ble_eq_true rfl, Nat.le_of_ble_eq_true rfl⟩) dL_law_256 rfl rfl (Nat.le_of_ble_eq_true rfl) ⟨hc, hs⟩ rfl rfl ?_
    refine q_istore (lv' := [(6, .int 0), (5, .int (hcod [eA, eS] (some E))), (4, .int (nI (4 * i))), (3, .ref o), (2, .ref (b 30)), (1, .ref (a 30)), (0, .ref sb)]) (pc2 := 261) C dL_law_259 (by decide) rfl rfl ?_
    refine q_aload_n (pc2 := 262) C 4 dL_law_261 rfl rfl rfl ?_
    refine q_LM (pc2 := 265) (As := []) (st := []) (st2 := [.int ((set2 y 27 (fun _ => T2 (inR (xs (4 * i + 1)) 0 3 ∧ inR (xs (4 * i + 2)) 0 20) (y 4 0 < 10))) 27 0)]) (y' := set2 y 27 (fun _ => T2 (inR (xs (4 * i + 1)) 0 3 ∧ inR (xs (4 * i + 2)) 0 20) (y 4 0 < 10))) C (c_X4_thrown l D ct b (set2 y 27 (fun _ => T2 (inR (xs (4 * i + 1)) 0 3 ∧ inR (xs (4 * i + 2)) 0 20) (y 4 0 < 10)))) (cwV 0 C.w gL_law_X4_thrown rfl rfl rfl (by decide +kernel) ⟨Nat.le_of_ble_eq_true rfl, Nat.le_of_ble_eq_true rfl⟩) dL_law_262 rfl rfl (Nat.le_of_ble_eq_true rfl) ⟨hc, hs⟩ rfl rfl ?_
    refine q_iload (pc2 := 267) C 1 dL_law_265 rfl rfl ?_
    refine q_icmp_eq (tgt := 272) (pc2 := 270) C dL_law_267 (by decide) rfl (fun _ => ?_) (fun h9 => absurd (hB9.trans hT) h9)
    refine q_iload (pc2 := 274) C 1 dL_law_272 rfl rfl ?_
    refine q_if_ne (tgt := 289) (pc2 := 277) C dL_law_274 (by decide) rfl (fun _ => ?_) (fun h9 => absurd (hT.trans h9) h0)
    refine q_goto (pc2 := 1473) C dL_law_289 (by decide) ?_
    refine q_lv (lv' := [(4, .int (nI (4 * i))), (3, .ref o), (2, .ref (b 30)), (1, .ref (a 30)), (0, .ref sb)]) [2, 3, 4, 5, 6] rfl ?_
    exact kk g x _ (RE.mono (by omega) hRE)
