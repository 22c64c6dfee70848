/-! asks: all that can be asked, against the law's own counting -/
theorem ldG_t0 {fp : Nat → Int32} {K L : Nat → Nat} {k : Nat} {g1 : Nat → Int32} (h : fp (25 + k) = -1) (hg : ∀ c, c < 4 → g1 c = ldG fp K L k c) : ∀ c, c < 4 → upd g1 0 (ldG fp K L k 0 + nI 0) c = ldG fp K L (k + 1) c := fun c hc => by
  rw [← ldG_s0 fp K L k h rfl c hc]
  by_cases e : c = 0
  · subst e; rw [upd_s, upd_s]
  · rw [upd_n e, upd_n e, hg c hc]
theorem ldG_t1 {fp : Nat → Int32} {K L : Nat → Nat} {k m : Nat} {g1 : Nat → Int32} (hm : m < 4) (h : fp (25 + k) = nI m) (hg : ∀ c, c < 4 → g1 c = ldG fp K L k c) : ∀ c, c < 4 → upd g1 m (ldG fp K L k m + nI (wtN (K k) * L k / 100)) c = ldG fp K L (k + 1) c := fun c hc => by
  rw [← ldG_s1 fp K L k m hm h rfl c hc]
  by_cases e : c = m
  · subst e; rw [upd_s, upd_s]
  · rw [upd_n e, upd_n e, hg c hc]
abbrev eqP (fp : Nat → Int32) (j v k : Nat) : Prop := fp (10 + k) = nI j ∧ fp (15 + k) = nI v
theorem blw_0 (p : Nat → Prop) [DecidablePred p] : ∀ k, (∀ i, i < k → ¬ p i) → blwN p k = 0
  | 0, _ => rfl
  | k + 1, h => by rw [blwN_s, if_neg (h k (Nat.lt_succ_self k)), blw_0 p k (fun i hi => h i (by omega))]
theorem blw_eq {n h : Nat} {kb K : Nat → Nat} {fp : Nat → Int32} (rp : Rp n h kb fp) {j v k : Nat} (hj : j < 2 ^ 31) (hk : k < n) (h1 : fp (10 + k) = nI j) (h2 : fp (15 + k) = nI v) : blwN (eqP fp j v) k = 0 :=
  blw_0 _ k (fun i hi z => rp.2 i (by omega) k hk (by omega) (z.1.trans h1.symm) (by rw [z.1]; exact nI_m1 hj) (z.2.trans h2.symm))
theorem blw_add {n : Nat} {K : Nat → Nat} {fp : Nat → Int32} (rr : Rr n K fp) (hn5 : n ≤ 5) {j v : Nat} (hv : v < 2 ^ 30) : ∀ k, k ≤ n → blwN (blwP fp j v) k + blwN (eqP fp j v) k = blwN (blwP fp j (v + 1)) k
  | 0, _ => rfl
  | k + 1, hk => by
    have ih := blw_add rr hn5 (j := j) hv k (by omega)
    obtain ⟨m, hm, em⟩ := (rr.2 k (by omega)).1
    rw [blwN_s, blwN_s, blwN_s]
    have l1 : fp (15 + k) < nI v ↔ m < v := by rw [em]; exact nI_ltI (by omega) (by omega)
    have l2 : fp (15 + k) < nI (v + 1) ↔ m < v + 1 := by rw [em]; exact nI_ltI (by omega) (by omega)
    have l3 : fp (15 + k) = nI v ↔ m = v := by rw [em]; exact nI_eq (by omega) (by omega)
    by_cases e : fp (10 + k) = nI j
    · rcases Nat.lt_trichotomy m v with w | w | w
      · rw [if_pos (⟨e, l1.mpr w⟩ : blwP fp j v k), if_neg (fun z : eqP fp j v k => by have := l3.mp z.2; omega), if_pos (⟨e, l2.mpr (by omega)⟩ : blwP fp j (v + 1) k)]; omega
      · rw [if_neg (fun z : blwP fp j v k => by have := l1.mp z.2; omega), if_pos (⟨e, l3.mpr w⟩ : eqP fp j v k), if_pos (⟨e, l2.mpr (by omega)⟩ : blwP fp j (v + 1) k)]; omega
      · rw [if_neg (fun z : blwP fp j v k => by have := l1.mp z.2; omega), if_neg (fun z : eqP fp j v k => by have := l3.mp z.2; omega), if_neg (fun z : blwP fp j (v + 1) k => by have := l2.mp z.2; omega)]; exact ih
    · rw [if_neg (fun z : blwP fp j v k => e z.1), if_neg (fun z : eqP fp j v k => e z.1), if_neg (fun z : blwP fp j (v + 1) k => e z.1)]; exact ih
theorem blw_z {n : Nat} {K : Nat → Nat} {fp : Nat → Int32} (rr : Rr n K fp) (hn5 : n ≤ 5) (j : Nat) : blwN (blwP fp j 0) n = 0 := blw_0 _ n (fun i hi z => by
  obtain ⟨m, hm, em⟩ := (rr.2 i (by omega)).1
  have z2 := z.2
  rw [em] at z2
  exact nI_pos (by omega) z2)
theorem cnt_dn {t i : Nat} (ht : t < 2 ^ 29) (hi : i < 2 ^ 29) : nI t - nI i + (-1) = nI t - nI (i + 1) := by
  have e1 : (-1 : Int32).toInt = -1 := by decide
  have a1 : (nI t - nI i).toInt = (t : Int) - i := pk_sub_toInt (by omega) (by omega)
  have a2 : (nI t - nI (i + 1)).toInt = (t : Int) - ((i + 1 : Nat) : Int) := pk_sub_toInt (by omega) (by omega)
  apply Int32.toInt_inj.mp
  rw [i_add (by rw [a1, e1]; omega) (by rw [a1, e1]; omega), a1, a2, e1]
  omega
theorem fnd_s (p : Nat → Prop) [DecidablePred p] (k i : Nat) : fnd p (k + 1) i = if p i then nI i else fnd p k (i + 1) := rfl

set_option maxHeartbeats 4000000 in
set_option maxRecDepth 100000 in
theorem c_L_asks (l : Launch) (D : va_G) (ct : Nat → ClassId) (hl : l.stackTraces = false) (a : Nat → Nat) (x : Nat → Nat → Int32) (fc fb fp fq fn fl : Nat → Int32) (y : Int32) (M : Nat) (hM4 : M ≤ 10000) (r0 : RE M x fc fb fp fq fn fl) : qM l yL_asks wsL_asks ({ frames := 9, cells := 10, slots := 64, locals := 180 }) D ct [.ref (a 30), .int y, .ref (a 40), .ref (a 42), .ref (a 45)] (wT ct a x fc fb fp fq fn fl) (qD (some (.int 1)) (wT ct a x fc fb fp fq fn fl)) 10 64 := by
  refine q_start (ret := some .boolean) (lv := [(0, .ref (a 30)), (1, .int y), (2, .ref (a 40)), (3, .ref (a 42)), (4, .ref (a 45))]) (by decide +kernel) rfl (Nat.le_of_ble_eq_true rfl) rfl ?_
  intro p e s m args below meth c A Q C hQ hnm
  obtain ⟨n, h, q, b, t, kb, K, S, F, V, ht, r⟩ := r0
  obtain ⟨rh, rl, rr, rp, rc, rs, hbq⟩ := id r
  obtain ⟨hlt, hx4, hc0, hkbs, hlen⟩ := id rh
  obtain ⟨hn5, hx0, hc3, hlow, hall, hhigh⟩ := id rl
  obtain ⟨hq4, hx16, hc4, hcue, hfd, hnam, hnaz⟩ := id rc
  obtain ⟨hx22, hc5, hx21, hc7, hc6, hx23, hfl, hlvr, hlev⟩ := id rs
  obtain ⟨hkb2, hx5, hck⟩ := hkbs h hlt
  have hK : ∀ k, k < n → fp k = nI (K k) ∧ K k < 4 := fun k hk => ⟨(hlow k hk).2.1, (hlow k hk).1⟩
  have hb4 : b ≤ 4 := by omega
  have htB : t < 2 ^ 29 := by omega
  obtain ⟨L, hL⟩ : ∃ L : Nat → Nat, ∀ k, k < 5 → L k ≤ 100 ∧ levN fp fl S F V t k b = nI (L k) := ⟨fun k => (levN fp fl S F V t k b).toNatClampNeg, fun k hk => by obtain ⟨m9, hm9, e9⟩ := lev_rng (fp := fp) hfl hlvr hk; show (levN fp fl S F V t k b).toNatClampNeg ≤ 100 ∧ _ = nI (levN fp fl S F V t k b).toNatClampNeg; rw [e9, nI_clamp (by omega)]; exact ⟨hm9, rfl⟩⟩
  have hsh : ∀ k, k < n → L k ≤ 100 ∧ shX x k = nI (L k) := fun k hk => ⟨(hL k (by omega)).1, (sh_eq rl rr rp rh rc rs hbq (by omega) hk).trans (hL k (by omega)).2⟩
  have hwl : ∀ k, k < 5 → wlX x k = wanN fl S F V t k b := fun k hk => wl_eq rc rs hbq (by omega) hk
  refine q_iconst (v := nI 0) (pc2 := 1) C dL_asks_0 (by decide) rfl ?_
  refine q_istore (lv' := [(5, .int (nI 0)), (0, .ref (a 30)), (1, .int y), (2, .ref (a 40)), (3, .ref (a 42)), (4, .ref (a 45))]) (pc2 := 3) C dL_asks_1 (by decide) rfl rfl ?_
  refine q_iconst (v := nI 4) (pc2 := 4) C dL_asks_3 (by decide) rfl ?_
  refine q_newa (atype := .int) (ty := .int) (n := nI 4) (pc2 := 6) (N' := 4) (x := (4, .inl (fun _ => 0))) (c2 := 1) (s2 := 4) C (C.w (.arrayClass .int) (by decide +kernel)) rfl 0 rfl ra_int (fun _ => rfl) (by decide) (by decide) (Nat.le_of_ble_eq_true rfl) (Nat.le_of_ble_eq_true rfl) (Nat.le_of_ble_eq_true rfl) dL_asks_4 rfl rfl rfl (fun o => ?_)
  refine q_eqw (ws' := (wU ct a o 4 (fun _ => 0) x fc fb fp fq fn fl)) (wU_of _ _ _ _ _ _ _ _ _ _ _ _) ?_
  refine q_astore (lv' := [(6, .ref o), (5, .int (nI 0)), (0, .ref (a 30)), (1, .int y), (2, .ref (a 40)), (3, .ref (a 42)), (4, .ref (a 45))]) (pc2 := 8) C dL_asks_6 (by decide) rfl rfl ?_
  refine q_iconst (v := nI 0) (pc2 := 9) C dL_asks_8 (by decide) rfl ?_
  refine q_istore (lv' := [(7, .int (nI 0)), (6, .ref o), (5, .int (nI 0)), (0, .ref (a 30)), (1, .int y), (2, .ref (a 40)), (3, .ref (a 42)), (4, .ref (a 45))]) (pc2 := 11) C dL_asks_9 (by decide) rfl rfl ?_
  refine q_lv (lv' := [(7, .int (nI 0)), (6, .ref o), (5, .int (nI 0)), (4, .ref (a 45)), (3, .ref (a 42)), (2, .ref (a 40)), (1, .int y), (0, .ref (a 30))]) [0, 1, 2, 7, 6, 5, 4, 3] rfl ?_
  refine (lp_up (P := fun k8 => ∀ (g1 : Nat → Int32), (∀ c, c < 4 → g1 c = ldG fp K L k8 c) → Cf p l e ({ frames := 9, cells := 10, slots := 64, locals := 180 }) s m args below meth c D A 15 1 4 Q 11 [(7, .int (nI k8)), (6, .ref o), (5, .int (sumf (fun k6 => if nI 29 < fp (35 + k6) then (nI 1 <<< (nI k6 &&& 31) : Int32) else nI 0) k8)), (4, .ref (a 45)), (3, .ref (a 42)), (2, .ref (a 40)), (1, .int y), (0, .ref (a 30))] [] (wU ct a o 4 g1 x fc fb fp fq fn fl)) n (fun k8 hk8 ihk8 => ?_) ?_ : ∀ (g1 : Nat → Int32), (∀ c, c < 4 → g1 c = ldG fp K L 0 c) → Cf p l e ({ frames := 9, cells := 10, slots := 64, locals := 180 }) s m args below meth c D A 15 1 4 Q 11 [(7, .int (nI 0)), (6, .ref o), (5, .int (sumf (fun k6 => if nI 29 < fp (35 + k6) then (nI 1 <<< (nI k6 &&& 31) : Int32) else nI 0) 0)), (4, .ref (a 45)), (3, .ref (a 42)), (2, .ref (a 40)), (1, .int y), (0, .ref (a 30))] [] (wU ct a o 4 g1 x fc fb fp fq fn fl)) _ (fun c _ => rfl)
  · intro g1 hyk8
    refine q_iload (pc2 := 13) C 0 dL_asks_11 rfl rfl ?_
    refine q_aload_n (pc2 := 14) C 5 dL_asks_13 rfl rfl rfl ?_
    refine q_iconst (v := nI 3) (pc2 := 15) C dL_asks_14 (by decide) rfl ?_
    refine q_iald (q0 := 26) (f := fc) (pc2 := 16) C 3 (wU_g0 ct a o 4 g1 x fc fb fp fq fn fl) rfl (rfl) (by decide) (by decide) dL_asks_15 rfl ?_
    refine q_eqi (y := nI n) (hc3) ?_
    refine q_icmp_gt (tgt := 332) (pc2 := 19) C dL_asks_16 (by decide) rfl (fun h9 => absurd h9 (nI_nlt (a := n) (b := k8) (by omega) (by omega))) (fun _ => ?_)
    refine q_iload (pc2 := 21) C 0 dL_asks_19 rfl rfl ?_
    refine q_aload_n (pc2 := 22) C 5 dL_asks_21 rfl rfl rfl ?_
    refine q_iconst (v := nI 3) (pc2 := 23) C dL_asks_22 (by decide) rfl ?_
    refine q_iald (q0 := 26) (f := fc) (pc2 := 24) C 3 (wU_g0 ct a o 4 g1 x fc fb fp fq fn fl) rfl (rfl) (by decide) (by decide) dL_asks_23 rfl ?_
    refine q_eqi (y := nI n) (hc3) ?_
    refine q_icmp_ge (tgt := 31) (pc2 := 27) C dL_asks_24 (by decide) rfl (fun h9 => absurd h9 (nI_ge (a := k8) (b := n) (by omega) (by omega))) (fun _ => ?_)
    refine q_iconst (v := nI 1) (pc2 := 28) C dL_asks_27 (by decide) rfl ?_
    refine q_goto (pc2 := 32) C dL_asks_28 (by decide) ?_
    refine q_istore (lv' := [(8, .int (nI 1)), (7, .int (nI k8)), (6, .ref o), (5, .int (sumf (fun k6 => if nI 29 < fp (35 + k6) then (nI 1 <<< (nI k6 &&& 31) : Int32) else nI 0) k8)), (4, .ref (a 45)), (3, .ref (a 42)), (2, .ref (a 40)), (1, .int y), (0, .ref (a 30))]) (pc2 := 34) C dL_asks_32 (by decide) rfl rfl ?_
    refine q_iload (pc2 := 36) C 0 dL_asks_34 rfl rfl ?_
    refine q_if_eq (tgt := 51) (pc2 := 39) C dL_asks_36 (by decide) rfl (fun h9 => absurd h9 (by decide)) (fun _ => ?_)
    refine q_aload_n (pc2 := 40) C 6 dL_asks_39 rfl rfl rfl ?_
    refine q_aload_n (pc2 := 41) C 5 dL_asks_40 rfl rfl rfl ?_
    refine q_aload (pc2 := 43) C 4 dL_asks_41 rfl rfl ?_
    refine q_iload (pc2 := 45) C 1 dL_asks_43 rfl rfl ?_
    refine q_NS_wU (pc2 := 48) (As := [.ref (a 40), .ref (a 42), .ref (a 45), .int (nI k8)]) (st := []) (st2 := [.int (levN fp fl S F V t k8 b)]) C (c_L_level l D ct a fc fb fp fq fn fl S F V b t hfl hb4 (by omega) hc5 hc7 k8 (by omega)) (va_cwS 4 C.w gL_asks_L_level rfl rfl rfl (by decide +kernel) ⟨Nat.le_of_ble_eq_true rfl, Nat.le_of_ble_eq_true rfl⟩) dL_asks_45 rfl rfl (Nat.le_of_ble_eq_true rfl) ⟨Nat.le_of_ble_eq_true rfl, Nat.le_of_ble_eq_true rfl⟩ rfl rfl ?_
    refine q_goto (pc2 := 53) C dL_asks_48 (by decide) ?_
    refine q_eqi (y := nI (L k8)) ((hL k8 (by omega)).2) ?_
    refine q_istore (lv' := [(9, .int (nI (L k8))), (8, .int (nI 1)), (7, .int (nI k8)), (6, .ref o), (5, .int (sumf (fun k6 => if nI 29 < fp (35 + k6) then (nI 1 <<< (nI k6 &&& 31) : Int32) else nI 0) k8)), (4, .ref (a 45)), (3, .ref (a 42)), (2, .ref (a 40)), (1, .int y), (0, .ref (a 30))]) (pc2 := 55) C dL_asks_53 (by decide) rfl rfl ?_
    refine q_iload (pc2 := 57) C 1 dL_asks_55 rfl rfl ?_
    refine q_if_eq (tgt := 78) (pc2 := 60) C dL_asks_57 (by decide) rfl (fun h9 => absurd h9 (by decide)) (fun _ => ?_)
    refine q_aload_n (pc2 := 61) C 7 dL_asks_60 rfl rfl rfl ?_
    refine q_aload (pc2 := 63) C 5 dL_asks_61 rfl rfl ?_
    refine q_iload (pc2 := 65) C 2 dL_asks_63 rfl rfl ?_
    refine q_aload_n (pc2 := 66) C 7 dL_asks_65 rfl rfl rfl ?_
    refine q_iconst (v := nI 5) (pc2 := 67) C dL_asks_66 (by decide) rfl ?_
    refine q_iald (q0 := 26) (f := fc) (pc2 := 68) C 5 (wU_g0 ct a o 4 g1 x fc fb fp fq fn fl) rfl (rfl) (by decide) (by decide) dL_asks_67 rfl ?_
    refine q_eqi (y := nI b) (hc5) ?_
    refine q_aload_n (pc2 := 69) C 7 dL_asks_68 rfl rfl rfl ?_
    refine q_bipush (v := nI 7) (pc2 := 71) C dL_asks_69 (by decide) rfl ?_
    refine q_iald (q0 := 26) (f := fc) (pc2 := 72) C 7 (wU_g0 ct a o 4 g1 x fc fb fp fq fn fl) rfl (rfl) (by decide) (by decide) dL_asks_71 rfl ?_
    refine q_eqi (y := nI t) (hc7) ?_
    refine q_NS_wU (pc2 := 75) (As := [.ref (a 40), .ref (a 45), .int (nI k8), .int (nI b), .int (nI t)]) (st := []) (st2 := [.int (wanN fl S F V t k8 b)]) C (c_L_wanted l D ct a fc fb fp fq fn fl S F V b t hfl hb4 (by omega) k8 (by omega)) (va_cwS 5 C.w gL_asks_L_wanted rfl rfl rfl (by decide +kernel) ⟨Nat.le_of_ble_eq_true rfl, Nat.le_of_ble_eq_true rfl⟩) dL_asks_72 rfl rfl (Nat.le_of_ble_eq_true rfl) ⟨Nat.le_of_ble_eq_true rfl, Nat.le_of_ble_eq_true rfl⟩ rfl rfl ?_
    refine q_goto (pc2 := 80) C dL_asks_75 (by decide) ?_
    refine q_istore (lv' := [(10, .int (wanN fl S F V t k8 b)), (9, .int (nI (L k8))), (8, .int (nI 1)), (7, .int (nI k8)), (6, .ref o), (5, .int (sumf (fun k6 => if nI 29 < fp (35 + k6) then (nI 1 <<< (nI k6 &&& 31) : Int32) else nI 0) k8)), (4, .ref (a 45)), (3, .ref (a 42)), (2, .ref (a 40)), (1, .int y), (0, .ref (a 30))]) (pc2 := 82) C dL_asks_80 (by decide) rfl rfl ?_
    refine q_aload_n (pc2 := 83) C 10 dL_asks_82 rfl rfl rfl ?_
    refine q_iconst (v := nI 2) (pc2 := 84) C dL_asks_83 (by decide) rfl ?_
    refine q_iload (pc2 := 86) C 3 dL_asks_84 rfl rfl ?_
    refine q_iconst (v := nI 0) (pc2 := 87) C dL_asks_86 (by decide) rfl ?_
    have hM := c_X3_where l hl D ct a x n hx0 (by omega)  (nI k8)
    rw [hx0, nI_clamp (show k8 < 2 ^ 31 by omega)] at hM
    refine q_Hok_wU (pc2 := 90) (As := [.ref (a 30), .int (nI 2), .int (nI k8), .int (nI 0)]) (st := []) (st2 := [.int (if x 9 k8 ≠ -1 then 1000 * x 9 k8 + x 11 k8 else -1)]) (x' := x) C (c_L_of2 l D ct a x _ (nI k8) (nI 0) _ _ hM) (if_pos (show 0 ≤ nI k8 ∧ nI k8 < nI n from ⟨nI_pos' (by omega), nI_lt (by omega) (by omega)⟩)) (vx_cwSW 4 C.w gL_asks_L_of rfl rfl rfl (by decide +kernel) ⟨Nat.le_of_ble_eq_true rfl, Nat.le_of_ble_eq_true rfl⟩) dL_asks_87 rfl rfl (Nat.le_of_ble_eq_true rfl) ⟨Nat.le_of_ble_eq_true rfl, Nat.le_of_ble_eq_true rfl⟩ rfl rfl ?_
    refine q_iload (pc2 := 92) C 2 dL_asks_90 rfl rfl ?_
    refine q_if_ne (tgt := 100) (pc2 := 95) C dL_asks_92 (by decide) rfl (fun _ => ?_) (fun h9 => absurd h9 (by decide))
    have hj136 : Cf p l e ({ frames := 9, cells := 10, slots := 64, locals := 180 }) s m args below meth c D A 15 1 4 Q 136 [(10, .int (wanN fl S F V t k8 b)), (9, .int (nI (L k8))), (8, .int (nI 1)), (7, .int (nI k8)), (6, .ref o), (5, .int (sumf (fun k6 => if nI 29 < fp (35 + k6) then (nI 1 <<< (nI k6 &&& 31) : Int32) else nI 0) k8)), (4, .ref (a 45)), (3, .ref (a 42)), (2, .ref (a 40)), (1, .int y), (0, .ref (a 30))] [] (wU ct a o 4 g1 x fc fb fp fq fn fl) := by
      refine q_aload_n (pc2 := 137) C 10 dL_asks_136 rfl rfl rfl ?_
      refine q_iconst (v := nI 5) (pc2 := 138) C dL_asks_137 (by decide) rfl ?_
      refine q_iload (pc2 := 140) C 3 dL_asks_138 rfl rfl ?_
      refine q_iconst (v := nI 0) (pc2 := 141) C dL_asks_140 (by decide) rfl ?_
      have hM := c_X3_level l hl D ct a x n hx0 (by omega) q hx16 (by omega) hfd (nI k8)
      rw [hx0, nI_clamp (show k8 < 2 ^ 31 by omega)] at hM
      refine q_Hok_wU (pc2 := 144) (As := [.ref (a 30), .int (nI 5), .int (nI k8), .int (nI 0)]) (st := []) (st2 := [.int (shX x k8)]) (x' := x) C (c_L_of5 l D ct a x _ (nI k8) (nI 0) _ _ hM) (if_pos (show 0 ≤ nI k8 ∧ nI k8 < nI n from ⟨nI_pos' (by omega), nI_lt (by omega) (by omega)⟩)) (vx_cwSW 4 C.w gL_asks_L_of rfl rfl rfl (by decide +kernel) ⟨Nat.le_of_ble_eq_true rfl, Nat.le_of_ble_eq_true rfl⟩) dL_asks_141 rfl rfl (Nat.le_of_ble_eq_true rfl) ⟨Nat.le_of_ble_eq_true rfl, Nat.le_of_ble_eq_true rfl⟩ rfl rfl ?_
      refine q_iload (pc2 := 146) C 1 dL_asks_144 rfl rfl ?_
      refine q_icmp_ne (tgt := 190) (pc2 := 149) C dL_asks_146 (by decide) rfl (fun h9 => absurd ((hsh k8 hk8).2) h9) (fun _ => ?_)
      refine q_aload_n (pc2 := 150) C 10 dL_asks_149 rfl rfl rfl ?_
      refine q_bipush (v := nI 6) (pc2 := 152) C dL_asks_150 (by decide) rfl ?_
      refine q_iload (pc2 := 154) C 3 dL_asks_152 rfl rfl ?_
      refine q_iconst (v := nI 0) (pc2 := 155) C dL_asks_154 (by decide) rfl ?_
      have hM := c_X3_wanted l hl D ct a x n hx0 (by omega) q hx16 (by omega) hfd (nI k8)
      rw [hx0, nI_clamp (show k8 < 2 ^ 31 by omega)] at hM
      refine q_Hok_wU (pc2 := 158) (As := [.ref (a 30), .int (nI 6), .int (nI k8), .int (nI 0)]) (st := []) (st2 := [.int (wlX x k8)]) (x' := x) C (c_L_of6 l D ct a x _ (nI k8) (nI 0) _ _ hM) (if_pos (show 0 ≤ nI k8 ∧ nI k8 < nI n from ⟨nI_pos' (by omega), nI_lt (by omega) (by omega)⟩)) (vx_cwSW 4 C.w gL_asks_L_of rfl rfl rfl (by decide +kernel) ⟨Nat.le_of_ble_eq_true rfl, Nat.le_of_ble_eq_true rfl⟩) dL_asks_155 rfl rfl (Nat.le_of_ble_eq_true rfl) ⟨Nat.le_of_ble_eq_true rfl, Nat.le_of_ble_eq_true rfl⟩ rfl rfl ?_
      refine q_iload (pc2 := 160) C 0 dL_asks_158 rfl rfl ?_
      refine q_icmp_ne (tgt := 190) (pc2 := 163) C dL_asks_160 (by decide) rfl (fun h9 => absurd (hwl k8 (by omega)) h9) (fun _ => ?_)
      have hj192 : Cf p l e ({ frames := 9, cells := 10, slots := 64, locals := 180 }) s m args below meth c D A 15 1 4 Q 192 [(10, .int (wanN fl S F V t k8 b)), (9, .int (nI (L k8))), (8, .int (nI 1)), (7, .int (nI k8)), (6, .ref o), (5, .int (sumf (fun k6 => if nI 29 < fp (35 + k6) then (nI 1 <<< (nI k6 &&& 31) : Int32) else nI 0) k8)), (4, .ref (a 45)), (3, .ref (a 42)), (2, .ref (a 40)), (1, .int y), (0, .ref (a 30))] [] (wU ct a o 4 g1 x fc fb fp fq fn fl) := by
        refine q_iload (pc2 := 194) C 2 dL_asks_192 rfl rfl ?_
        refine q_if_eq (tgt := 326) (pc2 := 197) C dL_asks_194 (by decide) rfl (fun h9 => absurd h9 (by decide)) (fun _ => ?_)
        have hj220 : Cf p l e ({ frames := 9, cells := 10, slots := 64, locals := 180 }) s m args below meth c D A 15 1 4 Q 220 [(10, .int (wanN fl S F V t k8 b)), (9, .int (nI (L k8))), (8, .int (nI 1)), (7, .int (nI k8)), (6, .ref o), (5, .int (sumf (fun k6 => if nI 29 < fp (35 + k6) then (nI 1 <<< (nI k6 &&& 31) : Int32) else nI 0) k8)), (4, .ref (a 45)), (3, .ref (a 42)), (2, .ref (a 40)), (1, .int y), (0, .ref (a 30))] [.int (sumf (fun k6 => if nI 29 < fp (35 + k6) then (nI 1 <<< (nI k6 &&& 31) : Int32) else nI 0) (k8 + 1))] (wU ct a o 4 g1 x fc fb fp fq fn fl) := by
          refine q_istore (lv' := [(5, .int (sumf (fun k6 => if nI 29 < fp (35 + k6) then (nI 1 <<< (nI k6 &&& 31) : Int32) else nI 0) (k8 + 1))), (10, .int (wanN fl S F V t k8 b)), (9, .int (nI (L k8))), (8, .int (nI 1)), (7, .int (nI k8)), (6, .ref o), (4, .ref (a 45)), (3, .ref (a 42)), (2, .ref (a 40)), (1, .int y), (0, .ref (a 30))]) (pc2 := 222) C dL_asks_220 (by decide) rfl rfl ?_
          have hK4 := (hK k8 hk8).2
          have hj266 : Cf p l e ({ frames := 9, cells := 10, slots := 64, locals := 180 }) s m args below meth c D A 15 1 4 Q 266 [(5, .int (sumf (fun k6 => if nI 29 < fp (35 + k6) then (nI 1 <<< (nI k6 &&& 31) : Int32) else nI 0) (k8 + 1))), (10, .int (wanN fl S F V t k8 b)), (9, .int (nI (L k8))), (8, .int (nI 1)), (7, .int (nI k8)), (6, .ref o), (4, .ref (a 45)), (3, .ref (a 42)), (2, .ref (a 40)), (1, .int y), (0, .ref (a 30))] [.int (nI (wtN (K k8)))] (wU ct a o 4 g1 x fc fb fp fq fn fl) := by
            refine q_istore (lv' := [(11, .int (nI (wtN (K k8)))), (5, .int (sumf (fun k6 => if nI 29 < fp (35 + k6) then (nI 1 <<< (nI k6 &&& 31) : Int32) else nI 0) (k8 + 1))), (10, .int (wanN fl S F V t k8 b)), (9, .int (nI (L k8))), (8, .int (nI 1)), (7, .int (nI k8)), (6, .ref o), (4, .ref (a 45)), (3, .ref (a 42)), (2, .ref (a 40)), (1, .int y), (0, .ref (a 30))]) (pc2 := 268) C dL_asks_266 (by decide) rfl rfl ?_
            rcases (rr.1 k8 hk8).2.2 with e25 | ⟨m4, hm4, e25⟩
            · skip
              refine q_aload (pc2 := 270) C 6 dL_asks_268 rfl rfl ?_
              refine q_aload_n (pc2 := 271) C 8 dL_asks_270 rfl rfl rfl ?_
              refine q_bipush (v := nI 25) (pc2 := 273) C dL_asks_271 (by decide) rfl ?_
              refine q_iload (pc2 := 275) C 5 dL_asks_273 rfl rfl ?_
              refine q_iadd (v := nI (25 + k8)) (pc2 := 276) C dL_asks_275 (nI_add 25 k8) rfl ?_
              refine q_iald (q0 := 28) (f := fp) (pc2 := 277) C (25 + k8) (wU_g2 ct a o 4 g1 x fc fb fp fq fn fl) rfl (rfl) (by omega) (by decide) dL_asks_276 rfl ?_
              refine q_eqi (y := (-1)) (e25) ?_
              refine q_if_ge (tgt := 284) (pc2 := 280) C dL_asks_277 (by decide) rfl (fun h9 => absurd h9 (by decide)) (fun _ => ?_)
              refine q_iconst (v := nI 0) (pc2 := 281) C dL_asks_280 (by decide) rfl ?_
              refine q_goto (pc2 := 291) C dL_asks_281 (by decide) ?_
              refine q_dup2 (pc2 := 292) C dL_asks_291 rfl rfl rfl ?_
              refine q_iald (q0 := 32) (f := g1) (pc2 := 293) C 0 (wU_g6 ct a o 4 g1 x fc fb fp fq fn fl) rfl (rfl) (by decide) (by decide) dL_asks_292 rfl ?_
              refine q_eqi (y := (ldG fp K L k8 0)) (hyk8 0 (by decide)) ?_
              refine q_aload_n (pc2 := 294) C 8 dL_asks_293 rfl rfl rfl ?_
              refine q_bipush (v := nI 25) (pc2 := 296) C dL_asks_294 (by decide) rfl ?_
              refine q_iload (pc2 := 298) C 5 dL_asks_296 rfl rfl ?_
              refine q_iadd (v := nI (25 + k8)) (pc2 := 299) C dL_asks_298 (nI_add 25 k8) rfl ?_
              refine q_iald (q0 := 28) (f := fp) (pc2 := 300) C (25 + k8) (wU_g2 ct a o 4 g1 x fc fb fp fq fn fl) rfl (rfl) (by omega) (by decide) dL_asks_299 rfl ?_
              refine q_eqi (y := (-1)) (e25) ?_
              refine q_if_ge (tgt := 307) (pc2 := 303) C dL_asks_300 (by decide) rfl (fun h9 => absurd h9 (by decide)) (fun _ => ?_)
              refine q_iconst (v := nI 0) (pc2 := 304) C dL_asks_303 (by decide) rfl ?_
              refine q_goto (pc2 := 324) C dL_asks_304 (by decide) ?_
              refine q_iadd (v := ((ldG fp K L k8 0) + nI 0)) (pc2 := 325) C dL_asks_324 (rfl) rfl ?_
              refine q_iast (q0 := 32) (f := g1) (ws' := (wU ct a o 4 (upd g1 0 ((ldG fp K L k8 0) + nI 0)) x fc fb fp fq fn fl)) (pc2 := 326) C 0 (wU_g6 ct a o 4 g1 x fc fb fp fq fn fl) rfl (rfl) (by decide) (by decide) (wU_a6 ct a o 4 g1 x fc fb fp fq fn fl (upd g1 0 ((ldG fp K L k8 0) + nI 0))) dL_asks_325 rfl ?_
              refine q_iinc (v := nI (k8 + 1)) (lv' := [(7, .int (nI (k8 + 1))), (11, .int (nI (wtN (K k8)))), (5, .int (sumf (fun k6 => if nI 29 < fp (35 + k6) then (nI 1 <<< (nI k6 &&& 31) : Int32) else nI 0) (k8 + 1))), (10, .int (wanN fl S F V t k8 b)), (9, .int (nI (L k8))), (8, .int (nI 1)), (6, .ref o), (4, .ref (a 45)), (3, .ref (a 42)), (2, .ref (a 40)), (1, .int y), (0, .ref (a 30))]) (pc2 := 329) C 5 dL_asks_326 rfl (show nI k8 + Int32.ofInt 1 = nI (k8 + 1) by rw [show Int32.ofInt 1 = nI 1 from by decide]; exact nI_add k8 1) (by decide) rfl rfl ?_
              refine q_goto (pc2 := 11) C dL_asks_329 (by decide) ?_
              refine q_lv (lv' := [(7, .int (nI (k8 + 1))), (6, .ref o), (5, .int (sumf (fun k6 => if nI 29 < fp (35 + k6) then (nI 1 <<< (nI k6 &&& 31) : Int32) else nI 0) (k8 + 1))), (4, .ref (a 45)), (3, .ref (a 42)), (2, .ref (a 40)), (1, .int y), (0, .ref (a 30))]) [0, 6, 2, 7, 8, 9, 10, 11] rfl ?_
              exact ihk8 _ (ldG_t0 e25 hyk8)
            · skip
              refine q_aload (pc2 := 270) C 6 dL_asks_268 rfl rfl ?_
              refine q_aload_n (pc2 := 271) C 8 dL_asks_270 rfl rfl rfl ?_
              refine q_bipush (v := nI 25) (pc2 := 273) C dL_asks_271 (by decide) rfl ?_
              refine q_iload (pc2 := 275) C 5 dL_asks_273 rfl rfl ?_
              refine q_iadd (v := nI (25 + k8)) (pc2 := 276) C dL_asks_275 (nI_add 25 k8) rfl ?_
              refine q_iald (q0 := 28) (f := fp) (pc2 := 277) C (25 + k8) (wU_g2 ct a o 4 g1 x fc fb fp fq fn fl) rfl (rfl) (by omega) (by decide) dL_asks_276 rfl ?_
              refine q_eqi (y := nI m4) (e25) ?_
              refine q_if_ge (tgt := 284) (pc2 := 280) C dL_asks_277 (by decide) rfl (fun _ => ?_) (fun h9 => absurd (nI_le (a := 0) (b := m4) (by omega) (by omega)) h9)
              refine q_aload_n (pc2 := 285) C 8 dL_asks_284 rfl rfl rfl ?_
              refine q_bipush (v := nI 25) (pc2 := 287) C dL_asks_285 (by decide) rfl ?_
              refine q_iload (pc2 := 289) C 5 dL_asks_287 rfl rfl ?_
              refine q_iadd (v := nI (25 + k8)) (pc2 := 290) C dL_asks_289 (nI_add 25 k8) rfl ?_
              refine q_iald (q0 := 28) (f := fp) (pc2 := 291) C (25 + k8) (wU_g2 ct a o 4 g1 x fc fb fp fq fn fl) rfl (rfl) (by omega) (by decide) dL_asks_290 rfl ?_
              refine q_eqi (y := nI m4) (e25) ?_
              refine q_dup2 (pc2 := 292) C dL_asks_291 rfl rfl rfl ?_
              refine q_iald (q0 := 32) (f := g1) (pc2 := 293) C m4 (wU_g6 ct a o 4 g1 x fc fb fp fq fn fl) rfl (rfl) (by omega) (by decide) dL_asks_292 rfl ?_
              refine q_eqi (y := (ldG fp K L k8 m4)) (hyk8 m4 hm4) ?_
              refine q_aload_n (pc2 := 294) C 8 dL_asks_293 rfl rfl rfl ?_
              refine q_bipush (v := nI 25) (pc2 := 296) C dL_asks_294 (by decide) rfl ?_
              refine q_iload (pc2 := 298) C 5 dL_asks_296 rfl rfl ?_
              refine q_iadd (v := nI (25 + k8)) (pc2 := 299) C dL_asks_298 (nI_add 25 k8) rfl ?_
              refine q_iald (q0 := 28) (f := fp) (pc2 := 300) C (25 + k8) (wU_g2 ct a o 4 g1 x fc fb fp fq fn fl) rfl (rfl) (by omega) (by decide) dL_asks_299 rfl ?_
              refine q_eqi (y := nI m4) (e25) ?_
              refine q_if_ge (tgt := 307) (pc2 := 303) C dL_asks_300 (by decide) rfl (fun _ => ?_) (fun h9 => absurd (nI_le (a := 0) (b := m4) (by omega) (by omega)) h9)
              have hWL : wtN (K k8) * L k8 ≤ 1000 * 100 := Nat.mul_le_mul (wtN_le (K k8)) (hL k8 (by omega)).1
              refine q_iload (pc2 := 309) C 0 dL_asks_307 rfl rfl ?_
              refine q_iload (pc2 := 311) C 3 dL_asks_309 rfl rfl ?_
              refine q_imul (v := nI ((wtN (K k8)) * (L k8))) (pc2 := 312) C dL_asks_311 (pk_mul (wtN (K k8)) (L k8)) rfl ?_
              refine q_iload (pc2 := 314) C 0 dL_asks_312 rfl rfl ?_
              refine q_iload (pc2 := 316) C 3 dL_asks_314 rfl rfl ?_
              refine q_imul (v := nI ((wtN (K k8)) * (L k8))) (pc2 := 317) C dL_asks_316 (pk_mul (wtN (K k8)) (L k8)) rfl ?_
              refine q_bipush (v := nI 100) (pc2 := 319) C dL_asks_317 (by decide) rfl ?_
              refine q_irem (v := nI (((wtN (K k8)) * (L k8)) % 100)) (pc2 := 320) C dL_asks_319 (by decide) (pk_rem (by omega) (by decide) (by decide)) rfl ?_
              refine q_isub (v := nI (((wtN (K k8)) * (L k8)) - ((wtN (K k8)) * (L k8)) % 100)) (pc2 := 321) C dL_asks_320 (pk_sub (Nat.mod_le _ _)) rfl ?_
              refine q_bipush (v := nI 100) (pc2 := 323) C dL_asks_321 (by decide) rfl ?_
              refine q_idiv (v := nI (wtN (K k8) * L k8 / 100)) (pc2 := 324) C dL_asks_323 (by decide) (by rw [pk_div (by omega) (by decide) (by decide), show (((wtN (K k8)) * (L k8)) - ((wtN (K k8)) * (L k8)) % 100) / 100 = wtN (K k8) * L k8 / 100 by omega]) rfl ?_
              refine q_iadd (v := ((ldG fp K L k8 m4) + nI (wtN (K k8) * L k8 / 100))) (pc2 := 325) C dL_asks_324 (rfl) rfl ?_
              refine q_iast (q0 := 32) (f := g1) (ws' := (wU ct a o 4 (upd g1 m4 ((ldG fp K L k8 m4) + nI (wtN (K k8) * L k8 / 100))) x fc fb fp fq fn fl)) (pc2 := 326) C m4 (wU_g6 ct a o 4 g1 x fc fb fp fq fn fl) rfl (rfl) (by omega) (by decide) (wU_a6 ct a o 4 g1 x fc fb fp fq fn fl (upd g1 m4 ((ldG fp K L k8 m4) + nI (wtN (K k8) * L k8 / 100)))) dL_asks_325 rfl ?_
              refine q_iinc (v := nI (k8 + 1)) (lv' := [(7, .int (nI (k8 + 1))), (11, .int (nI (wtN (K k8)))), (5, .int (sumf (fun k6 => if nI 29 < fp (35 + k6) then (nI 1 <<< (nI k6 &&& 31) : Int32) else nI 0) (k8 + 1))), (10, .int (wanN fl S F V t k8 b)), (9, .int (nI (L k8))), (8, .int (nI 1)), (6, .ref o), (4, .ref (a 45)), (3, .ref (a 42)), (2, .ref (a 40)), (1, .int y), (0, .ref (a 30))]) (pc2 := 329) C 5 dL_asks_326 rfl (show nI k8 + Int32.ofInt 1 = nI (k8 + 1) by rw [show Int32.ofInt 1 = nI 1 from by decide]; exact nI_add k8 1) (by decide) rfl rfl ?_
              refine q_goto (pc2 := 11) C dL_asks_329 (by decide) ?_
              refine q_lv (lv' := [(7, .int (nI (k8 + 1))), (6, .ref o), (5, .int (sumf (fun k6 => if nI 29 < fp (35 + k6) then (nI 1 <<< (nI k6 &&& 31) : Int32) else nI 0) (k8 + 1))), (4, .ref (a 45)), (3, .ref (a 42)), (2, .ref (a 40)), (1, .int y), (0, .ref (a 30))]) [0, 6, 2, 7, 8, 9, 10, 11] rfl ?_
              exact ihk8 _ (ldG_t1 hm4 e25 hyk8)
          refine q_aload_n (pc2 := 223) C 7 dL_asks_222 rfl rfl rfl ?_
          refine q_iload (pc2 := 225) C 4 dL_asks_223 rfl rfl ?_
          refine q_iald (q0 := 28) (f := fp) (pc2 := 226) C k8 (wU_g2 ct a o 4 g1 x fc fb fp fq fn fl) rfl (rfl) (by omega) (by decide) dL_asks_225 rfl ?_
          refine q_eqi (y := nI (K k8)) ((hK k8 hk8).1) ?_
          refine q_if_ne (tgt := 235) (pc2 := 229) C dL_asks_226 (by decide) rfl (fun c226 => ?_) (fun c226 => ?_)
          · skip
            have k226 : (K k8) ≠ 0 := fun z => c226 ((nI_eq (a := (K k8)) (b := 0) (by omega) (by omega)).mpr z)
            refine q_aload_n (pc2 := 236) C 7 dL_asks_235 rfl rfl rfl ?_
            refine q_iload (pc2 := 238) C 4 dL_asks_236 rfl rfl ?_
            refine q_iald (q0 := 28) (f := fp) (pc2 := 239) C k8 (wU_g2 ct a o 4 g1 x fc fb fp fq fn fl) rfl (rfl) (by omega) (by decide) dL_asks_238 rfl ?_
            refine q_eqi (y := nI (K k8)) ((hK k8 hk8).1) ?_
            refine q_iconst (v := nI 1) (pc2 := 240) C dL_asks_239 (by decide) rfl ?_
            refine q_icmp_ne (tgt := 249) (pc2 := 243) C dL_asks_240 (by decide) rfl (fun c240 => ?_) (fun c240 => ?_)
            · skip
              have k240 : (K k8) ≠ 1 := fun z => c240 ((nI_eq (a := (K k8)) (b := 1) (by omega) (by omega)).mpr z)
              refine q_aload_n (pc2 := 250) C 7 dL_asks_249 rfl rfl rfl ?_
              refine q_iload (pc2 := 252) C 4 dL_asks_250 rfl rfl ?_
              refine q_iald (q0 := 28) (f := fp) (pc2 := 253) C k8 (wU_g2 ct a o 4 g1 x fc fb fp fq fn fl) rfl (rfl) (by omega) (by decide) dL_asks_252 rfl ?_
              refine q_eqi (y := nI (K k8)) ((hK k8 hk8).1) ?_
              refine q_iconst (v := nI 2) (pc2 := 254) C dL_asks_253 (by decide) rfl ?_
              refine q_icmp_ne (tgt := 263) (pc2 := 257) C dL_asks_254 (by decide) rfl (fun c254 => ?_) (fun c254 => ?_)
              · skip
                have k254 : (K k8) ≠ 2 := fun z => c254 ((nI_eq (a := (K k8)) (b := 2) (by omega) (by omega)).mpr z)
                refine q_sipush (v := nI 800) (pc2 := 266) C dL_asks_263 (by decide) rfl ?_
                refine q_eqi (y := nI (wtN (K k8))) (by unfold wtN; rw [if_neg k226, if_neg k240, if_neg k254]) ?_
                exact hj266
              · skip
                have k254 : (K k8) = 2 := (nI_eq (a := (K k8)) (b := 2) (by omega) (by omega)).mp (c254)
                refine q_sipush (v := nI 500) (pc2 := 260) C dL_asks_257 (by decide) rfl ?_
                refine q_goto (pc2 := 266) C dL_asks_260 (by decide) ?_
                refine q_eqi (y := nI (wtN (K k8))) (by unfold wtN; rw [if_neg k226, if_neg k240, if_pos k254]) ?_
                exact hj266
            · skip
              have k240 : (K k8) = 1 := (nI_eq (a := (K k8)) (b := 1) (by omega) (by omega)).mp (c240)
              refine q_sipush (v := nI 750) (pc2 := 246) C dL_asks_243 (by decide) rfl ?_
              refine q_goto (pc2 := 266) C dL_asks_246 (by decide) ?_
              refine q_eqi (y := nI (wtN (K k8))) (by unfold wtN; rw [if_neg k226, if_pos k240]) ?_
              exact hj266
          · skip
            have k226 : (K k8) = 0 := (nI_eq (a := (K k8)) (b := 0) (by omega) (by omega)).mp (c226)
            refine q_sipush (v := nI 1000) (pc2 := 232) C dL_asks_229 (by decide) rfl ?_
            refine q_goto (pc2 := 266) C dL_asks_232 (by decide) ?_
            refine q_eqi (y := nI (wtN (K k8))) (by unfold wtN; rw [if_pos k226]) ?_
            exact hj266
        refine q_iload (pc2 := 199) C 5 dL_asks_197 rfl rfl ?_
        refine q_aload_n (pc2 := 200) C 7 dL_asks_199 rfl rfl rfl ?_
        refine q_bipush (v := nI 35) (pc2 := 202) C dL_asks_200 (by decide) rfl ?_
        refine q_iload (pc2 := 204) C 3 dL_asks_202 rfl rfl ?_
        refine q_iadd (v := nI (35 + k8)) (pc2 := 205) C dL_asks_204 (nI_add 35 k8) rfl ?_
        refine q_iald (q0 := 28) (f := fp) (pc2 := 206) C (35 + k8) (wU_g2 ct a o 4 g1 x fc fb fp fq fn fl) rfl (rfl) (by omega) (by decide) dL_asks_205 rfl ?_
        refine q_bipush (v := nI 29) (pc2 := 208) C dL_asks_206 (by decide) rfl ?_
        refine q_icmp_le (tgt := 218) (pc2 := 211) C dL_asks_208 (by decide) rfl (fun c208 => ?_) (fun c208 => ?_)
        · skip
          refine q_iconst (v := nI 0) (pc2 := 219) C dL_asks_218 (by decide) rfl ?_
          refine q_iadd (v := (sumf (fun k6 => if nI 29 < fp (35 + k6) then (nI 1 <<< (nI k6 &&& 31) : Int32) else nI 0) (k8 + 1))) (pc2 := 220) C dL_asks_219 (by rw [sumf_s, if_neg (Int32.not_lt.mpr c208)]) rfl ?_
          exact hj220
        · skip
          refine q_iconst (v := nI 1) (pc2 := 212) C dL_asks_211 (by decide) rfl ?_
          refine q_iload (pc2 := 214) C 3 dL_asks_212 rfl rfl ?_
          refine q_ishl (v := (nI 1 <<< (nI k8 &&& 31))) (pc2 := 215) C dL_asks_214 (rfl) rfl ?_
          refine q_goto (pc2 := 219) C dL_asks_215 (by decide) ?_
          refine q_iadd (v := (sumf (fun k6 => if nI 29 < fp (35 + k6) then (nI 1 <<< (nI k6 &&& 31) : Int32) else nI 0) (k8 + 1))) (pc2 := 220) C dL_asks_219 (by rw [sumf_s, if_pos (Int32.not_le.mp c208)]) rfl ?_
          exact hj220
      refine q_iload (pc2 := 165) C 3 dL_asks_163 rfl rfl ?_
      refine q_iload_n (pc2 := 166) C 9 dL_asks_165 rfl rfl rfl ?_
      refine q_iconst (v := nI 3) (pc2 := 167) C dL_asks_166 (by decide) rfl ?_
      refine q_ishr (v := (y >>> (nI 3 &&& 31))) (pc2 := 168) C dL_asks_167 (rfl) rfl ?_
      refine q_bipush (v := nI 6) (pc2 := 170) C dL_asks_168 (by decide) rfl ?_
      refine q_some (pc2 := 173) C (v := (y >>> (nI 3 &&& 31))) 6 (by omega) (by omega) (va_cwS 2 C.w gL_asks_L_some rfl rfl rfl (by decide +kernel) ⟨Nat.le_of_ble_eq_true rfl, Nat.le_of_ble_eq_true rfl⟩) dL_asks_170 rfl ⟨Nat.le_of_ble_eq_true rfl, Nat.le_of_ble_eq_true rfl⟩ (Nat.le_of_ble_eq_true rfl) (fun m170 hm170 => ?_)
      refine q_icmp_ne (tgt := 192) (pc2 := 176) C dL_asks_173 (by decide) rfl (fun c173 => ?_) (fun c173 => ?_)
      · skip
        have k173 : k8 ≠ m170 := fun z => c173 ((nI_eq (a := k8) (b := m170) (by omega) (by omega)).mpr z)
        exact hj192
      · skip
        have k173 : k8 = m170 := (nI_eq (a := k8) (b := m170) (by omega) (by omega)).mp (c173)
        refine q_aload_n (pc2 := 177) C 10 dL_asks_176 rfl rfl rfl ?_
        refine q_bipush (v := nI 7) (pc2 := 179) C dL_asks_177 (by decide) rfl ?_
        refine q_iload (pc2 := 181) C 3 dL_asks_179 rfl rfl ?_
        refine q_iconst (v := nI 0) (pc2 := 182) C dL_asks_181 (by decide) rfl ?_
        have hM := c_X3_wantedByCues l hl D ct a x n hx0 (by omega) q hx16 (by omega) hfd (nI k8)
        rw [hx0, nI_clamp (show k8 < 2 ^ 31 by omega)] at hM
        refine q_Hok_wU (pc2 := 185) (As := [.ref (a 30), .int (nI 7), .int (nI k8), .int (nI 0)]) (st := []) (st2 := [.int (wlX x k8)]) (x' := x) C (c_L_of7 l D ct a x _ (nI k8) (nI 0) _ _ hM) (if_pos (show 0 ≤ nI k8 ∧ nI k8 < nI n from ⟨nI_pos' (by omega), nI_lt (by omega) (by omega)⟩)) (vx_cwSW 4 C.w gL_asks_L_of rfl rfl rfl (by decide +kernel) ⟨Nat.le_of_ble_eq_true rfl, Nat.le_of_ble_eq_true rfl⟩) dL_asks_182 rfl rfl (Nat.le_of_ble_eq_true rfl) ⟨Nat.le_of_ble_eq_true rfl, Nat.le_of_ble_eq_true rfl⟩ rfl rfl ?_
        refine q_iload (pc2 := 187) C 0 dL_asks_185 rfl rfl ?_
        refine q_icmp_eq (tgt := 192) (pc2 := 190) C dL_asks_187 (by decide) rfl (fun _ => ?_) (fun h9 => absurd (hwl k8 (by omega)) h9)
        exact hj192
    refine q_aload_n (pc2 := 101) C 7 dL_asks_100 rfl rfl rfl ?_
    refine q_bipush (v := nI 10) (pc2 := 103) C dL_asks_101 (by decide) rfl ?_
    refine q_iload (pc2 := 105) C 3 dL_asks_103 rfl rfl ?_
    refine q_iadd (v := nI (10 + k8)) (pc2 := 106) C dL_asks_105 (nI_add 10 k8) rfl ?_
    refine q_iald (q0 := 28) (f := fp) (pc2 := 107) C (10 + k8) (wU_g2 ct a o 4 g1 x fc fb fp fq fn fl) rfl (rfl) (by omega) (by decide) dL_asks_106 rfl ?_
    refine q_if_ge (tgt := 114) (pc2 := 110) C dL_asks_107 (by decide) rfl (fun c107 => ?_) (fun c107 => ?_)
    · skip
      refine q_sipush (v := nI 1000) (pc2 := 117) C dL_asks_114 (by decide) rfl ?_
      refine q_aload_n (pc2 := 118) C 7 dL_asks_117 rfl rfl rfl ?_
      refine q_bipush (v := nI 10) (pc2 := 120) C dL_asks_118 (by decide) rfl ?_
      refine q_iload (pc2 := 122) C 3 dL_asks_120 rfl rfl ?_
      refine q_iadd (v := nI (10 + k8)) (pc2 := 123) C dL_asks_122 (nI_add 10 k8) rfl ?_
      refine q_iald (q0 := 28) (f := fp) (pc2 := 124) C (10 + k8) (wU_g2 ct a o 4 g1 x fc fb fp fq fn fl) rfl (rfl) (by omega) (by decide) dL_asks_123 rfl ?_
      refine q_imul (v := (nI 1000 * (fp (10 + k8)))) (pc2 := 125) C dL_asks_124 (rfl) rfl ?_
      refine q_aload_n (pc2 := 126) C 7 dL_asks_125 rfl rfl rfl ?_
      refine q_bipush (v := nI 15) (pc2 := 128) C dL_asks_126 (by decide) rfl ?_
      refine q_iload (pc2 := 130) C 3 dL_asks_128 rfl rfl ?_
      refine q_iadd (v := nI (15 + k8)) (pc2 := 131) C dL_asks_130 (nI_add 15 k8) rfl ?_
      refine q_iald (q0 := 28) (f := fp) (pc2 := 132) C (15 + k8) (wU_g2 ct a o 4 g1 x fc fb fp fq fn fl) rfl (rfl) (by omega) (by decide) dL_asks_131 rfl ?_
      refine q_iadd (v := ((nI 1000 * (fp (10 + k8))) + (fp (15 + k8)))) (pc2 := 133) C dL_asks_132 (rfl) rfl ?_
      refine q_icmp_ne (tgt := 190) (pc2 := 136) C dL_asks_133 (by decide) rfl (fun h9 => absurd ((if_pos (show x 9 k8 ≠ -1 from fun z => absurd (((hlow k8 hk8).2.2.2.2.2.2.1.symm.trans z) ▸ c107 : (0 : Int32) ≤ -1) (by decide))).trans (by rw [(hlow k8 hk8).2.2.2.2.2.2.1, (hall k8 (by omega)).1]; rfl)) h9) (fun _ => ?_)
      exact hj136
    · skip
      refine q_iconst (v := (-1)) (pc2 := 111) C dL_asks_110 (by decide) rfl ?_
      refine q_goto (pc2 := 133) C dL_asks_111 (by decide) ?_
      refine q_icmp_ne (tgt := 190) (pc2 := 136) C dL_asks_133 (by decide) rfl (fun h9 => absurd (if_neg (fun z : x 9 k8 ≠ -1 => (rp.1 k8 hk8).elim (fun w => z ((hlow k8 hk8).2.2.2.2.2.2.1.trans w)) (fun ⟨j7, hj7, w⟩ => c107 (by rw [w]; exact nI_pos' (by omega))))) h9) (fun _ => ?_)
      exact hj136
  · intro g1 hyk8
    refine q_iload (pc2 := 13) C 0 dL_asks_11 rfl rfl ?_
    refine q_aload_n (pc2 := 14) C 5 dL_asks_13 rfl rfl rfl ?_
    refine q_iconst (v := nI 3) (pc2 := 15) C dL_asks_14 (by decide) rfl ?_
    refine q_iald (q0 := 26) (f := fc) (pc2 := 16) C 3 (wU_g0 ct a o 4 g1 x fc fb fp fq fn fl) rfl (rfl) (by decide) (by decide) dL_asks_15 rfl ?_
    refine q_eqi (y := nI n) (hc3) ?_
    refine q_icmp_gt (tgt := 332) (pc2 := 19) C dL_asks_16 (by decide) rfl (fun h9 => absurd h9 (nI_nlt (a := n) (b := n) (by omega) (by omega))) (fun _ => ?_)
    refine q_iload (pc2 := 21) C 0 dL_asks_19 rfl rfl ?_
    refine q_aload_n (pc2 := 22) C 5 dL_asks_21 rfl rfl rfl ?_
    refine q_iconst (v := nI 3) (pc2 := 23) C dL_asks_22 (by decide) rfl ?_
    refine q_iald (q0 := 26) (f := fc) (pc2 := 24) C 3 (wU_g0 ct a o 4 g1 x fc fb fp fq fn fl) rfl (rfl) (by decide) (by decide) dL_asks_23 rfl ?_
    refine q_eqi (y := nI n) (hc3) ?_
    refine q_icmp_ge (tgt := 31) (pc2 := 27) C dL_asks_24 (by decide) rfl (fun _ => ?_) (fun h9 => absurd (nI_le (a := n) (b := n) (by omega) (by omega)) h9)
    refine q_iconst (v := nI 0) (pc2 := 32) C dL_asks_31 (by decide) rfl ?_
    refine q_istore (lv' := [(8, .int (nI 0)), (7, .int (nI n)), (6, .ref o), (5, .int (sumf (fun k6 => if nI 29 < fp (35 + k6) then (nI 1 <<< (nI k6 &&& 31) : Int32) else nI 0) n)), (4, .ref (a 45)), (3, .ref (a 42)), (2, .ref (a 40)), (1, .int y), (0, .ref (a 30))]) (pc2 := 34) C dL_asks_32 (by decide) rfl rfl ?_
    refine q_iload (pc2 := 36) C 0 dL_asks_34 rfl rfl ?_
    refine q_if_eq (tgt := 51) (pc2 := 39) C dL_asks_36 (by decide) rfl (fun _ => ?_) (fun h9 => absurd (by decide) h9)
    refine q_bipush (v := (-101)) (pc2 := 53) C dL_asks_51 (by decide) rfl ?_
    refine q_istore (lv' := [(9, .int (-101)), (8, .int (nI 0)), (7, .int (nI n)), (6, .ref o), (5, .int (sumf (fun k6 => if nI 29 < fp (35 + k6) then (nI 1 <<< (nI k6 &&& 31) : Int32) else nI 0) n)), (4, .ref (a 45)), (3, .ref (a 42)), (2, .ref (a 40)), (1, .int y), (0, .ref (a 30))]) (pc2 := 55) C dL_asks_53 (by decide) rfl rfl ?_
    refine q_iload (pc2 := 57) C 1 dL_asks_55 rfl rfl ?_
    refine q_if_eq (tgt := 78) (pc2 := 60) C dL_asks_57 (by decide) rfl (fun _ => ?_) (fun h9 => absurd (by decide) h9)
    refine q_bipush (v := (-101)) (pc2 := 80) C dL_asks_78 (by decide) rfl ?_
    refine q_istore (lv' := [(10, .int (-101)), (9, .int (-101)), (8, .int (nI 0)), (7, .int (nI n)), (6, .ref o), (5, .int (sumf (fun k6 => if nI 29 < fp (35 + k6) then (nI 1 <<< (nI k6 &&& 31) : Int32) else nI 0) n)), (4, .ref (a 45)), (3, .ref (a 42)), (2, .ref (a 40)), (1, .int y), (0, .ref (a 30))]) (pc2 := 82) C dL_asks_80 (by decide) rfl rfl ?_
    refine q_aload_n (pc2 := 83) C 10 dL_asks_82 rfl rfl rfl ?_
    refine q_iconst (v := nI 2) (pc2 := 84) C dL_asks_83 (by decide) rfl ?_
    refine q_iload (pc2 := 86) C 3 dL_asks_84 rfl rfl ?_
    refine q_iconst (v := nI 0) (pc2 := 87) C dL_asks_86 (by decide) rfl ?_
    have hM := c_X3_where l hl D ct a x n hx0 (by omega)  (nI n)
    rw [hx0, nI_clamp (show n < 2 ^ 31 by omega)] at hM
    refine q_Hno_wU (pc2 := 90) (As := [.ref (a 30), .int (nI 2), .int (nI n), .int (nI 0)]) (st := []) (st2 := [.int (-101)]) (c2 := 2) (s2 := 10) C (c_L_of2 l D ct a x _ (nI n) (nI 0) _ _ hM) (if_neg (fun z : 0 ≤ nI n ∧ nI n < nI n => absurd z.2 (nI_nlt (by omega) (by omega)))) (by decide +kernel) (vx_cwSW 4 C.w gL_asks_L_of rfl rfl rfl (by decide +kernel) ⟨Nat.le_of_ble_eq_true rfl, Nat.le_of_ble_eq_true rfl⟩) dL_asks_87 rfl rfl (Nat.le_of_ble_eq_true rfl) ⟨Nat.le_of_ble_eq_true rfl, Nat.le_of_ble_eq_true rfl⟩ rfl rfl (hcd1I _) rfl rfl ?_
    refine q_iload (pc2 := 92) C 2 dL_asks_90 rfl rfl ?_
    refine q_if_ne (tgt := 100) (pc2 := 95) C dL_asks_92 (by decide) rfl (fun h9 => absurd (by decide) h9) (fun _ => ?_)
    refine q_bipush (v := (-101)) (pc2 := 97) C dL_asks_95 (by decide) rfl ?_
    refine q_goto (pc2 := 133) C dL_asks_97 (by decide) ?_
    refine q_icmp_ne (tgt := 190) (pc2 := 136) C dL_asks_133 (by decide) rfl (fun h9 => absurd (by decide) h9) (fun _ => ?_)
    refine q_aload_n (pc2 := 137) C 10 dL_asks_136 rfl rfl rfl ?_
    refine q_iconst (v := nI 5) (pc2 := 138) C dL_asks_137 (by decide) rfl ?_
    refine q_iload (pc2 := 140) C 3 dL_asks_138 rfl rfl ?_
    refine q_iconst (v := nI 0) (pc2 := 141) C dL_asks_140 (by decide) rfl ?_
    have hM := c_X3_level l hl D ct a x n hx0 (by omega) q hx16 (by omega) hfd (nI n)
    rw [hx0, nI_clamp (show n < 2 ^ 31 by omega)] at hM
    refine q_Hno_wU (pc2 := 144) (As := [.ref (a 30), .int (nI 5), .int (nI n), .int (nI 0)]) (st := []) (st2 := [.int (-101)]) (c2 := 3) (s2 := 16) C (c_L_of5 l D ct a x _ (nI n) (nI 0) _ _ hM) (if_neg (fun z : 0 ≤ nI n ∧ nI n < nI n => absurd z.2 (nI_nlt (by omega) (by omega)))) (by decide +kernel) (vx_cwSW 4 C.w gL_asks_L_of rfl rfl rfl (by decide +kernel) ⟨Nat.le_of_ble_eq_true rfl, Nat.le_of_ble_eq_true rfl⟩) dL_asks_141 rfl rfl (Nat.le_of_ble_eq_true rfl) ⟨Nat.le_of_ble_eq_true rfl, Nat.le_of_ble_eq_true rfl⟩ rfl rfl (hcd1I _) rfl rfl ?_
    refine q_iload (pc2 := 146) C 1 dL_asks_144 rfl rfl ?_
    refine q_icmp_ne (tgt := 190) (pc2 := 149) C dL_asks_146 (by decide) rfl (fun h9 => absurd (by decide) h9) (fun _ => ?_)
    refine q_aload_n (pc2 := 150) C 10 dL_asks_149 rfl rfl rfl ?_
    refine q_bipush (v := nI 6) (pc2 := 152) C dL_asks_150 (by decide) rfl ?_
    refine q_iload (pc2 := 154) C 3 dL_asks_152 rfl rfl ?_
    refine q_iconst (v := nI 0) (pc2 := 155) C dL_asks_154 (by decide) rfl ?_
    have hM := c_X3_wanted l hl D ct a x n hx0 (by omega) q hx16 (by omega) hfd (nI n)
    rw [hx0, nI_clamp (show n < 2 ^ 31 by omega)] at hM
    refine q_Hno_wU (pc2 := 158) (As := [.ref (a 30), .int (nI 6), .int (nI n), .int (nI 0)]) (st := []) (st2 := [.int (-101)]) (c2 := 4) (s2 := 22) C (c_L_of6 l D ct a x _ (nI n) (nI 0) _ _ hM) (if_neg (fun z : 0 ≤ nI n ∧ nI n < nI n => absurd z.2 (nI_nlt (by omega) (by omega)))) (by decide +kernel) (vx_cwSW 4 C.w gL_asks_L_of rfl rfl rfl (by decide +kernel) ⟨Nat.le_of_ble_eq_true rfl, Nat.le_of_ble_eq_true rfl⟩) dL_asks_155 rfl rfl (Nat.le_of_ble_eq_true rfl) ⟨Nat.le_of_ble_eq_true rfl, Nat.le_of_ble_eq_true rfl⟩ rfl rfl (hcd1I _) rfl rfl ?_
    refine q_iload (pc2 := 160) C 0 dL_asks_158 rfl rfl ?_
    refine q_icmp_ne (tgt := 190) (pc2 := 163) C dL_asks_160 (by decide) rfl (fun h9 => absurd (by decide) h9) (fun _ => ?_)
    have hj192 : Cf p l e ({ frames := 9, cells := 10, slots := 64, locals := 180 }) s m args below meth c D A 15 5 28 Q 192 [(10, .int (-101)), (9, .int (-101)), (8, .int (nI 0)), (7, .int (nI n)), (6, .ref o), (5, .int (sumf (fun k6 => if nI 29 < fp (35 + k6) then (nI 1 <<< (nI k6 &&& 31) : Int32) else nI 0) n)), (4, .ref (a 45)), (3, .ref (a 42)), (2, .ref (a 40)), (1, .int y), (0, .ref (a 30))] [] (wU ct a o 4 g1 x fc fb fp fq fn fl) := by
      refine q_iload (pc2 := 194) C 2 dL_asks_192 rfl rfl ?_
      refine q_if_eq (tgt := 326) (pc2 := 197) C dL_asks_194 (by decide) rfl (fun _ => ?_) (fun h9 => absurd (by decide) h9)
      refine q_iinc (v := nI (n + 1)) (lv' := [(7, .int (nI (n + 1))), (10, .int (-101)), (9, .int (-101)), (8, .int (nI 0)), (6, .ref o), (5, .int (sumf (fun k6 => if nI 29 < fp (35 + k6) then (nI 1 <<< (nI k6 &&& 31) : Int32) else nI 0) n)), (4, .ref (a 45)), (3, .ref (a 42)), (2, .ref (a 40)), (1, .int y), (0, .ref (a 30))]) (pc2 := 329) C 3 dL_asks_326 rfl (show nI n + Int32.ofInt 1 = nI (n + 1) by rw [show Int32.ofInt 1 = nI 1 from by decide]; exact nI_add n 1) (by decide) rfl rfl ?_
      refine q_goto (pc2 := 11) C dL_asks_329 (by decide) ?_
      refine q_iload (pc2 := 13) C 0 dL_asks_11 rfl rfl ?_
      refine q_aload_n (pc2 := 14) C 8 dL_asks_13 rfl rfl rfl ?_
      refine q_iconst (v := nI 3) (pc2 := 15) C dL_asks_14 (by decide) rfl ?_
      refine q_iald (q0 := 26) (f := fc) (pc2 := 16) C 3 (wU_g0 ct a o 4 g1 x fc fb fp fq fn fl) rfl (rfl) (by decide) (by decide) dL_asks_15 rfl ?_
      refine q_eqi (y := nI n) (hc3) ?_
      refine q_icmp_gt (tgt := 332) (pc2 := 19) C dL_asks_16 (by decide) rfl (fun _ => ?_) (fun h9 => absurd (nI_lt (a := n) (b := (n + 1)) (by omega) (by omega)) h9)
      refine q_iload_n (pc2 := 333) C 9 dL_asks_332 rfl rfl rfl ?_
      refine q_iconst (v := nI 5) (pc2 := 334) C dL_asks_333 (by decide) rfl ?_
      refine q_some (pc2 := 337) C (v := y) 5 (by omega) (by omega) (va_cwS 2 C.w gL_asks_L_some rfl rfl rfl (by decide +kernel) ⟨Nat.le_of_ble_eq_true rfl, Nat.le_of_ble_eq_true rfl⟩) dL_asks_334 rfl ⟨Nat.le_of_ble_eq_true rfl, Nat.le_of_ble_eq_true rfl⟩ (Nat.le_of_ble_eq_true rfl) (fun m334 hm334 => ?_)
      refine q_istore (lv' := [(7, .int (nI m334)), (10, .int (-101)), (9, .int (-101)), (8, .int (nI 0)), (6, .ref o), (5, .int (sumf (fun k6 => if nI 29 < fp (35 + k6) then (nI 1 <<< (nI k6 &&& 31) : Int32) else nI 0) n)), (4, .ref (a 45)), (3, .ref (a 42)), (2, .ref (a 40)), (1, .int y), (0, .ref (a 30))]) (pc2 := 339) C dL_asks_337 (by decide) rfl rfl ?_
      have hj366 : Cf p l e ({ frames := 9, cells := 10, slots := 64, locals := 180 }) s m args below meth c D A 15 6 34 Q 366 [(7, .int (nI m334)), (10, .int (-101)), (9, .int (-101)), (8, .int (nI 0)), (6, .ref o), (5, .int (sumf (fun k6 => if nI 29 < fp (35 + k6) then (nI 1 <<< (nI k6 &&& 31) : Int32) else nI 0) n)), (4, .ref (a 45)), (3, .ref (a 42)), (2, .ref (a 40)), (1, .int y), (0, .ref (a 30))] [] (wU ct a o 4 g1 x fc fb fp fq fn fl) := by
        refine q_aload_n (pc2 := 367) C 10 dL_asks_366 rfl rfl rfl ?_
        refine q_XV_wU (pc2 := 370) (As := []) (st := []) (st2 := [.int (orf (fun k => if 30 ≤ x 2 k then (1 <<< (nI k &&& 31) : Int32) else 0) n)]) (x' := x) C (c_X3_burnt l D ct a x n hx0 (by omega)) (cwV 0 C.w gL_asks_X3_burnt rfl rfl rfl (by decide +kernel) ⟨Nat.le_of_ble_eq_true rfl, Nat.le_of_ble_eq_true rfl⟩) dL_asks_367 rfl rfl (Nat.le_of_ble_eq_true rfl) ⟨Nat.le_of_ble_eq_true rfl, Nat.le_of_ble_eq_true rfl⟩ rfl rfl ?_
        refine q_iload (pc2 := 372) C 5 dL_asks_370 rfl rfl ?_
        refine q_icmp_eq (tgt := 377) (pc2 := 375) C dL_asks_372 (by decide) rfl (fun _ => ?_) (fun h9 => absurd (burnt_eq rl) h9)
        refine q_iload_n (pc2 := 378) C 9 dL_asks_377 rfl rfl rfl ?_
        refine q_iconst (v := nI 4) (pc2 := 379) C dL_asks_378 (by decide) rfl ?_
        refine q_ishr (v := (y >>> (nI 4 &&& 31))) (pc2 := 380) C dL_asks_379 (rfl) rfl ?_
        refine q_iconst (v := nI 3) (pc2 := 381) C dL_asks_380 (by decide) rfl ?_
        refine q_some (pc2 := 384) C (v := (y >>> (nI 4 &&& 31))) 3 (by omega) (by omega) (va_cwS 2 C.w gL_asks_L_some rfl rfl rfl (by decide +kernel) ⟨Nat.le_of_ble_eq_true rfl, Nat.le_of_ble_eq_true rfl⟩) dL_asks_381 rfl ⟨Nat.le_of_ble_eq_true rfl, Nat.le_of_ble_eq_true rfl⟩ (Nat.le_of_ble_eq_true rfl) (fun m381 hm381 => ?_)
        refine q_istore (lv' := [(8, .int (nI m381)), (7, .int (nI m334)), (10, .int (-101)), (9, .int (-101)), (6, .ref o), (5, .int (sumf (fun k6 => if nI 29 < fp (35 + k6) then (nI 1 <<< (nI k6 &&& 31) : Int32) else nI 0) n)), (4, .ref (a 45)), (3, .ref (a 42)), (2, .ref (a 40)), (1, .int y), (0, .ref (a 30))]) (pc2 := 386) C dL_asks_384 (by decide) rfl rfl ?_
        have hj477 : ∀ rk : Nat, ((m381 < kb h → rnkX x (nI m381) (nI rk) = -1) ∧ rk ≤ 5) → Cf p l e ({ frames := 9, cells := 10, slots := 64, locals := 180 }) s m args below meth c D A 15 6 34 Q 477 [(9, .int (nI rk)), (8, .int (nI m381)), (7, .int (nI m334)), (6, .ref o), (5, .int (sumf (fun k6 => if nI 29 < fp (35 + k6) then (nI 1 <<< (nI k6 &&& 31) : Int32) else nI 0) n)), (4, .ref (a 45)), (3, .ref (a 42)), (2, .ref (a 40)), (1, .int y), (0, .ref (a 30))] [] (wU ct a o 4 g1 x fc fb fp fq fn fl) := by
          intro rk hrk
          refine q_iconst (v := nI 1) (pc2 := 478) C dL_asks_477 (by decide) rfl ?_
          refine q_iload_n (pc2 := 479) C 8 dL_asks_478 rfl rfl rfl ?_
          refine q_iconst (v := nI 5) (pc2 := 480) C dL_asks_479 (by decide) rfl ?_
          refine q_ishr (v := (y >>> (nI 5 &&& 31))) (pc2 := 481) C dL_asks_480 (rfl) rfl ?_
          refine q_bipush (v := nI 90) (pc2 := 483) C dL_asks_481 (by decide) rfl ?_
          refine q_some (pc2 := 486) C (v := (y >>> (nI 5 &&& 31))) 90 (by omega) (by omega) (va_cwS 2 C.w gL_asks_L_some rfl rfl rfl (by decide +kernel) ⟨Nat.le_of_ble_eq_true rfl, Nat.le_of_ble_eq_true rfl⟩) dL_asks_483 rfl ⟨Nat.le_of_ble_eq_true rfl, Nat.le_of_ble_eq_true rfl⟩ (Nat.le_of_ble_eq_true rfl) (fun m483 hm483 => ?_)
          refine q_iadd (v := nI (1 + m483)) (pc2 := 487) C dL_asks_486 (nI_add 1 m483) rfl ?_
          refine q_istore (lv' := [(10, .int (nI (1 + m483))), (9, .int (nI rk)), (8, .int (nI m381)), (7, .int (nI m334)), (6, .ref o), (5, .int (sumf (fun k6 => if nI 29 < fp (35 + k6) then (nI 1 <<< (nI k6 &&& 31) : Int32) else nI 0) n)), (4, .ref (a 45)), (3, .ref (a 42)), (2, .ref (a 40)), (1, .int y), (0, .ref (a 30))]) (pc2 := 489) C dL_asks_487 (by decide) rfl rfl ?_
          refine q_iconst (v := (-1)) (pc2 := 490) C dL_asks_489 (by decide) rfl ?_
          refine q_istore (lv' := [(11, .int (-1)), (10, .int (nI (1 + m483))), (9, .int (nI rk)), (8, .int (nI m381)), (7, .int (nI m334)), (6, .ref o), (5, .int (sumf (fun k6 => if nI 29 < fp (35 + k6) then (nI 1 <<< (nI k6 &&& 31) : Int32) else nI 0) n)), (4, .ref (a 45)), (3, .ref (a 42)), (2, .ref (a 40)), (1, .int y), (0, .ref (a 30))]) (pc2 := 492) C dL_asks_490 (by decide) rfl rfl ?_
          refine q_bipush (v := nI 100) (pc2 := 494) C dL_asks_492 (by decide) rfl ?_
          refine q_iload (pc2 := 496) C 1 dL_asks_494 rfl rfl ?_
          refine q_isub (v := nI (100 - (1 + m483))) (pc2 := 497) C dL_asks_496 (pk_sub (by omega)) rfl ?_
          obtain ⟨tp, htp⟩ : ∃ tp, tp = 100 - (1 + m483) := ⟨_, rfl⟩
          refine q_eqi (y := nI tp - nI 0) (by rw [htp, pk_sub (Nat.zero_le _)]; rfl) ?_
          refine q_istore (lv' := [(12, .int (nI tp - nI 0)), (11, .int (-1)), (10, .int (nI (1 + m483))), (9, .int (nI rk)), (8, .int (nI m381)), (7, .int (nI m334)), (6, .ref o), (5, .int (sumf (fun k6 => if nI 29 < fp (35 + k6) then (nI 1 <<< (nI k6 &&& 31) : Int32) else nI 0) n)), (4, .ref (a 45)), (3, .ref (a 42)), (2, .ref (a 40)), (1, .int y), (0, .ref (a 30))]) (pc2 := 499) C dL_asks_497 (by decide) rfl rfl ?_
          refine q_eql (lv' := [(12, .int (nI tp - nI 0)), (11, .int (fnd (fun f9 => (freeN fp K n (1 + m483) f9)) 0 (tp + 1 - 0))), (10, .int (nI (1 + m483))), (9, .int (nI rk)), (8, .int (nI m381)), (7, .int (nI m334)), (6, .ref o), (5, .int (sumf (fun k6 => if nI 29 < fp (35 + k6) then (nI 1 <<< (nI k6 &&& 31) : Int32) else nI 0) n)), (4, .ref (a 45)), (3, .ref (a 42)), (2, .ref (a 40)), (1, .int y), (0, .ref (a 30))]) (by rfl) ?_
          refine (lp_up (P := fun i8 => Cf p l e ({ frames := 9, cells := 10, slots := 64, locals := 180 }) s m args below meth c D A 15 6 34 Q 499 [(12, .int (nI tp - nI i8)), (11, .int (fnd (fun f9 => (freeN fp K n (1 + m483) f9)) i8 (tp + 1 - i8))), (10, .int (nI (1 + m483))), (9, .int (nI rk)), (8, .int (nI m381)), (7, .int (nI m334)), (6, .ref o), (5, .int (sumf (fun k6 => if nI 29 < fp (35 + k6) then (nI 1 <<< (nI k6 &&& 31) : Int32) else nI 0) n)), (4, .ref (a 45)), (3, .ref (a 42)), (2, .ref (a 40)), (1, .int y), (0, .ref (a 30))] [] (wU ct a o 4 g1 x fc fb fp fq fn fl)) (tp + 1) (fun i8 hi8 ihi8 => ?_) ?_ : Cf p l e ({ frames := 9, cells := 10, slots := 64, locals := 180 }) s m args below meth c D A 15 6 34 Q 499 [(12, .int (nI tp - nI 0)), (11, .int (fnd (fun f9 => (freeN fp K n (1 + m483) f9)) 0 (tp + 1 - 0))), (10, .int (nI (1 + m483))), (9, .int (nI rk)), (8, .int (nI m381)), (7, .int (nI m334)), (6, .ref o), (5, .int (sumf (fun k6 => if nI 29 < fp (35 + k6) then (nI 1 <<< (nI k6 &&& 31) : Int32) else nI 0) n)), (4, .ref (a 45)), (3, .ref (a 42)), (2, .ref (a 40)), (1, .int y), (0, .ref (a 30))] [] (wU ct a o 4 g1 x fc fb fp fq fn fl))
          · skip
            refine q_eql (lv' := [(12, .int (nI (tp - i8))), (11, .int (fnd (fun f9 => (freeN fp K n (1 + m483) f9)) i8 (tp + 1 - i8))), (10, .int (nI (1 + m483))), (9, .int (nI rk)), (8, .int (nI m381)), (7, .int (nI m334)), (6, .ref o), (5, .int (sumf (fun k6 => if nI 29 < fp (35 + k6) then (nI 1 <<< (nI k6 &&& 31) : Int32) else nI 0) n)), (4, .ref (a 45)), (3, .ref (a 42)), (2, .ref (a 40)), (1, .int y), (0, .ref (a 30))]) (by rw [pk_sub (show i8 ≤ tp by omega)]) ?_
            refine q_iload (pc2 := 501) C 0 dL_asks_499 rfl rfl ?_
            refine q_if_lt (tgt := 601) (pc2 := 504) C dL_asks_501 (by decide) rfl (fun h9 => absurd h9 (nI_pos (by omega))) (fun _ => ?_)
            refine q_iconst (v := nI 1) (pc2 := 505) C dL_asks_504 (by decide) rfl ?_
            refine q_istore (lv' := [(13, .int (nI 1)), (12, .int (nI (tp - i8))), (11, .int (fnd (fun f9 => (freeN fp K n (1 + m483) f9)) i8 (tp + 1 - i8))), (10, .int (nI (1 + m483))), (9, .int (nI rk)), (8, .int (nI m381)), (7, .int (nI m334)), (6, .ref o), (5, .int (sumf (fun k6 => if nI 29 < fp (35 + k6) then (nI 1 <<< (nI k6 &&& 31) : Int32) else nI 0) n)), (4, .ref (a 45)), (3, .ref (a 42)), (2, .ref (a 40)), (1, .int y), (0, .ref (a 30))]) (pc2 := 507) C dL_asks_505 (by decide) rfl rfl ?_
            refine q_iconst (v := nI 0) (pc2 := 508) C dL_asks_507 (by decide) rfl ?_
            refine q_istore (lv' := [(14, .int (nI 0)), (13, .int (nI 1)), (12, .int (nI (tp - i8))), (11, .int (fnd (fun f9 => (freeN fp K n (1 + m483) f9)) i8 (tp + 1 - i8))), (10, .int (nI (1 + m483))), (9, .int (nI rk)), (8, .int (nI m381)), (7, .int (nI m334)), (6, .ref o), (5, .int (sumf (fun k6 => if nI 29 < fp (35 + k6) then (nI 1 <<< (nI k6 &&& 31) : Int32) else nI 0) n)), (4, .ref (a 45)), (3, .ref (a 42)), (2, .ref (a 40)), (1, .int y), (0, .ref (a 30))]) (pc2 := 510) C dL_asks_508 (by decide) rfl rfl ?_
            refine q_eql (lv' := [(14, .int (nI 0)), (13, .int (b2 (freeN fp K 0 (1 + m483) (tp - i8)))), (12, .int (nI (tp - i8))), (11, .int (fnd (fun f9 => (freeN fp K n (1 + m483) f9)) i8 (tp + 1 - i8))), (10, .int (nI (1 + m483))), (9, .int (nI rk)), (8, .int (nI m381)), (7, .int (nI m334)), (6, .ref o), (5, .int (sumf (fun k6 => if nI 29 < fp (35 + k6) then (nI 1 <<< (nI k6 &&& 31) : Int32) else nI 0) n)), (4, .ref (a 45)), (3, .ref (a 42)), (2, .ref (a 40)), (1, .int y), (0, .ref (a 30))]) (congrArg (fun z9 => (14, Value.int (nI 0)) :: (13, Value.int z9) :: _) (b2_t (fun t ht => absurd ht (Nat.not_lt_zero t))).symm) ?_
            refine (lp_up (P := fun k9 => Cf p l e ({ frames := 9, cells := 10, slots := 64, locals := 180 }) s m args below meth c D A 15 6 34 Q 510 [(14, .int (nI k9)), (13, .int (b2 (freeN fp K k9 (1 + m483) (tp - i8)))), (12, .int (nI (tp - i8))), (11, .int (fnd (fun f9 => (freeN fp K n (1 + m483) f9)) i8 (tp + 1 - i8))), (10, .int (nI (1 + m483))), (9, .int (nI rk)), (8, .int (nI m381)), (7, .int (nI m334)), (6, .ref o), (5, .int (sumf (fun k6 => if nI 29 < fp (35 + k6) then (nI 1 <<< (nI k6 &&& 31) : Int32) else nI 0) n)), (4, .ref (a 45)), (3, .ref (a 42)), (2, .ref (a 40)), (1, .int y), (0, .ref (a 30))] [] (wU ct a o 4 g1 x fc fb fp fq fn fl)) n (fun k9 hk9 ihk9 => ?_) ?_ : Cf p l e ({ frames := 9, cells := 10, slots := 64, locals := 180 }) s m args below meth c D A 15 6 34 Q 510 [(14, .int (nI 0)), (13, .int (b2 (freeN fp K 0 (1 + m483) (tp - i8)))), (12, .int (nI (tp - i8))), (11, .int (fnd (fun f9 => (freeN fp K n (1 + m483) f9)) i8 (tp + 1 - i8))), (10, .int (nI (1 + m483))), (9, .int (nI rk)), (8, .int (nI m381)), (7, .int (nI m334)), (6, .ref o), (5, .int (sumf (fun k6 => if nI 29 < fp (35 + k6) then (nI 1 <<< (nI k6 &&& 31) : Int32) else nI 0) n)), (4, .ref (a 45)), (3, .ref (a 42)), (2, .ref (a 40)), (1, .int y), (0, .ref (a 30))] [] (wU ct a o 4 g1 x fc fb fp fq fn fl))
            · skip
              refine q_iload (pc2 := 512) C 0 dL_asks_510 rfl rfl ?_
              refine q_aload_n (pc2 := 513) C 12 dL_asks_512 rfl rfl rfl ?_
              refine q_iconst (v := nI 3) (pc2 := 514) C dL_asks_513 (by decide) rfl ?_
              refine q_iald (q0 := 26) (f := fc) (pc2 := 515) C 3 (wU_g0 ct a o 4 g1 x fc fb fp fq fn fl) rfl (rfl) (by decide) (by decide) dL_asks_514 rfl ?_
              refine q_eqi (y := nI n) (hc3) ?_
              refine q_icmp_ge (tgt := 581) (pc2 := 518) C dL_asks_515 (by decide) rfl (fun h9 => absurd h9 (nI_ge (a := k9) (b := n) (by omega) (by omega))) (fun _ => ?_)
              refine q_iload (pc2 := 520) C 1 dL_asks_518 rfl rfl ?_
              refine q_if_eq (tgt := 572) (pc2 := 523) C dL_asks_520 (by decide) rfl (fun c520 => ?_) (fun c520 => ?_)
              · skip
                refine q_iconst (v := nI 0) (pc2 := 573) C dL_asks_572 (by decide) rfl ?_
                refine q_eqi (y := b2 (freeN fp K (k9 + 1) (1 + m483) (tp - i8))) ((b2_f (fun z : (freeN fp K (k9 + 1) (1 + m483) (tp - i8)) => absurd (fun t ht => z t (Nat.lt_succ_of_lt ht) : (freeN fp K k9 (1 + m483) (tp - i8))) (b2_eq.mp c520))).symm) ?_
                refine q_istore (lv' := [(13, .int (b2 (freeN fp K (k9 + 1) (1 + m483) (tp - i8)))), (14, .int (nI k9)), (12, .int (nI (tp - i8))), (11, .int (fnd (fun f9 => (freeN fp K n (1 + m483) f9)) i8 (tp + 1 - i8))), (10, .int (nI (1 + m483))), (9, .int (nI rk)), (8, .int (nI m381)), (7, .int (nI m334)), (6, .ref o), (5, .int (sumf (fun k6 => if nI 29 < fp (35 + k6) then (nI 1 <<< (nI k6 &&& 31) : Int32) else nI 0) n)), (4, .ref (a 45)), (3, .ref (a 42)), (2, .ref (a 40)), (1, .int y), (0, .ref (a 30))]) (pc2 := 575) C dL_asks_573 (by decide) rfl rfl ?_
                refine q_iinc (v := nI (k9 + 1)) (lv' := [(14, .int (nI (k9 + 1))), (13, .int (b2 (freeN fp K (k9 + 1) (1 + m483) (tp - i8)))), (12, .int (nI (tp - i8))), (11, .int (fnd (fun f9 => (freeN fp K n (1 + m483) f9)) i8 (tp + 1 - i8))), (10, .int (nI (1 + m483))), (9, .int (nI rk)), (8, .int (nI m381)), (7, .int (nI m334)), (6, .ref o), (5, .int (sumf (fun k6 => if nI 29 < fp (35 + k6) then (nI 1 <<< (nI k6 &&& 31) : Int32) else nI 0) n)), (4, .ref (a 45)), (3, .ref (a 42)), (2, .ref (a 40)), (1, .int y), (0, .ref (a 30))]) (pc2 := 578) C 1 dL_asks_575 rfl (show nI k9 + Int32.ofInt 1 = nI (k9 + 1) by rw [show Int32.ofInt 1 = nI 1 from by decide]; exact nI_add k9 1) (by decide) rfl rfl ?_
                refine q_goto (pc2 := 510) C dL_asks_578 (by decide) ?_
                exact ihk9
              · skip
                refine q_aload_n (pc2 := 524) C 11 dL_asks_523 rfl rfl rfl ?_
                refine q_bipush (v := nI 20) (pc2 := 526) C dL_asks_524 (by decide) rfl ?_
                refine q_iload (pc2 := 528) C 0 dL_asks_526 rfl rfl ?_
                refine q_iadd (v := nI (20 + k9)) (pc2 := 529) C dL_asks_528 (nI_add 20 k9) rfl ?_
                refine q_iald (q0 := 28) (f := fp) (pc2 := 530) C (20 + k9) (wU_g2 ct a o 4 g1 x fc fb fp fq fn fl) rfl (rfl) (by omega) (by decide) dL_asks_529 rfl ?_
                refine q_if_lt (tgt := 568) (pc2 := 533) C dL_asks_530 (by decide) rfl (fun c530 => ?_) (fun c530 => ?_)
                · skip
                  refine q_iconst (v := nI 1) (pc2 := 569) C dL_asks_568 (by decide) rfl ?_
                  refine q_goto (pc2 := 573) C dL_asks_569 (by decide) ?_
                  refine q_eqi (y := b2 (freeN fp K (k9 + 1) (1 + m483) (tp - i8))) ((b2_t (all_s (b2_ne.mp c520) (Or.inl c530) : (freeN fp K (k9 + 1) (1 + m483) (tp - i8)))).symm) ?_
                  refine q_istore (lv' := [(13, .int (b2 (freeN fp K (k9 + 1) (1 + m483) (tp - i8)))), (14, .int (nI k9)), (12, .int (nI (tp - i8))), (11, .int (fnd (fun f9 => (freeN fp K n (1 + m483) f9)) i8 (tp + 1 - i8))), (10, .int (nI (1 + m483))), (9, .int (nI rk)), (8, .int (nI m381)), (7, .int (nI m334)), (6, .ref o), (5, .int (sumf (fun k6 => if nI 29 < fp (35 + k6) then (nI 1 <<< (nI k6 &&& 31) : Int32) else nI 0) n)), (4, .ref (a 45)), (3, .ref (a 42)), (2, .ref (a 40)), (1, .int y), (0, .ref (a 30))]) (pc2 := 575) C dL_asks_573 (by decide) rfl rfl ?_
                  refine q_iinc (v := nI (k9 + 1)) (lv' := [(14, .int (nI (k9 + 1))), (13, .int (b2 (freeN fp K (k9 + 1) (1 + m483) (tp - i8)))), (12, .int (nI (tp - i8))), (11, .int (fnd (fun f9 => (freeN fp K n (1 + m483) f9)) i8 (tp + 1 - i8))), (10, .int (nI (1 + m483))), (9, .int (nI rk)), (8, .int (nI m381)), (7, .int (nI m334)), (6, .ref o), (5, .int (sumf (fun k6 => if nI 29 < fp (35 + k6) then (nI 1 <<< (nI k6 &&& 31) : Int32) else nI 0) n)), (4, .ref (a 45)), (3, .ref (a 42)), (2, .ref (a 40)), (1, .int y), (0, .ref (a 30))]) (pc2 := 578) C 1 dL_asks_575 rfl (show nI k9 + Int32.ofInt 1 = nI (k9 + 1) by rw [show Int32.ofInt 1 = nI 1 from by decide]; exact nI_add k9 1) (by decide) rfl rfl ?_
                  refine q_goto (pc2 := 510) C dL_asks_578 (by decide) ?_
                  exact ihk9
                · skip
                  refine q_aload_n (pc2 := 534) C 11 dL_asks_533 rfl rfl rfl ?_
                  refine q_bipush (v := nI 20) (pc2 := 536) C dL_asks_534 (by decide) rfl ?_
                  refine q_iload (pc2 := 538) C 0 dL_asks_536 rfl rfl ?_
                  refine q_iadd (v := nI (20 + k9)) (pc2 := 539) C dL_asks_538 (nI_add 20 k9) rfl ?_
                  refine q_iald (q0 := 28) (f := fp) (pc2 := 540) C (20 + k9) (wU_g2 ct a o 4 g1 x fc fb fp fq fn fl) rfl (rfl) (by omega) (by decide) dL_asks_539 rfl ?_
                  refine q_iload (pc2 := 542) C 2 dL_asks_540 rfl rfl ?_
                  refine q_iload (pc2 := 544) C 4 dL_asks_542 rfl rfl ?_
                  refine q_iadd (v := nI ((tp - i8) + (1 + m483))) (pc2 := 545) C dL_asks_544 (nI_add (tp - i8) (1 + m483)) rfl ?_
                  refine q_icmp_ge (tgt := 568) (pc2 := 548) C dL_asks_545 (by decide) rfl (fun c545 => ?_) (fun c545 => ?_)
                  · skip
                    refine q_iconst (v := nI 1) (pc2 := 569) C dL_asks_568 (by decide) rfl ?_
                    refine q_goto (pc2 := 573) C dL_asks_569 (by decide) ?_
                    refine q_eqi (y := b2 (freeN fp K (k9 + 1) (1 + m483) (tp - i8))) ((b2_t (all_s (b2_ne.mp c520) (Or.inr (Or.inl c545)) : (freeN fp K (k9 + 1) (1 + m483) (tp - i8)))).symm) ?_
                    refine q_istore (lv' := [(13, .int (b2 (freeN fp K (k9 + 1) (1 + m483) (tp - i8)))), (14, .int (nI k9)), (12, .int (nI (tp - i8))), (11, .int (fnd (fun f9 => (freeN fp K n (1 + m483) f9)) i8 (tp + 1 - i8))), (10, .int (nI (1 + m483))), (9, .int (nI rk)), (8, .int (nI m381)), (7, .int (nI m334)), (6, .ref o), (5, .int (sumf (fun k6 => if nI 29 < fp (35 + k6) then (nI 1 <<< (nI k6 &&& 31) : Int32) else nI 0) n)), (4, .ref (a 45)), (3, .ref (a 42)), (2, .ref (a 40)), (1, .int y), (0, .ref (a 30))]) (pc2 := 575) C dL_asks_573 (by decide) rfl rfl ?_
                    refine q_iinc (v := nI (k9 + 1)) (lv' := [(14, .int (nI (k9 + 1))), (13, .int (b2 (freeN fp K (k9 + 1) (1 + m483) (tp - i8)))), (12, .int (nI (tp - i8))), (11, .int (fnd (fun f9 => (freeN fp K n (1 + m483) f9)) i8 (tp + 1 - i8))), (10, .int (nI (1 + m483))), (9, .int (nI rk)), (8, .int (nI m381)), (7, .int (nI m334)), (6, .ref o), (5, .int (sumf (fun k6 => if nI 29 < fp (35 + k6) then (nI 1 <<< (nI k6 &&& 31) : Int32) else nI 0) n)), (4, .ref (a 45)), (3, .ref (a 42)), (2, .ref (a 40)), (1, .int y), (0, .ref (a 30))]) (pc2 := 578) C 1 dL_asks_575 rfl (show nI k9 + Int32.ofInt 1 = nI (k9 + 1) by rw [show Int32.ofInt 1 = nI 1 from by decide]; exact nI_add k9 1) (by decide) rfl rfl ?_
                    refine q_goto (pc2 := 510) C dL_asks_578 (by decide) ?_
                    exact ihk9
                  · skip
                    refine q_aload_n (pc2 := 549) C 11 dL_asks_548 rfl rfl rfl ?_
                    refine q_bipush (v := nI 20) (pc2 := 551) C dL_asks_549 (by decide) rfl ?_
                    refine q_iload (pc2 := 553) C 0 dL_asks_551 rfl rfl ?_
                    refine q_iadd (v := nI (20 + k9)) (pc2 := 554) C dL_asks_553 (nI_add 20 k9) rfl ?_
                    refine q_iald (q0 := 28) (f := fp) (pc2 := 555) C (20 + k9) (wU_g2 ct a o 4 g1 x fc fb fp fq fn fl) rfl (rfl) (by omega) (by decide) dL_asks_554 rfl ?_
                    refine q_aload_n (pc2 := 556) C 11 dL_asks_555 rfl rfl rfl ?_
                    refine q_iload (pc2 := 558) C 0 dL_asks_556 rfl rfl ?_
                    refine q_iald (q0 := 28) (f := fp) (pc2 := 559) C k9 (wU_g2 ct a o 4 g1 x fc fb fp fq fn fl) rfl (rfl) (by omega) (by decide) dL_asks_558 rfl ?_
                    refine q_eqi (y := nI (K k9)) ((hK k9 hk9).1) ?_
                    refine q_s0 (pc2 := 562) (As := [.int (nI (K k9))]) (st := [.int (fp (20 + k9))]) (st2 := [.int (nI (hsN (K k9))), .int (fp (20 + k9))]) C (c_L_has l D ct (K k9) (hK k9 hk9).2) (va_cwS 1 C.w gL_asks_L_has rfl rfl rfl (by decide +kernel) ⟨Nat.le_of_ble_eq_true rfl, Nat.le_of_ble_eq_true rfl⟩) dL_asks_559 rfl rfl (Nat.le_of_ble_eq_true rfl) ⟨Nat.le_of_ble_eq_true rfl, Nat.le_of_ble_eq_true rfl⟩ rfl rfl ?_
                    refine q_iadd (v := ((fp (20 + k9)) + nI (hsN (K k9)))) (pc2 := 563) C dL_asks_562 (rfl) rfl ?_
                    refine q_iload (pc2 := 565) C 2 dL_asks_563 rfl rfl ?_
                    refine q_icmp_gt (tgt := 572) (pc2 := 568) C dL_asks_565 (by decide) rfl (fun c565 => ?_) (fun c565 => ?_)
                    · skip
                      refine q_iconst (v := nI 0) (pc2 := 573) C dL_asks_572 (by decide) rfl ?_
                      refine q_eqi (y := b2 (freeN fp K (k9 + 1) (1 + m483) (tp - i8))) ((b2_f (fun z : (freeN fp K (k9 + 1) (1 + m483) (tp - i8)) => (z k9 (Nat.lt_succ_self k9)).elim (fun w => c530 w) (fun w => w.elim (fun w => c545 w) (fun w => absurd c565 (Int32.not_lt.mpr w))))).symm) ?_
                      refine q_istore (lv' := [(13, .int (b2 (freeN fp K (k9 + 1) (1 + m483) (tp - i8)))), (14, .int (nI k9)), (12, .int (nI (tp - i8))), (11, .int (fnd (fun f9 => (freeN fp K n (1 + m483) f9)) i8 (tp + 1 - i8))), (10, .int (nI (1 + m483))), (9, .int (nI rk)), (8, .int (nI m381)), (7, .int (nI m334)), (6, .ref o), (5, .int (sumf (fun k6 => if nI 29 < fp (35 + k6) then (nI 1 <<< (nI k6 &&& 31) : Int32) else nI 0) n)), (4, .ref (a 45)), (3, .ref (a 42)), (2, .ref (a 40)), (1, .int y), (0, .ref (a 30))]) (pc2 := 575) C dL_asks_573 (by decide) rfl rfl ?_
                      refine q_iinc (v := nI (k9 + 1)) (lv' := [(14, .int (nI (k9 + 1))), (13, .int (b2 (freeN fp K (k9 + 1) (1 + m483) (tp - i8)))), (12, .int (nI (tp - i8))), (11, .int (fnd (fun f9 => (freeN fp K n (1 + m483) f9)) i8 (tp + 1 - i8))), (10, .int (nI (1 + m483))), (9, .int (nI rk)), (8, .int (nI m381)), (7, .int (nI m334)), (6, .ref o), (5, .int (sumf (fun k6 => if nI 29 < fp (35 + k6) then (nI 1 <<< (nI k6 &&& 31) : Int32) else nI 0) n)), (4, .ref (a 45)), (3, .ref (a 42)), (2, .ref (a 40)), (1, .int y), (0, .ref (a 30))]) (pc2 := 578) C 1 dL_asks_575 rfl (show nI k9 + Int32.ofInt 1 = nI (k9 + 1) by rw [show Int32.ofInt 1 = nI 1 from by decide]; exact nI_add k9 1) (by decide) rfl rfl ?_
                      refine q_goto (pc2 := 510) C dL_asks_578 (by decide) ?_
                      exact ihk9
                    · skip
                      refine q_iconst (v := nI 1) (pc2 := 569) C dL_asks_568 (by decide) rfl ?_
                      refine q_goto (pc2 := 573) C dL_asks_569 (by decide) ?_
                      refine q_eqi (y := b2 (freeN fp K (k9 + 1) (1 + m483) (tp - i8))) ((b2_t (all_s (b2_ne.mp c520) (Or.inr (Or.inr (Int32.not_lt.mp c565))) : (freeN fp K (k9 + 1) (1 + m483) (tp - i8)))).symm) ?_
                      refine q_istore (lv' := [(13, .int (b2 (freeN fp K (k9 + 1) (1 + m483) (tp - i8)))), (14, .int (nI k9)), (12, .int (nI (tp - i8))), (11, .int (fnd (fun f9 => (freeN fp K n (1 + m483) f9)) i8 (tp + 1 - i8))), (10, .int (nI (1 + m483))), (9, .int (nI rk)), (8, .int (nI m381)), (7, .int (nI m334)), (6, .ref o), (5, .int (sumf (fun k6 => if nI 29 < fp (35 + k6) then (nI 1 <<< (nI k6 &&& 31) : Int32) else nI 0) n)), (4, .ref (a 45)), (3, .ref (a 42)), (2, .ref (a 40)), (1, .int y), (0, .ref (a 30))]) (pc2 := 575) C dL_asks_573 (by decide) rfl rfl ?_
                      refine q_iinc (v := nI (k9 + 1)) (lv' := [(14, .int (nI (k9 + 1))), (13, .int (b2 (freeN fp K (k9 + 1) (1 + m483) (tp - i8)))), (12, .int (nI (tp - i8))), (11, .int (fnd (fun f9 => (freeN fp K n (1 + m483) f9)) i8 (tp + 1 - i8))), (10, .int (nI (1 + m483))), (9, .int (nI rk)), (8, .int (nI m381)), (7, .int (nI m334)), (6, .ref o), (5, .int (sumf (fun k6 => if nI 29 < fp (35 + k6) then (nI 1 <<< (nI k6 &&& 31) : Int32) else nI 0) n)), (4, .ref (a 45)), (3, .ref (a 42)), (2, .ref (a 40)), (1, .int y), (0, .ref (a 30))]) (pc2 := 578) C 1 dL_asks_575 rfl (show nI k9 + Int32.ofInt 1 = nI (k9 + 1) by rw [show Int32.ofInt 1 = nI 1 from by decide]; exact nI_add k9 1) (by decide) rfl rfl ?_
                      refine q_goto (pc2 := 510) C dL_asks_578 (by decide) ?_
                      exact ihk9
            · skip
              refine q_iload (pc2 := 512) C 0 dL_asks_510 rfl rfl ?_
              refine q_aload_n (pc2 := 513) C 12 dL_asks_512 rfl rfl rfl ?_
              refine q_iconst (v := nI 3) (pc2 := 514) C dL_asks_513 (by decide) rfl ?_
              refine q_iald (q0 := 26) (f := fc) (pc2 := 515) C 3 (wU_g0 ct a o 4 g1 x fc fb fp fq fn fl) rfl (rfl) (by decide) (by decide) dL_asks_514 rfl ?_
              refine q_eqi (y := nI n) (hc3) ?_
              refine q_icmp_ge (tgt := 581) (pc2 := 518) C dL_asks_515 (by decide) rfl (fun _ => ?_) (fun h9 => absurd (nI_le (a := n) (b := n) (by omega) (by omega)) h9)
              refine q_iload (pc2 := 583) C 1 dL_asks_581 rfl rfl ?_
              refine q_if_eq (tgt := 591) (pc2 := 586) C dL_asks_583 (by decide) rfl (fun c583 => ?_) (fun c583 => ?_)
              · skip
                refine q_iload (pc2 := 593) C 3 dL_asks_591 rfl rfl ?_
                refine q_eqi (y := (fnd (fun f9 => (freeN fp K n (1 + m483) f9)) (i8 + 1) (tp + 1 - (i8 + 1)))) (by rw [show (tp + 1 - (i8 + 1)) = tp - i8 by omega, fnd_s, if_neg (b2_eq.mp c583), show tp + 1 - i8 = tp - i8 + 1 by omega]) ?_
                refine q_istore (lv' := [(11, .int (fnd (fun f9 => (freeN fp K n (1 + m483) f9)) (i8 + 1) (tp + 1 - (i8 + 1)))), (14, .int (nI n)), (13, .int (b2 (freeN fp K n (1 + m483) (tp - i8)))), (12, .int (nI (tp - i8))), (10, .int (nI (1 + m483))), (9, .int (nI rk)), (8, .int (nI m381)), (7, .int (nI m334)), (6, .ref o), (5, .int (sumf (fun k6 => if nI 29 < fp (35 + k6) then (nI 1 <<< (nI k6 &&& 31) : Int32) else nI 0) n)), (4, .ref (a 45)), (3, .ref (a 42)), (2, .ref (a 40)), (1, .int y), (0, .ref (a 30))]) (pc2 := 595) C dL_asks_593 (by decide) rfl rfl ?_
                refine q_iinc (v := (nI tp - nI (i8 + 1))) (lv' := [(12, .int (nI tp - nI (i8 + 1))), (11, .int (fnd (fun f9 => (freeN fp K n (1 + m483) f9)) (i8 + 1) (tp + 1 - (i8 + 1)))), (14, .int (nI n)), (13, .int (b2 (freeN fp K n (1 + m483) (tp - i8)))), (10, .int (nI (1 + m483))), (9, .int (nI rk)), (8, .int (nI m381)), (7, .int (nI m334)), (6, .ref o), (5, .int (sumf (fun k6 => if nI 29 < fp (35 + k6) then (nI 1 <<< (nI k6 &&& 31) : Int32) else nI 0) n)), (4, .ref (a 45)), (3, .ref (a 42)), (2, .ref (a 40)), (1, .int y), (0, .ref (a 30))]) (pc2 := 598) C 3 dL_asks_595 rfl (by rw [← pk_sub (show i8 ≤ tp by omega)]; exact cnt_dn (by omega) (by omega)) (by decide) rfl rfl ?_
                refine q_goto (pc2 := 499) C dL_asks_598 (by decide) ?_
                refine q_lv (lv' := [(12, .int (nI tp - nI (i8 + 1))), (11, .int (fnd (fun f9 => (freeN fp K n (1 + m483) f9)) (i8 + 1) (tp + 1 - (i8 + 1)))), (10, .int (nI (1 + m483))), (9, .int (nI rk)), (8, .int (nI m381)), (7, .int (nI m334)), (6, .ref o), (5, .int (sumf (fun k6 => if nI 29 < fp (35 + k6) then (nI 1 <<< (nI k6 &&& 31) : Int32) else nI 0) n)), (4, .ref (a 45)), (3, .ref (a 42)), (2, .ref (a 40)), (1, .int y), (0, .ref (a 30))]) [0, 1, 4, 5, 6, 7, 8, 9, 10, 11, 12, 13, 14] rfl ?_
                exact ihi8
              · skip
                refine q_iload (pc2 := 588) C 2 dL_asks_586 rfl rfl ?_
                refine q_goto (pc2 := 593) C dL_asks_588 (by decide) ?_
                refine q_eqi (y := (fnd (fun f9 => (freeN fp K n (1 + m483) f9)) (i8 + 1) (tp + 1 - (i8 + 1)))) (by rw [show (tp + 1 - (i8 + 1)) = tp - i8 by omega, fnd_s, if_pos (b2_ne.mp c583)]) ?_
                refine q_istore (lv' := [(11, .int (fnd (fun f9 => (freeN fp K n (1 + m483) f9)) (i8 + 1) (tp + 1 - (i8 + 1)))), (14, .int (nI n)), (13, .int (b2 (freeN fp K n (1 + m483) (tp - i8)))), (12, .int (nI (tp - i8))), (10, .int (nI (1 + m483))), (9, .int (nI rk)), (8, .int (nI m381)), (7, .int (nI m334)), (6, .ref o), (5, .int (sumf (fun k6 => if nI 29 < fp (35 + k6) then (nI 1 <<< (nI k6 &&& 31) : Int32) else nI 0) n)), (4, .ref (a 45)), (3, .ref (a 42)), (2, .ref (a 40)), (1, .int y), (0, .ref (a 30))]) (pc2 := 595) C dL_asks_593 (by decide) rfl rfl ?_
                refine q_iinc (v := (nI tp - nI (i8 + 1))) (lv' := [(12, .int (nI tp - nI (i8 + 1))), (11, .int (fnd (fun f9 => (freeN fp K n (1 + m483) f9)) (i8 + 1) (tp + 1 - (i8 + 1)))), (14, .int (nI n)), (13, .int (b2 (freeN fp K n (1 + m483) (tp - i8)))), (10, .int (nI (1 + m483))), (9, .int (nI rk)), (8, .int (nI m381)), (7, .int (nI m334)), (6, .ref o), (5, .int (sumf (fun k6 => if nI 29 < fp (35 + k6) then (nI 1 <<< (nI k6 &&& 31) : Int32) else nI 0) n)), (4, .ref (a 45)), (3, .ref (a 42)), (2, .ref (a 40)), (1, .int y), (0, .ref (a 30))]) (pc2 := 598) C 3 dL_asks_595 rfl (by rw [← pk_sub (show i8 ≤ tp by omega)]; exact cnt_dn (by omega) (by omega)) (by decide) rfl rfl ?_
                refine q_goto (pc2 := 499) C dL_asks_598 (by decide) ?_
                refine q_lv (lv' := [(12, .int (nI tp - nI (i8 + 1))), (11, .int (fnd (fun f9 => (freeN fp K n (1 + m483) f9)) (i8 + 1) (tp + 1 - (i8 + 1)))), (10, .int (nI (1 + m483))), (9, .int (nI rk)), (8, .int (nI m381)), (7, .int (nI m334)), (6, .ref o), (5, .int (sumf (fun k6 => if nI 29 < fp (35 + k6) then (nI 1 <<< (nI k6 &&& 31) : Int32) else nI 0) n)), (4, .ref (a 45)), (3, .ref (a 42)), (2, .ref (a 40)), (1, .int y), (0, .ref (a 30))]) [0, 1, 4, 5, 6, 7, 8, 9, 10, 11, 12, 13, 14] rfl ?_
                exact ihi8
          · skip
            refine q_iload (pc2 := 501) C 0 dL_asks_499 rfl rfl ?_
            refine q_if_lt (tgt := 601) (pc2 := 504) C dL_asks_501 (by decide) rfl (fun _ => ?_) (fun h9 => absurd (pk_sneg (by omega) (by omega)) h9)
            refine q_aload_n (pc2 := 602) C 12 dL_asks_601 rfl rfl rfl ?_
            refine q_iconst (v := nI 1) (pc2 := 603) C dL_asks_602 (by decide) rfl ?_
            refine q_iload (pc2 := 605) C 4 dL_asks_603 rfl rfl ?_
            refine q_iload (pc2 := 607) C 3 dL_asks_605 rfl rfl ?_
            have hM := c_X3_onBar l hl D ct a x h hx4 hlt (kb h) hx5 (by omega) (nI m381) (nI rk)
            rw [hx5] at hM
            refine q_Hno_wU (pc2 := 610) (As := [.ref (a 30), .int (nI 1), .int (nI m381), .int (nI rk)]) (st := []) (st2 := [.int (-101)]) (c2 := 7) (s2 := 40) C (c_L_of1 l D ct a x _ (nI m381) (nI rk) _ _ hM) (by by_cases z9 : 0 ≤ nI m381 ∧ nI m381 < nI (kb h); rw [if_pos z9, if_neg (fun w => w (hrk.1 ((nI_ltI (by omega) (by omega)).mp z9.2)))]; rw [if_neg z9]) (by decide +kernel) (vx_cwSW 4 C.w gL_asks_L_of rfl rfl rfl (by decide +kernel) ⟨Nat.le_of_ble_eq_true rfl, Nat.le_of_ble_eq_true rfl⟩) dL_asks_607 rfl rfl (Nat.le_of_ble_eq_true rfl) ⟨Nat.le_of_ble_eq_true rfl, Nat.le_of_ble_eq_true rfl⟩ rfl rfl (hcd1I _) rfl rfl ?_
            refine q_bipush (v := (-101)) (pc2 := 612) C dL_asks_610 (by decide) rfl ?_
            refine q_icmp_ne (tgt := 655) (pc2 := 615) C dL_asks_612 (by decide) rfl (fun h9 => absurd (by decide) h9) (fun _ => ?_)
            refine q_aload_n (pc2 := 616) C 12 dL_asks_615 rfl rfl rfl ?_
            refine q_iconst (v := nI 1) (pc2 := 617) C dL_asks_616 (by decide) rfl ?_
            refine q_iload (pc2 := 619) C 2 dL_asks_617 rfl rfl ?_
            have hM := c_X3_gap l hl D ct a x (nI (1 + m483))
            refine q_Hok_wU (pc2 := 622) (As := [.ref (a 30), .int (nI 1), .int (nI (1 + m483))]) (st := []) (st2 := [.int (gapf (fun k => cntH x (nI k)) (nI (1 + m483)))]) (x' := x) C (c_L_ticks1 l D ct a x _ (nI (1 + m483)) _ _ hM) (if_pos (show 1 ≤ nI (1 + m483) ∧ nI (1 + m483) ≤ 100 from ⟨nI_le (a := 1) (by omega) (by omega), nI_le (b := 100) (by omega) (by omega)⟩)) (vx_cwSW 3 C.w gL_asks_L_ticks rfl rfl rfl (by decide +kernel) ⟨Nat.le_of_ble_eq_true rfl, Nat.le_of_ble_eq_true rfl⟩) dL_asks_619 rfl rfl (Nat.le_of_ble_eq_true rfl) ⟨Nat.le_of_ble_eq_true rfl, Nat.le_of_ble_eq_true rfl⟩ rfl rfl ?_
            refine q_iload (pc2 := 624) C 1 dL_asks_622 rfl rfl ?_
            refine q_icmp_ne (tgt := 655) (pc2 := 627) C dL_asks_624 (by decide) rfl (fun h9 => absurd (by rw [gapf_congr (nI (1 + m483)) (fun k hk => cnt_eq rl rr (by omega)), gap_eq (p := fun f9 => (freeN fp K n (1 + m483) f9)) (fun k => hld fp K n k) (by omega) (by omega) (fun f hf => free_eq rr hn5 (by omega) hf), show 101 - (1 + m483) = tp + 1 by omega, Nat.sub_self]) h9) (fun _ => ?_)
            refine q_aload_n (pc2 := 628) C 12 dL_asks_627 rfl rfl rfl ?_
            refine q_iconst (v := nI 1) (pc2 := 629) C dL_asks_628 (by decide) rfl ?_
            refine q_iconst (v := nI 0) (pc2 := 630) C dL_asks_629 (by decide) rfl ?_
            have hM := c_X3_gap l hl D ct a x (nI 0)
            refine q_Hno_wU (pc2 := 633) (As := [.ref (a 30), .int (nI 1), .int (nI 0)]) (st := []) (st2 := [.int (-101)]) (c2 := 8) (s2 := 46) C (c_L_ticks1 l D ct a x _ (nI 0) _ _ hM) (if_neg (fun z : 1 ≤ nI 0 ∧ nI 0 ≤ 100 => absurd z.1 (by decide))) (by decide +kernel) (vx_cwSW 3 C.w gL_asks_L_ticks rfl rfl rfl (by decide +kernel) ⟨Nat.le_of_ble_eq_true rfl, Nat.le_of_ble_eq_true rfl⟩) dL_asks_630 rfl rfl (Nat.le_of_ble_eq_true rfl) ⟨Nat.le_of_ble_eq_true rfl, Nat.le_of_ble_eq_true rfl⟩ rfl rfl (hcd1A _) rfl rfl ?_
            refine q_bipush (v := (-101)) (pc2 := 635) C dL_asks_633 (by decide) rfl ?_
            refine q_icmp_ne (tgt := 655) (pc2 := 638) C dL_asks_635 (by decide) rfl (fun h9 => absurd (by decide) h9) (fun _ => ?_)
            refine q_aload_n (pc2 := 639) C 12 dL_asks_638 rfl rfl rfl ?_
            refine q_bipush (v := nI 6) (pc2 := 641) C dL_asks_639 (by decide) rfl ?_
            refine q_iconst (v := (-1)) (pc2 := 642) C dL_asks_641 (by decide) rfl ?_
            refine q_iconst (v := nI 0) (pc2 := 643) C dL_asks_642 (by decide) rfl ?_
            have hM := c_X3_wanted l hl D ct a x n hx0 (by omega) q hx16 (by omega) hfd (-1)
            refine q_Hno_wU (pc2 := 646) (As := [.ref (a 30), .int (nI 6), .int (-1), .int (nI 0)]) (st := []) (st2 := [.int (-101)]) (c2 := 9) (s2 := 52) C (c_L_of6 l D ct a x _ (-1) (nI 0) _ _ hM) (if_neg (fun z : 0 ≤ (-1 : Int32) ∧ (-1 : Int32) < x 0 0 => absurd z.1 (by decide))) (by decide +kernel) (vx_cwSW 4 C.w gL_asks_L_of rfl rfl rfl (by decide +kernel) ⟨Nat.le_of_ble_eq_true rfl, Nat.le_of_ble_eq_true rfl⟩) dL_asks_643 rfl rfl (Nat.le_of_ble_eq_true rfl) ⟨Nat.le_of_ble_eq_true rfl, Nat.le_of_ble_eq_true rfl⟩ rfl rfl (hcd1I _) rfl rfl ?_
            refine q_bipush (v := (-101)) (pc2 := 648) C dL_asks_646 (by decide) rfl ?_
            refine q_icmp_ne (tgt := 655) (pc2 := 651) C dL_asks_648 (by decide) rfl (fun h9 => absurd (by decide) h9) (fun _ => ?_)
            refine q_iconst (v := nI 1) (pc2 := 652) C dL_asks_651 (by decide) rfl ?_
            refine q_goto (pc2 := 656) C dL_asks_652 (by decide) ?_
            refine q_drop ?_
            exact q_zret C hQ rfl (rfl) (Nat.le_of_ble_eq_true rfl) (Nat.le_of_ble_eq_true rfl) dL_asks_656 ⟨rfl, rfl⟩
        rcases Nat.lt_or_ge m381 (kb h) with hbk | hbk
        · skip
          refine q_iconst (v := nI 0) (pc2 := 387) C dL_asks_386 (by decide) rfl ?_
          refine q_istore (lv' := [(9, .int (nI 0)), (8, .int (nI m381)), (7, .int (nI m334)), (10, .int (-101)), (6, .ref o), (5, .int (sumf (fun k6 => if nI 29 < fp (35 + k6) then (nI 1 <<< (nI k6 &&& 31) : Int32) else nI 0) n)), (4, .ref (a 45)), (3, .ref (a 42)), (2, .ref (a 40)), (1, .int y), (0, .ref (a 30))]) (pc2 := 389) C dL_asks_387 (by decide) rfl rfl ?_
          refine q_iconst (v := nI 0) (pc2 := 390) C dL_asks_389 (by decide) rfl ?_
          refine q_istore (lv' := [(10, .int (nI 0)), (9, .int (nI 0)), (8, .int (nI m381)), (7, .int (nI m334)), (6, .ref o), (5, .int (sumf (fun k6 => if nI 29 < fp (35 + k6) then (nI 1 <<< (nI k6 &&& 31) : Int32) else nI 0) n)), (4, .ref (a 45)), (3, .ref (a 42)), (2, .ref (a 40)), (1, .int y), (0, .ref (a 30))]) (pc2 := 392) C dL_asks_390 (by decide) rfl rfl ?_
          refine q_eql (lv' := [(10, .int (nI 0)), (9, .int (nI (blwN (blwP fp m381 0) n))), (8, .int (nI m381)), (7, .int (nI m334)), (6, .ref o), (5, .int (sumf (fun k6 => if nI 29 < fp (35 + k6) then (nI 1 <<< (nI k6 &&& 31) : Int32) else nI 0) n)), (4, .ref (a 45)), (3, .ref (a 42)), (2, .ref (a 40)), (1, .int y), (0, .ref (a 30))]) (by rw [blw_z rr hn5]) ?_
          refine (lp_up (P := fun p8 => Cf p l e ({ frames := 9, cells := 10, slots := 64, locals := 180 }) s m args below meth c D A 15 6 34 Q 392 [(10, .int (nI p8)), (9, .int (nI (blwN (blwP fp m381 p8) n))), (8, .int (nI m381)), (7, .int (nI m334)), (6, .ref o), (5, .int (sumf (fun k6 => if nI 29 < fp (35 + k6) then (nI 1 <<< (nI k6 &&& 31) : Int32) else nI 0) n)), (4, .ref (a 45)), (3, .ref (a 42)), (2, .ref (a 40)), (1, .int y), (0, .ref (a 30))] [] (wU ct a o 4 g1 x fc fb fp fq fn fl)) 101 (fun p8 hp8 ihp8 => ?_) ?_ : Cf p l e ({ frames := 9, cells := 10, slots := 64, locals := 180 }) s m args below meth c D A 15 6 34 Q 392 [(10, .int (nI 0)), (9, .int (nI (blwN (blwP fp m381 0) n))), (8, .int (nI m381)), (7, .int (nI m334)), (6, .ref o), (5, .int (sumf (fun k6 => if nI 29 < fp (35 + k6) then (nI 1 <<< (nI k6 &&& 31) : Int32) else nI 0) n)), (4, .ref (a 45)), (3, .ref (a 42)), (2, .ref (a 40)), (1, .int y), (0, .ref (a 30))] [] (wU ct a o 4 g1 x fc fb fp fq fn fl))
          · skip
            refine q_iload (pc2 := 394) C 0 dL_asks_392 rfl rfl ?_
            refine q_bipush (v := nI 101) (pc2 := 396) C dL_asks_394 (by decide) rfl ?_
            refine q_icmp_ge (tgt := 477) (pc2 := 399) C dL_asks_396 (by decide) rfl (fun h9 => absurd h9 (nI_ge (a := p8) (b := 101) (by omega) (by omega))) (fun _ => ?_)
            refine q_iload (pc2 := 401) C 2 dL_asks_399 rfl rfl ?_
            refine q_aload_n (pc2 := 402) C 8 dL_asks_401 rfl rfl rfl ?_
            refine q_iconst (v := nI 1) (pc2 := 403) C dL_asks_402 (by decide) rfl ?_
            refine q_aload_n (pc2 := 404) C 8 dL_asks_403 rfl rfl rfl ?_
            refine q_iconst (v := nI 0) (pc2 := 405) C dL_asks_404 (by decide) rfl ?_
            refine q_iald (q0 := 26) (f := fc) (pc2 := 406) C 0 (wU_g0 ct a o 4 g1 x fc fb fp fq fn fl) rfl (rfl) (by decide) (by decide) dL_asks_405 rfl ?_
            refine q_eqi (y := nI h) (hc0) ?_
            refine q_iadd (v := nI (1 + h)) (pc2 := 407) C dL_asks_406 (nI_add 1 h) rfl ?_
            refine q_iald (q0 := 26) (f := fc) (pc2 := 408) C (1 + h) (wU_g0 ct a o 4 g1 x fc fb fp fq fn fl) rfl (rfl) (by omega) (by decide) dL_asks_407 rfl ?_
            refine q_eqi (y := nI (kb h)) (hck) ?_
            refine q_icmp_ge (tgt := 477) (pc2 := 411) C dL_asks_408 (by decide) rfl (fun h9 => absurd h9 (nI_ge (a := m381) (b := (kb h)) (by omega) (by omega))) (fun _ => ?_)
            refine q_iconst (v := nI 0) (pc2 := 412) C dL_asks_411 (by decide) rfl ?_
            refine q_istore (lv' := [(11, .int (nI 0)), (10, .int (nI p8)), (9, .int (nI (blwN (blwP fp m381 p8) n))), (8, .int (nI m381)), (7, .int (nI m334)), (6, .ref o), (5, .int (sumf (fun k6 => if nI 29 < fp (35 + k6) then (nI 1 <<< (nI k6 &&& 31) : Int32) else nI 0) n)), (4, .ref (a 45)), (3, .ref (a 42)), (2, .ref (a 40)), (1, .int y), (0, .ref (a 30))]) (pc2 := 414) C dL_asks_412 (by decide) rfl rfl ?_
            refine q_eql (lv' := [(11, .int (nI 0)), (10, .int (nI p8)), (9, .int (nI ((blwN (blwP fp m381 p8) n) + (blwN (eqP fp m381 p8) 0)))), (8, .int (nI m381)), (7, .int (nI m334)), (6, .ref o), (5, .int (sumf (fun k6 => if nI 29 < fp (35 + k6) then (nI 1 <<< (nI k6 &&& 31) : Int32) else nI 0) n)), (4, .ref (a 45)), (3, .ref (a 42)), (2, .ref (a 40)), (1, .int y), (0, .ref (a 30))]) (rfl) ?_
            refine (lp_up (P := fun k9 => Cf p l e ({ frames := 9, cells := 10, slots := 64, locals := 180 }) s m args below meth c D A 15 6 34 Q 414 [(11, .int (nI k9)), (10, .int (nI p8)), (9, .int (nI ((blwN (blwP fp m381 p8) n) + (blwN (eqP fp m381 p8) k9)))), (8, .int (nI m381)), (7, .int (nI m334)), (6, .ref o), (5, .int (sumf (fun k6 => if nI 29 < fp (35 + k6) then (nI 1 <<< (nI k6 &&& 31) : Int32) else nI 0) n)), (4, .ref (a 45)), (3, .ref (a 42)), (2, .ref (a 40)), (1, .int y), (0, .ref (a 30))] [] (wU ct a o 4 g1 x fc fb fp fq fn fl)) n (fun k9 hk9 ihk9 => ?_) ?_ : Cf p l e ({ frames := 9, cells := 10, slots := 64, locals := 180 }) s m args below meth c D A 15 6 34 Q 414 [(11, .int (nI 0)), (10, .int (nI p8)), (9, .int (nI ((blwN (blwP fp m381 p8) n) + (blwN (eqP fp m381 p8) 0)))), (8, .int (nI m381)), (7, .int (nI m334)), (6, .ref o), (5, .int (sumf (fun k6 => if nI 29 < fp (35 + k6) then (nI 1 <<< (nI k6 &&& 31) : Int32) else nI 0) n)), (4, .ref (a 45)), (3, .ref (a 42)), (2, .ref (a 40)), (1, .int y), (0, .ref (a 30))] [] (wU ct a o 4 g1 x fc fb fp fq fn fl))
            · skip
              refine q_iload (pc2 := 416) C 0 dL_asks_414 rfl rfl ?_
              refine q_aload_n (pc2 := 417) C 9 dL_asks_416 rfl rfl rfl ?_
              refine q_iconst (v := nI 3) (pc2 := 418) C dL_asks_417 (by decide) rfl ?_
              refine q_iald (q0 := 26) (f := fc) (pc2 := 419) C 3 (wU_g0 ct a o 4 g1 x fc fb fp fq fn fl) rfl (rfl) (by decide) (by decide) dL_asks_418 rfl ?_
              refine q_eqi (y := nI n) (hc3) ?_
              refine q_icmp_ge (tgt := 471) (pc2 := 422) C dL_asks_419 (by decide) rfl (fun h9 => absurd h9 (nI_ge (a := k9) (b := n) (by omega) (by omega))) (fun _ => ?_)
              refine q_aload_n (pc2 := 423) C 8 dL_asks_422 rfl rfl rfl ?_
              refine q_bipush (v := nI 10) (pc2 := 425) C dL_asks_423 (by decide) rfl ?_
              refine q_iload (pc2 := 427) C 0 dL_asks_425 rfl rfl ?_
              refine q_iadd (v := nI (10 + k9)) (pc2 := 428) C dL_asks_427 (nI_add 10 k9) rfl ?_
              refine q_iald (q0 := 28) (f := fp) (pc2 := 429) C (10 + k9) (wU_g2 ct a o 4 g1 x fc fb fp fq fn fl) rfl (rfl) (by omega) (by decide) dL_asks_428 rfl ?_
              refine q_iload (pc2 := 431) C 3 dL_asks_429 rfl rfl ?_
              refine q_icmp_ne (tgt := 465) (pc2 := 434) C dL_asks_431 (by decide) rfl (fun c431 => ?_) (fun c431 => ?_)
              · skip
                refine q_iinc (v := nI (k9 + 1)) (lv' := [(11, .int (nI (k9 + 1))), (10, .int (nI p8)), (9, .int (nI ((blwN (blwP fp m381 p8) n) + (blwN (eqP fp m381 p8) k9)))), (8, .int (nI m381)), (7, .int (nI m334)), (6, .ref o), (5, .int (sumf (fun k6 => if nI 29 < fp (35 + k6) then (nI 1 <<< (nI k6 &&& 31) : Int32) else nI 0) n)), (4, .ref (a 45)), (3, .ref (a 42)), (2, .ref (a 40)), (1, .int y), (0, .ref (a 30))]) (pc2 := 468) C 0 dL_asks_465 rfl (show nI k9 + Int32.ofInt 1 = nI (k9 + 1) by rw [show Int32.ofInt 1 = nI 1 from by decide]; exact nI_add k9 1) (by decide) rfl rfl ?_
                refine q_goto (pc2 := 414) C dL_asks_468 (by decide) ?_
                refine q_eql (lv' := [(11, .int (nI (k9 + 1))), (10, .int (nI p8)), (9, .int (nI ((blwN (blwP fp m381 p8) n) + (blwN (eqP fp m381 p8) (k9 + 1))))), (8, .int (nI m381)), (7, .int (nI m334)), (6, .ref o), (5, .int (sumf (fun k6 => if nI 29 < fp (35 + k6) then (nI 1 <<< (nI k6 &&& 31) : Int32) else nI 0) n)), (4, .ref (a 45)), (3, .ref (a 42)), (2, .ref (a 40)), (1, .int y), (0, .ref (a 30))]) (by rw [blwN_s, if_neg (fun z : eqP fp m381 p8 k9 => c431 z.1)]) ?_
                exact ihk9
              · skip
                refine q_aload_n (pc2 := 435) C 8 dL_asks_434 rfl rfl rfl ?_
                refine q_bipush (v := nI 15) (pc2 := 437) C dL_asks_435 (by decide) rfl ?_
                refine q_iload (pc2 := 439) C 0 dL_asks_437 rfl rfl ?_
                refine q_iadd (v := nI (15 + k9)) (pc2 := 440) C dL_asks_439 (nI_add 15 k9) rfl ?_
                refine q_iald (q0 := 28) (f := fp) (pc2 := 441) C (15 + k9) (wU_g2 ct a o 4 g1 x fc fb fp fq fn fl) rfl (rfl) (by omega) (by decide) dL_asks_440 rfl ?_
                refine q_iload (pc2 := 443) C 1 dL_asks_441 rfl rfl ?_
                refine q_icmp_ne (tgt := 465) (pc2 := 446) C dL_asks_443 (by decide) rfl (fun c443 => ?_) (fun c443 => ?_)
                · skip
                  refine q_iinc (v := nI (k9 + 1)) (lv' := [(11, .int (nI (k9 + 1))), (10, .int (nI p8)), (9, .int (nI ((blwN (blwP fp m381 p8) n) + (blwN (eqP fp m381 p8) k9)))), (8, .int (nI m381)), (7, .int (nI m334)), (6, .ref o), (5, .int (sumf (fun k6 => if nI 29 < fp (35 + k6) then (nI 1 <<< (nI k6 &&& 31) : Int32) else nI 0) n)), (4, .ref (a 45)), (3, .ref (a 42)), (2, .ref (a 40)), (1, .int y), (0, .ref (a 30))]) (pc2 := 468) C 0 dL_asks_465 rfl (show nI k9 + Int32.ofInt 1 = nI (k9 + 1) by rw [show Int32.ofInt 1 = nI 1 from by decide]; exact nI_add k9 1) (by decide) rfl rfl ?_
                  refine q_goto (pc2 := 414) C dL_asks_468 (by decide) ?_
                  refine q_eql (lv' := [(11, .int (nI (k9 + 1))), (10, .int (nI p8)), (9, .int (nI ((blwN (blwP fp m381 p8) n) + (blwN (eqP fp m381 p8) (k9 + 1))))), (8, .int (nI m381)), (7, .int (nI m334)), (6, .ref o), (5, .int (sumf (fun k6 => if nI 29 < fp (35 + k6) then (nI 1 <<< (nI k6 &&& 31) : Int32) else nI 0) n)), (4, .ref (a 45)), (3, .ref (a 42)), (2, .ref (a 40)), (1, .int y), (0, .ref (a 30))]) (by rw [blwN_s, if_neg (fun z : eqP fp m381 p8 k9 => c443 z.2)]) ?_
                  exact ihk9
                · skip
                  refine q_aload_n (pc2 := 447) C 11 dL_asks_446 rfl rfl rfl ?_
                  refine q_iconst (v := nI 1) (pc2 := 448) C dL_asks_447 (by decide) rfl ?_
                  refine q_iload (pc2 := 450) C 3 dL_asks_448 rfl rfl ?_
                  refine q_iload (pc2 := 452) C 2 dL_asks_450 rfl rfl ?_
                  have he0 := blw_eq rp (by omega) hk9 c431 c443 (kb := kb) (h := h) (K := K)
                  have hrn := rnk_at rl rr rp (by omega) hk9 (by omega) c431 c443
                  have hrn2 : rnkX x (nI m381) (nI ((blwN (blwP fp m381 p8) n) + (blwN (eqP fp m381 p8) k9))) = nI k9 := by rw [he0, Nat.add_zero]; exact hrn
                  have hM := c_X3_onBar l hl D ct a x h hx4 hlt (kb h) hx5 (by omega) (nI m381) (nI ((blwN (blwP fp m381 p8) n) + (blwN (eqP fp m381 p8) k9)))
                  rw [hx5, hrn2] at hM
                  refine q_Hok_wU (pc2 := 455) (As := [.ref (a 30), .int (nI 1), .int (nI m381), .int (nI ((blwN (blwP fp m381 p8) n) + (blwN (eqP fp m381 p8) k9)))]) (st := []) (st2 := [.int (nI k9)]) (x' := x) C (c_L_of1 l D ct a x _ (nI m381) (nI ((blwN (blwP fp m381 p8) n) + (blwN (eqP fp m381 p8) k9))) _ _ hM) (by rw [if_pos (show 0 ≤ nI m381 ∧ nI m381 < nI (kb h) from ⟨nI_pos' (by omega), nI_lt (by omega) (by omega)⟩), if_pos (show nI k9 ≠ -1 from nI_m1 (by omega))]) (vx_cwSW 4 C.w gL_asks_L_of rfl rfl rfl (by decide +kernel) ⟨Nat.le_of_ble_eq_true rfl, Nat.le_of_ble_eq_true rfl⟩) dL_asks_452 rfl rfl (Nat.le_of_ble_eq_true rfl) ⟨Nat.le_of_ble_eq_true rfl, Nat.le_of_ble_eq_true rfl⟩ rfl rfl ?_
                  refine q_iload (pc2 := 457) C 0 dL_asks_455 rfl rfl ?_
                  refine q_icmp_eq (tgt := 462) (pc2 := 460) C dL_asks_457 (by decide) rfl (fun _ => ?_) (fun h9 => absurd (rfl) h9)
                  refine q_iinc (v := nI (((blwN (blwP fp m381 p8) n) + (blwN (eqP fp m381 p8) k9)) + 1)) (lv' := [(9, .int (nI (((blwN (blwP fp m381 p8) n) + (blwN (eqP fp m381 p8) k9)) + 1))), (11, .int (nI k9)), (10, .int (nI p8)), (8, .int (nI m381)), (7, .int (nI m334)), (6, .ref o), (5, .int (sumf (fun k6 => if nI 29 < fp (35 + k6) then (nI 1 <<< (nI k6 &&& 31) : Int32) else nI 0) n)), (4, .ref (a 45)), (3, .ref (a 42)), (2, .ref (a 40)), (1, .int y), (0, .ref (a 30))]) (pc2 := 465) C 2 dL_asks_462 rfl (show nI ((blwN (blwP fp m381 p8) n) + (blwN (eqP fp m381 p8) k9)) + Int32.ofInt 1 = nI (((blwN (blwP fp m381 p8) n) + (blwN (eqP fp m381 p8) k9)) + 1) by rw [show Int32.ofInt 1 = nI 1 from by decide]; exact nI_add ((blwN (blwP fp m381 p8) n) + (blwN (eqP fp m381 p8) k9)) 1) (by decide) rfl rfl ?_
                  refine q_iinc (v := nI (k9 + 1)) (lv' := [(11, .int (nI (k9 + 1))), (9, .int (nI (((blwN (blwP fp m381 p8) n) + (blwN (eqP fp m381 p8) k9)) + 1))), (10, .int (nI p8)), (8, .int (nI m381)), (7, .int (nI m334)), (6, .ref o), (5, .int (sumf (fun k6 => if nI 29 < fp (35 + k6) then (nI 1 <<< (nI k6 &&& 31) : Int32) else nI 0) n)), (4, .ref (a 45)), (3, .ref (a 42)), (2, .ref (a 40)), (1, .int y), (0, .ref (a 30))]) (pc2 := 468) C 1 dL_asks_465 rfl (show nI k9 + Int32.ofInt 1 = nI (k9 + 1) by rw [show Int32.ofInt 1 = nI 1 from by decide]; exact nI_add k9 1) (by decide) rfl rfl ?_
                  refine q_goto (pc2 := 414) C dL_asks_468 (by decide) ?_
                  refine q_lv (lv' := [(11, .int (nI (k9 + 1))), (10, .int (nI p8)), (9, .int (nI (((blwN (blwP fp m381 p8) n) + (blwN (eqP fp m381 p8) k9)) + 1))), (8, .int (nI m381)), (7, .int (nI m334)), (6, .ref o), (5, .int (sumf (fun k6 => if nI 29 < fp (35 + k6) then (nI 1 <<< (nI k6 &&& 31) : Int32) else nI 0) n)), (4, .ref (a 45)), (3, .ref (a 42)), (2, .ref (a 40)), (1, .int y), (0, .ref (a 30))]) [0, 2, 1, 3, 4, 5, 6, 7, 8, 9, 10, 11] rfl ?_
                  refine q_eql (lv' := [(11, .int (nI (k9 + 1))), (10, .int (nI p8)), (9, .int (nI ((blwN (blwP fp m381 p8) n) + (blwN (eqP fp m381 p8) (k9 + 1))))), (8, .int (nI m381)), (7, .int (nI m334)), (6, .ref o), (5, .int (sumf (fun k6 => if nI 29 < fp (35 + k6) then (nI 1 <<< (nI k6 &&& 31) : Int32) else nI 0) n)), (4, .ref (a 45)), (3, .ref (a 42)), (2, .ref (a 40)), (1, .int y), (0, .ref (a 30))]) (by rw [blwN_s, if_pos (⟨c431, c443⟩ : eqP fp m381 p8 k9), Nat.add_assoc]) ?_
                  exact ihk9
            · skip
              refine q_iload (pc2 := 416) C 0 dL_asks_414 rfl rfl ?_
              refine q_aload_n (pc2 := 417) C 9 dL_asks_416 rfl rfl rfl ?_
              refine q_iconst (v := nI 3) (pc2 := 418) C dL_asks_417 (by decide) rfl ?_
              refine q_iald (q0 := 26) (f := fc) (pc2 := 419) C 3 (wU_g0 ct a o 4 g1 x fc fb fp fq fn fl) rfl (rfl) (by decide) (by decide) dL_asks_418 rfl ?_
              refine q_eqi (y := nI n) (hc3) ?_
              refine q_icmp_ge (tgt := 471) (pc2 := 422) C dL_asks_419 (by decide) rfl (fun _ => ?_) (fun h9 => absurd (nI_le (a := n) (b := n) (by omega) (by omega)) h9)
              refine q_iinc (v := nI (p8 + 1)) (lv' := [(10, .int (nI (p8 + 1))), (11, .int (nI n)), (9, .int (nI ((blwN (blwP fp m381 p8) n) + (blwN (eqP fp m381 p8) n)))), (8, .int (nI m381)), (7, .int (nI m334)), (6, .ref o), (5, .int (sumf (fun k6 => if nI 29 < fp (35 + k6) then (nI 1 <<< (nI k6 &&& 31) : Int32) else nI 0) n)), (4, .ref (a 45)), (3, .ref (a 42)), (2, .ref (a 40)), (1, .int y), (0, .ref (a 30))]) (pc2 := 474) C 1 dL_asks_471 rfl (show nI p8 + Int32.ofInt 1 = nI (p8 + 1) by rw [show Int32.ofInt 1 = nI 1 from by decide]; exact nI_add p8 1) (by decide) rfl rfl ?_
              refine q_goto (pc2 := 392) C dL_asks_474 (by decide) ?_
              refine q_lv (lv' := [(10, .int (nI (p8 + 1))), (9, .int (nI ((blwN (blwP fp m381 p8) n) + (blwN (eqP fp m381 p8) n)))), (8, .int (nI m381)), (7, .int (nI m334)), (6, .ref o), (5, .int (sumf (fun k6 => if nI 29 < fp (35 + k6) then (nI 1 <<< (nI k6 &&& 31) : Int32) else nI 0) n)), (4, .ref (a 45)), (3, .ref (a 42)), (2, .ref (a 40)), (1, .int y), (0, .ref (a 30))]) [0, 2, 3, 4, 5, 6, 7, 8, 9, 10, 11] rfl ?_
              refine q_eql (lv' := [(10, .int (nI (p8 + 1))), (9, .int (nI (blwN (blwP fp m381 (p8 + 1)) n))), (8, .int (nI m381)), (7, .int (nI m334)), (6, .ref o), (5, .int (sumf (fun k6 => if nI 29 < fp (35 + k6) then (nI 1 <<< (nI k6 &&& 31) : Int32) else nI 0) n)), (4, .ref (a 45)), (3, .ref (a 42)), (2, .ref (a 40)), (1, .int y), (0, .ref (a 30))]) (by rw [blw_add rr hn5 (by omega) n (Nat.le_refl n)]) ?_
              exact ihp8
          · skip
            refine q_iload (pc2 := 394) C 0 dL_asks_392 rfl rfl ?_
            refine q_bipush (v := nI 101) (pc2 := 396) C dL_asks_394 (by decide) rfl ?_
            refine q_icmp_ge (tgt := 477) (pc2 := 399) C dL_asks_396 (by decide) rfl (fun _ => ?_) (fun h9 => absurd (nI_le (a := 101) (b := 101) (by omega) (by omega)) h9)
            refine q_lv (lv' := [(9, .int (nI (blwN (blwP fp m381 101) n))), (8, .int (nI m381)), (7, .int (nI m334)), (6, .ref o), (5, .int (sumf (fun k6 => if nI 29 < fp (35 + k6) then (nI 1 <<< (nI k6 &&& 31) : Int32) else nI 0) n)), (4, .ref (a 45)), (3, .ref (a 42)), (2, .ref (a 40)), (1, .int y), (0, .ref (a 30))]) [1, 2, 3, 4, 5, 6, 7, 8, 9, 10] rfl ?_
            exact hj477 (blwN (blwP fp m381 101) n) ⟨fun _ => rnk_no rl rr (by omega), Nat.le_trans (blwN_le _ n) hn5⟩
        · skip
          refine q_iconst (v := nI 0) (pc2 := 387) C dL_asks_386 (by decide) rfl ?_
          refine q_istore (lv' := [(9, .int (nI 0)), (8, .int (nI m381)), (7, .int (nI m334)), (10, .int (-101)), (6, .ref o), (5, .int (sumf (fun k6 => if nI 29 < fp (35 + k6) then (nI 1 <<< (nI k6 &&& 31) : Int32) else nI 0) n)), (4, .ref (a 45)), (3, .ref (a 42)), (2, .ref (a 40)), (1, .int y), (0, .ref (a 30))]) (pc2 := 389) C dL_asks_387 (by decide) rfl rfl ?_
          refine q_iconst (v := nI 0) (pc2 := 390) C dL_asks_389 (by decide) rfl ?_
          refine q_istore (lv' := [(10, .int (nI 0)), (9, .int (nI 0)), (8, .int (nI m381)), (7, .int (nI m334)), (6, .ref o), (5, .int (sumf (fun k6 => if nI 29 < fp (35 + k6) then (nI 1 <<< (nI k6 &&& 31) : Int32) else nI 0) n)), (4, .ref (a 45)), (3, .ref (a 42)), (2, .ref (a 40)), (1, .int y), (0, .ref (a 30))]) (pc2 := 392) C dL_asks_390 (by decide) rfl rfl ?_
          refine q_iload (pc2 := 394) C 0 dL_asks_392 rfl rfl ?_
          refine q_bipush (v := nI 101) (pc2 := 396) C dL_asks_394 (by decide) rfl ?_
          refine q_icmp_ge (tgt := 477) (pc2 := 399) C dL_asks_396 (by decide) rfl (fun h9 => absurd h9 (by decide)) (fun _ => ?_)
          refine q_iload (pc2 := 401) C 2 dL_asks_399 rfl rfl ?_
          refine q_aload_n (pc2 := 402) C 8 dL_asks_401 rfl rfl rfl ?_
          refine q_iconst (v := nI 1) (pc2 := 403) C dL_asks_402 (by decide) rfl ?_
          refine q_aload_n (pc2 := 404) C 8 dL_asks_403 rfl rfl rfl ?_
          refine q_iconst (v := nI 0) (pc2 := 405) C dL_asks_404 (by decide) rfl ?_
          refine q_iald (q0 := 26) (f := fc) (pc2 := 406) C 0 (wU_g0 ct a o 4 g1 x fc fb fp fq fn fl) rfl (rfl) (by decide) (by decide) dL_asks_405 rfl ?_
          refine q_eqi (y := nI h) (hc0) ?_
          refine q_iadd (v := nI (1 + h)) (pc2 := 407) C dL_asks_406 (nI_add 1 h) rfl ?_
          refine q_iald (q0 := 26) (f := fc) (pc2 := 408) C (1 + h) (wU_g0 ct a o 4 g1 x fc fb fp fq fn fl) rfl (rfl) (by omega) (by decide) dL_asks_407 rfl ?_
          refine q_eqi (y := nI (kb h)) (hck) ?_
          refine q_icmp_ge (tgt := 477) (pc2 := 411) C dL_asks_408 (by decide) rfl (fun _ => ?_) (fun h9 => absurd (nI_le (a := (kb h)) (b := m381) (by omega) (by omega)) h9)
          refine q_lv (lv' := [(9, .int (nI 0)), (8, .int (nI m381)), (7, .int (nI m334)), (6, .ref o), (5, .int (sumf (fun k6 => if nI 29 < fp (35 + k6) then (nI 1 <<< (nI k6 &&& 31) : Int32) else nI 0) n)), (4, .ref (a 45)), (3, .ref (a 42)), (2, .ref (a 40)), (1, .int y), (0, .ref (a 30))]) [1, 2, 3, 4, 5, 6, 7, 8, 9, 10] rfl ?_
          exact hj477 0 ⟨fun z => absurd z (Nat.not_lt.mpr hbk), by omega⟩
      rcases Nat.lt_or_ge m334 4 with h4 | h4
      · skip
        refine q_aload_n (pc2 := 340) C 10 dL_asks_339 rfl rfl rfl ?_
        refine q_iconst (v := nI 4) (pc2 := 341) C dL_asks_340 (by decide) rfl ?_
        refine q_iload (pc2 := 343) C 0 dL_asks_341 rfl rfl ?_
        refine q_iconst (v := nI 0) (pc2 := 344) C dL_asks_343 (by decide) rfl ?_
        have hM := c_X3_load l hl D ct a x n hx0 (by omega) q hx16 (by omega) hfd (nI m334)
        refine q_Hok_wU (pc2 := 347) (As := [.ref (a 30), .int (nI 4), .int (nI m334), .int (nI 0)]) (st := []) (st2 := [.int (sumf (fun k => if x 14 k = nI m334 then x 15 k * shX x k / 100 else 0) n)]) (x' := x) C (c_L_of4 l D ct a x _ (nI m334) (nI 0) _ _ hM) (if_pos (show 0 ≤ nI m334 ∧ nI m334 < 4 from ⟨nI_pos' (by omega), nI_lt (b := 4) (by omega) (by omega)⟩)) (vx_cwSW 4 C.w gL_asks_L_of rfl rfl rfl (by decide +kernel) ⟨Nat.le_of_ble_eq_true rfl, Nat.le_of_ble_eq_true rfl⟩) dL_asks_344 rfl rfl (Nat.le_of_ble_eq_true rfl) ⟨Nat.le_of_ble_eq_true rfl, Nat.le_of_ble_eq_true rfl⟩ rfl rfl ?_
        refine q_iload (pc2 := 349) C 0 dL_asks_347 rfl rfl ?_
        refine q_iconst (v := nI 4) (pc2 := 350) C dL_asks_349 (by decide) rfl ?_
        refine q_icmp_ge (tgt := 361) (pc2 := 353) C dL_asks_350 (by decide) rfl (fun h9 => absurd h9 (nI_ge (a := m334) (b := 4) (by omega) (by omega))) (fun _ => ?_)
        refine q_aload (pc2 := 355) C 4 dL_asks_353 rfl rfl ?_
        refine q_iload (pc2 := 357) C 0 dL_asks_355 rfl rfl ?_
        refine q_iald (q0 := 32) (f := g1) (pc2 := 358) C m334 (wU_g6 ct a o 4 g1 x fc fb fp fq fn fl) rfl (rfl) (by omega) (by decide) dL_asks_357 rfl ?_
        refine q_eqi (y := (ldG fp K L n m334)) (hyk8 m334 h4) ?_
        refine q_goto (pc2 := 363) C dL_asks_358 (by decide) ?_
        refine q_icmp_ne (tgt := 375) (pc2 := 366) C dL_asks_363 (by decide) rfl (fun h9 => absurd (load_eq rl hsh m334) h9) (fun _ => ?_)
        refine q_widen (c2 := 6) (s2 := 34) (Nat.le_of_ble_eq_true rfl) (Nat.le_of_ble_eq_true rfl) ?_
        exact hj366
      · skip
        refine q_aload_n (pc2 := 340) C 10 dL_asks_339 rfl rfl rfl ?_
        refine q_iconst (v := nI 4) (pc2 := 341) C dL_asks_340 (by decide) rfl ?_
        refine q_iload (pc2 := 343) C 0 dL_asks_341 rfl rfl ?_
        refine q_iconst (v := nI 0) (pc2 := 344) C dL_asks_343 (by decide) rfl ?_
        have hM := c_X3_load l hl D ct a x n hx0 (by omega) q hx16 (by omega) hfd (nI m334)
        refine q_Hno_wU (pc2 := 347) (As := [.ref (a 30), .int (nI 4), .int (nI m334), .int (nI 0)]) (st := []) (st2 := [.int (-101)]) (c2 := 6) (s2 := 34) C (c_L_of4 l D ct a x _ (nI m334) (nI 0) _ _ hM) (if_neg (fun z : 0 ≤ nI m334 ∧ nI m334 < 4 => absurd z.2 (nI_nlt (b := 4) (by omega) (by omega)))) (by decide +kernel) (vx_cwSW 4 C.w gL_asks_L_of rfl rfl rfl (by decide +kernel) ⟨Nat.le_of_ble_eq_true rfl, Nat.le_of_ble_eq_true rfl⟩) dL_asks_344 rfl rfl (Nat.le_of_ble_eq_true rfl) ⟨Nat.le_of_ble_eq_true rfl, Nat.le_of_ble_eq_true rfl⟩ rfl rfl (hcd1I _) rfl rfl ?_
        refine q_iload (pc2 := 349) C 0 dL_asks_347 rfl rfl ?_
        refine q_iconst (v := nI 4) (pc2 := 350) C dL_asks_349 (by decide) rfl ?_
        refine q_icmp_ge (tgt := 361) (pc2 := 353) C dL_asks_350 (by decide) rfl (fun _ => ?_) (fun h9 => absurd (nI_le (a := 4) (b := m334) (by omega) (by omega)) h9)
        refine q_bipush (v := (-101)) (pc2 := 363) C dL_asks_361 (by decide) rfl ?_
        refine q_icmp_ne (tgt := 375) (pc2 := 366) C dL_asks_363 (by decide) rfl (fun h9 => absurd (by decide) h9) (fun _ => ?_)
        exact hj366
    refine q_iload (pc2 := 165) C 3 dL_asks_163 rfl rfl ?_
    refine q_iload_n (pc2 := 166) C 9 dL_asks_165 rfl rfl rfl ?_
    refine q_iconst (v := nI 3) (pc2 := 167) C dL_asks_166 (by decide) rfl ?_
    refine q_ishr (v := (y >>> (nI 3 &&& 31))) (pc2 := 168) C dL_asks_167 (rfl) rfl ?_
    refine q_bipush (v := nI 6) (pc2 := 170) C dL_asks_168 (by decide) rfl ?_
    refine q_some (pc2 := 173) C (v := (y >>> (nI 3 &&& 31))) 6 (by omega) (by omega) (va_cwS 2 C.w gL_asks_L_some rfl rfl rfl (by decide +kernel) ⟨Nat.le_of_ble_eq_true rfl, Nat.le_of_ble_eq_true rfl⟩) dL_asks_170 rfl ⟨Nat.le_of_ble_eq_true rfl, Nat.le_of_ble_eq_true rfl⟩ (Nat.le_of_ble_eq_true rfl) (fun m170 hm170 => ?_)
    refine q_icmp_ne (tgt := 192) (pc2 := 176) C dL_asks_173 (by decide) rfl (fun c173 => ?_) (fun c173 => ?_)
    · skip
      have k173 : n ≠ m170 := fun z => c173 ((nI_eq (a := n) (b := m170) (by omega) (by omega)).mpr z)
      refine q_widen (c2 := 5) (s2 := 28) (Nat.le_of_ble_eq_true rfl) (Nat.le_of_ble_eq_true rfl) ?_
      exact hj192
    · skip
      have k173 : n = m170 := (nI_eq (a := n) (b := m170) (by omega) (by omega)).mp (c173)
      refine q_aload_n (pc2 := 177) C 10 dL_asks_176 rfl rfl rfl ?_
      refine q_bipush (v := nI 7) (pc2 := 179) C dL_asks_177 (by decide) rfl ?_
      refine q_iload (pc2 := 181) C 3 dL_asks_179 rfl rfl ?_
      refine q_iconst (v := nI 0) (pc2 := 182) C dL_asks_181 (by decide) rfl ?_
      have hM := c_X3_wantedByCues l hl D ct a x n hx0 (by omega) q hx16 (by omega) hfd (nI n)
      rw [hx0, nI_clamp (show n < 2 ^ 31 by omega)] at hM
      refine q_Hno_wU (pc2 := 185) (As := [.ref (a 30), .int (nI 7), .int (nI n), .int (nI 0)]) (st := []) (st2 := [.int (-101)]) (c2 := 5) (s2 := 28) C (c_L_of7 l D ct a x _ (nI n) (nI 0) _ _ hM) (if_neg (fun z : 0 ≤ nI n ∧ nI n < nI n => absurd z.2 (nI_nlt (by omega) (by omega)))) (by decide +kernel) (vx_cwSW 4 C.w gL_asks_L_of rfl rfl rfl (by decide +kernel) ⟨Nat.le_of_ble_eq_true rfl, Nat.le_of_ble_eq_true rfl⟩) dL_asks_182 rfl rfl (Nat.le_of_ble_eq_true rfl) ⟨Nat.le_of_ble_eq_true rfl, Nat.le_of_ble_eq_true rfl⟩ rfl rfl (hcd1I _) rfl rfl ?_
      refine q_iload (pc2 := 187) C 0 dL_asks_185 rfl rfl ?_
      refine q_icmp_eq (tgt := 192) (pc2 := 190) C dL_asks_187 (by decide) rfl (fun _ => ?_) (fun h9 => absurd (by decide) h9)
      exact hj192

