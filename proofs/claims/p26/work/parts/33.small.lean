/-! the law's own small methods -/
def smU (v : Int32) : Int32 := (v.toUInt32 >>> ((nI 2).toUInt32 &&& Int32.toUInt32 31)).toInt32
def smF (v n : Int32) : Int32 := smU v - smU v / n * n
theorem smU_eq (v : Int32) : smU v = nI (v.toBitVec.toNat / 2 ^ 2) := by
  have h : (smU v).toBitVec.toNat = v.toBitVec.toNat / 2 ^ 2 := pk_ushr v (nI 2) 2 (by decide)
  have hv := v.toBitVec.isLt
  apply Int32.toBitVec_inj.mp
  apply BitVec.eq_of_toNat_eq
  rw [h, pk_tn (by omega)]
theorem sm_lt (v : Int32) {n : Nat} (h0 : 0 < n) (h1 : n < 2 ^ 31) : ∃ m, m < n ∧ smF v (nI n) = nI m := by
  have hv := v.toBitVec.isLt
  refine ⟨v.toBitVec.toNat / 2 ^ 2 % n, Nat.mod_lt _ h0, ?_⟩
  unfold smF
  rw [smU_eq]
  exact pk_rem (by omega) h0 h1
def hsN (k : Nat) : Nat := if k < 2 then 1 else if k = 2 then 4 else 12
def hvN (k : Nat) : Nat := if k = 0 then 4 else if k = 1 then 9 else if k = 2 then 12 else 25
def wtN (k : Nat) : Nat := if k = 0 then 1000 else if k = 1 then 750 else if k = 2 then 500 else 800
theorem sumf_s (f : Nat → Int32) (k : Nat) : sumf f (k + 1) = sumf f k + f k := rfl
theorem all_s {p : Nat → Prop} {k : Nat} (h : ∀ t, t < k → p t) (hk : p k) : ∀ t, t < k + 1 → p t := fun t ht => by
  rcases Nat.lt_succ_iff_lt_or_eq.mp ht with h1 | h1
  · exact h t h1
  · rw [h1]; exact hk
/-- the sum of the weights that hang on a bar, one lamp aside -/
def wgL (fp : Nat → Int32) (K : Nat → Nat) (bar aside : Int32) (n : Nat) : Int32 := sumf (fun k => if fp (10 + k) = bar ∧ nI k ≠ aside then nI (hvN (K k)) else 0) n
/-- a level on its way -/
def fdI (u w : Int32) (d f cv : Nat) : Int32 := if f ≤ d then w else if cv = 0 then u + ((w - u) * nI d + nI (100 * f)) / nI f - nI 100 else if cv = 1 then u + ((w - u) * nI d * nI d + nI (100 * f * f)) / nI (f * f) - nI 100 else u
abbrev okF (fp : Nat → Int32) (i j : Nat) (v : Int32) (t : Nat) : Prop := t = i ∨ fp (10 + t) ≠ nI j ∨ nI 2 < fp (15 + t) - v ∨ fp (15 + t) - v < -2
abbrev fit0 (fb fp : Nat → Int32) (K : Nat → Nat) (n h kb i j : Nat) (v : Int32) : Prop := j < kb ∧ nI 0 ≤ v ∧ v ≤ fb (2 * h + j) ∧ wgL fp K (nI j) (nI i) n + nI (hvN (K i)) ≤ fb (4 + (2 * h + j))
abbrev fitL (fb fp : Nat → Int32) (K : Nat → Nat) (n h kb i j : Nat) (v : Int32) (k : Nat) : Prop := fit0 fb fp K n h kb i j v ∧ ∀ t, t < k → okF fp i j v t
/-- the last of the first c cues that names lamp k (its number + 1), where its level came from and goes to -/
def wst (fl : Nat → Int32) (S F V : Nat → Nat) (k : Nat) : Nat → Int32 × Int32 × Nat
  | 0 => (0, 0, 0)
  | c + 1 => if fl (8 * c + 3 + k) < 0 then wst fl S F V k c else
      (if (wst fl S F V k c).2.2 = 0 then 0 else fdI (wst fl S F V k c).1 (wst fl S F V k c).2.1 (S c - S ((wst fl S F V k c).2.2 - 1)) (F ((wst fl S F V k c).2.2 - 1)) (V ((wst fl S F V k c).2.2 - 1)), fl (8 * c + 3 + k), c + 1)
def wres (S F V : Nat → Nat) (T : Nat) (z : Int32 × Int32 × Nat) : Int32 := if z.2.2 = 0 then 0 else fdI z.1 z.2.1 (T - S (z.2.2 - 1)) (F (z.2.2 - 1)) (V (z.2.2 - 1))
theorem wst_s (fl : Nat → Int32) (S F V : Nat → Nat) (k c : Nat) : wst fl S F V k (c + 1) = if fl (8 * c + 3 + k) < 0 then wst fl S F V k c else
      (if (wst fl S F V k c).2.2 = 0 then 0 else fdI (wst fl S F V k c).1 (wst fl S F V k c).2.1 (S c - S ((wst fl S F V k c).2.2 - 1)) (F ((wst fl S F V k c).2.2 - 1)) (V ((wst fl S F V k c).2.2 - 1)), fl (8 * c + 3 + k), c + 1) := rfl
def lstI : Nat → Int32
  | 0 => -1
  | m + 1 => nI m
theorem wst_le (fl : Nat → Int32) (S F V : Nat → Nat) (k : Nat) : ∀ c, (wst fl S F V k c).2.2 ≤ c
  | 0 => Nat.le_refl 0
  | c + 1 => by
    rw [wst_s]
    split
    · exact Nat.le_succ_of_le (wst_le fl S F V k c)
    · exact Nat.le_refl _
/-- what the law's list of begun cues holds -/
def flOk (fl : Nat → Int32) (S F V : Nat → Nat) (b T : Nat) : Prop := (∀ c, c < b → fl (8 * c) = nI (S c) ∧ fl (8 * c + 1) = nI (F c) ∧ fl (8 * c + 2) = nI (V c) ∧ F c ≤ 50 ∧ V c ≤ 2 ∧ S c ≤ T) ∧ (∀ c d, c ≤ d → d < b → S c ≤ S d)
def wanN (fl : Nat → Int32) (S F V : Nat → Nat) (T k b : Nat) : Int32 := wres S F V T (wst fl S F V k b)
def levN (fp fl : Nat → Int32) (S F V : Nat → Nat) (T i b : Nat) : Int32 := if fp (10 + i) < 0 ∨ fp (30 + i) = 1 then 0 else wanN fl S F V T i b
/-- one cue begins -/
def bg1 (T : Int32) (fq fn : Nat → Int32) (b : Nat) (fl : Nat → Int32) : Nat → Int32 := fun j => if j = 8 * b then T else if j = 8 * b + 1 then fq b else if j = 8 * b + 2 then fq (4 + b) else if 8 * b + 3 ≤ j ∧ j < 8 * b + 8 then fn (5 * b + (j - (8 * b + 3))) else fl j
def bgR (T : Int32) (fq fn : Nat → Int32) : Nat → Nat → (Nat → Int32) → Nat × (Nat → Int32)
  | 0, b, fl => (b, fl)
  | k + 1, b, fl => if fq (8 + b) = 0 then bgR T fq fn k (b + 1) (bg1 T fq fn b fl) else (b + 1, bg1 T fq fn b fl)
def fcR (fc : Nat → Int32) (T : Int32) (b b' : Nat) : Nat → Int32 := fun j => if j = 5 then nI b' else if j = 6 ∧ b < b' then T else fc j
theorem fcR_0 {fc : Nat → Int32} {T : Int32} {b : Nat} (h : fc 5 = nI b) : fc = fcR fc T b b := by
  funext j
  unfold fcR
  by_cases h5 : j = 5
  · rw [if_pos h5, h5, h]
  · rw [if_neg h5, if_neg (fun z => Nat.lt_irrefl _ z.2)]
theorem fcR_5 {fc : Nat → Int32} {T : Int32} {b b' : Nat} : fcR fc T b b' 5 = nI b' := if_pos rfl
theorem fcR_o {fc : Nat → Int32} {T : Int32} {b b' j : Nat} (h5 : j ≠ 5) (h6 : j ≠ 6) : fcR fc T b b' j = fc j := by unfold fcR; rw [if_neg h5, if_neg (fun z => h6 z.1)]
theorem fcR_s {fc : Nat → Int32} {T : Int32} {b b1 : Nat} (h : b ≤ b1) : upd (upd (fcR fc T b b1) 6 T) 5 (nI (b1 + 1)) = fcR fc T b (b1 + 1) := by
  funext j
  by_cases h5 : j = 5
  · subst h5; rw [upd_s, fcR_5]
  · rw [upd_n h5]
    by_cases h6 : j = 6
    · subst h6
      rw [upd_s]
      unfold fcR
      rw [if_neg h5, if_pos ⟨rfl, by omega⟩]
    · rw [upd_n h6, fcR_o h5 h6, fcR_o h5 h6]
theorem bgR_le (T : Int32) (fq fn : Nat → Int32) : ∀ (k b : Nat) (fl : Nat → Int32), b ≤ (bgR T fq fn k b fl).1 ∧ (bgR T fq fn k b fl).1 ≤ b + k
  | 0, b, fl => ⟨Nat.le_refl b, Nat.le_refl b⟩
  | k + 1, b, fl => by
    unfold bgR
    split
    · have := bgR_le T fq fn k (b + 1) (bg1 T fq fn b fl)
      exact ⟨by omega, by omega⟩
    · exact ⟨Nat.le_succ b, by show b + 1 ≤ b + (k + 1); omega⟩

set_option maxHeartbeats 4000000 in
set_option maxRecDepth 100000 in
theorem c_L_some (l : Launch) (D : va_G) (ct : Nat → ClassId) (v n : Int32) (hne : ¬ n = 0) : qM l yL_some wsL_some ({ frames := 0, cells := 0, slots := 0, locals := 0 }) D ct [.int v, .int n] [] (qD (some (.int (smF v n))) []) 0 0 := by
  refine q_start (ret := some .int) (lv := [(0, .int v), (1, .int n)]) (by decide +kernel) rfl (Nat.le_of_ble_eq_true rfl) rfl ?_
  intro p e s m args below meth c A Q C hQ hnm
  refine q_iload_n (pc2 := 1) C 0 dL_some_0 rfl rfl rfl ?_
  refine q_iconst (v := nI 2) (pc2 := 2) C dL_some_1 (by decide) rfl ?_
  refine q_iushr (v := (smU v)) (pc2 := 3) C dL_some_2 (rfl) rfl ?_
  refine q_iload_n (pc2 := 4) C 1 dL_some_3 rfl rfl rfl ?_
  refine q_irem (v := (smF v n)) (pc2 := 5) C dL_some_4 (hne) (rfl) rfl ?_
  exact q_zret C hQ rfl (rfl) (Nat.zero_le _) (Nat.zero_le _) dL_some_5 ⟨rfl, rfl⟩

section QSOME
variable {p : Program} {l : Launch} {e : Env} {R : Room} {s : State} {m : MethodId} {args : Array Value} {below : List Frame} {meth : Method} {c : Code} {D : va_G} {ct : Nat → ClassId} {A : Nat → Prop} {nL cells slots : Nat} {Q : State → Prop}
variable {cc : ByteArray} {ret : Option FieldType} {Ts : List Cond} {own : String} {pc pc2 : Nat} {lv : List (Nat × Value)} {st : List Value} {ws : va_W} {index : Nat} {bytes : ByteArray} {maxL : Nat} {ret' : Option FieldType}
/-- a call of some: a number below n -/
theorem q_some (C : Cx p s m args c meth cc nL ret Ts own D ct A) {v : Int32} (n : Nat) (h0 : 0 < n) (h1 : n < 2 ^ 31) (cw : CallB R s args own index yL_some bytes maxL ret' wsL_some ({ frames := 0, cells := 0, slots := 0, locals := 0 }) 0 0 2 ∧ (Cond.static yL_some).before args s = true)
    (hdg : decode cc pc = .ok (.invokestatic index, 3)) (hpc : pc + 3 = pc2) (hf : cells ≤ R.cells ∧ slots ≤ R.slots) (hW : (st.map fun v => v.category).sum ≤ 8) (kk : ∀ k, k < n → Cf p l e R s m args below meth c D A nL cells slots Q pc2 lv (.int (nI k) :: st) ws) : Cf p l e R s m args below meth c D A nL cells slots Q pc lv (.int (nI n) :: .int v :: st) ws := by
  obtain ⟨k, hk, ek⟩ := sm_lt v h0 h1
  refine q_s0 (As := [.int v, .int (nI n)]) (st := st) (st2 := .int (smF v (nI n)) :: st) C (c_L_some l D ct v (nI n) (nI_ne0 h0 h1)) cw hdg rfl rfl hW hf rfl hpc ?_
  rw [ek]
  exact kk k hk
end QSOME

set_option maxHeartbeats 4000000 in
set_option maxRecDepth 100000 in
theorem c_L_has (l : Launch) (D : va_G) (ct : Nat → ClassId) (k : Nat) (hk : k < 4) : qM l yL_has wsL_has ({ frames := 0, cells := 0, slots := 0, locals := 0 }) D ct [.int (nI k)] [] (qD (some (.int (nI (hsN k)))) []) 0 0 := by
  refine q_start (ret := some .int) (lv := [(0, .int (nI k))]) (by decide +kernel) rfl (Nat.le_of_ble_eq_true rfl) rfl ?_
  intro p e s m args below meth c A Q C hQ hnm
  refine q_iload_n (pc2 := 1) C 0 dL_has_0 rfl rfl rfl ?_
  refine q_iconst (v := nI 2) (pc2 := 2) C dL_has_1 (by decide) rfl ?_
  refine q_icmp_ge (tgt := 9) (pc2 := 5) C dL_has_2 (by decide) rfl (fun c2 => ?_) (fun c2 => ?_)
  · skip
    have k2 : 2 ≤ k := (nI_leI (a := 2) (b := k) (by omega) (by omega)).mp c2
    refine q_iload_n (pc2 := 10) C 0 dL_has_9 rfl rfl rfl ?_
    refine q_iconst (v := nI 2) (pc2 := 11) C dL_has_10 (by decide) rfl ?_
    refine q_icmp_ne (tgt := 18) (pc2 := 14) C dL_has_11 (by decide) rfl (fun c11 => ?_) (fun c11 => ?_)
    · skip
      have k11 : k ≠ 2 := fun z => c11 ((nI_eq (a := k) (b := 2) (by omega) (by omega)).mpr z)
      refine q_bipush (v := nI 12) (pc2 := 20) C dL_has_18 (by decide) rfl ?_
      exact q_zret C hQ rfl (rfl) (Nat.zero_le _) (Nat.zero_le _) dL_has_20 ⟨by unfold hsN; rw [if_neg (by omega), if_neg (by omega)], rfl⟩
    · skip
      have k11 : k = 2 := (nI_eq (a := k) (b := 2) (by omega) (by omega)).mp (c11)
      refine q_iconst (v := nI 4) (pc2 := 15) C dL_has_14 (by decide) rfl ?_
      refine q_goto (pc2 := 20) C dL_has_15 (by decide) ?_
      exact q_zret C hQ rfl (rfl) (Nat.zero_le _) (Nat.zero_le _) dL_has_20 ⟨by unfold hsN; rw [if_neg (by omega), if_pos k11], rfl⟩
  · skip
    have k2 : k < 2 := (nI_ltI (a := k) (b := 2) (by omega) (by omega)).mp (Int32.not_le.mp c2)
    refine q_iconst (v := nI 1) (pc2 := 6) C dL_has_5 (by decide) rfl ?_
    refine q_goto (pc2 := 20) C dL_has_6 (by decide) ?_
    exact q_zret C hQ rfl (rfl) (Nat.zero_le _) (Nat.zero_le _) dL_has_20 ⟨by unfold hsN; rw [if_pos k2], rfl⟩

set_option maxHeartbeats 4000000 in
set_option maxRecDepth 100000 in
theorem c_L_heavy (l : Launch) (D : va_G) (ct : Nat → ClassId) (k : Nat) (hk : k < 4) : qM l yL_heavy wsL_heavy ({ frames := 0, cells := 0, slots := 0, locals := 0 }) D ct [.int (nI k)] [] (qD (some (.int (nI (hvN k)))) []) 0 0 := by
  refine q_start (ret := some .int) (lv := [(0, .int (nI k))]) (by decide +kernel) rfl (Nat.le_of_ble_eq_true rfl) rfl ?_
  intro p e s m args below meth c A Q C hQ hnm
  refine q_iload_n (pc2 := 1) C 0 dL_heavy_0 rfl rfl rfl ?_
  refine q_if_ne (tgt := 8) (pc2 := 4) C dL_heavy_1 (by decide) rfl (fun c1 => ?_) (fun c1 => ?_)
  · skip
    have k1 : k ≠ 0 := fun z => c1 ((nI_eq (a := k) (b := 0) (by omega) (by omega)).mpr z)
    refine q_iload_n (pc2 := 9) C 0 dL_heavy_8 rfl rfl rfl ?_
    refine q_iconst (v := nI 1) (pc2 := 10) C dL_heavy_9 (by decide) rfl ?_
    refine q_icmp_ne (tgt := 18) (pc2 := 13) C dL_heavy_10 (by decide) rfl (fun c10 => ?_) (fun c10 => ?_)
    · skip
      have k10 : k ≠ 1 := fun z => c10 ((nI_eq (a := k) (b := 1) (by omega) (by omega)).mpr z)
      refine q_iload_n (pc2 := 19) C 0 dL_heavy_18 rfl rfl rfl ?_
      refine q_iconst (v := nI 2) (pc2 := 20) C dL_heavy_19 (by decide) rfl ?_
      refine q_icmp_ne (tgt := 28) (pc2 := 23) C dL_heavy_20 (by decide) rfl (fun c20 => ?_) (fun c20 => ?_)
      · skip
        have k20 : k ≠ 2 := fun z => c20 ((nI_eq (a := k) (b := 2) (by omega) (by omega)).mpr z)
        refine q_bipush (v := nI 25) (pc2 := 30) C dL_heavy_28 (by decide) rfl ?_
        exact q_zret C hQ rfl (rfl) (Nat.zero_le _) (Nat.zero_le _) dL_heavy_30 ⟨by unfold hvN; rw [if_neg (by omega), if_neg (by omega), if_neg (by omega)], rfl⟩
      · skip
        have k20 : k = 2 := (nI_eq (a := k) (b := 2) (by omega) (by omega)).mp (c20)
        refine q_bipush (v := nI 12) (pc2 := 25) C dL_heavy_23 (by decide) rfl ?_
        refine q_goto (pc2 := 30) C dL_heavy_25 (by decide) ?_
        exact q_zret C hQ rfl (rfl) (Nat.zero_le _) (Nat.zero_le _) dL_heavy_30 ⟨by unfold hvN; rw [if_neg (by omega), if_neg (by omega), if_pos k20], rfl⟩
    · skip
      have k10 : k = 1 := (nI_eq (a := k) (b := 1) (by omega) (by omega)).mp (c10)
      refine q_bipush (v := nI 9) (pc2 := 15) C dL_heavy_13 (by decide) rfl ?_
      refine q_goto (pc2 := 30) C dL_heavy_15 (by decide) ?_
      exact q_zret C hQ rfl (rfl) (Nat.zero_le _) (Nat.zero_le _) dL_heavy_30 ⟨by unfold hvN; rw [if_neg (by omega), if_pos k10], rfl⟩
  · skip
    have k1 : k = 0 := (nI_eq (a := k) (b := 0) (by omega) (by omega)).mp (c1)
    refine q_iconst (v := nI 4) (pc2 := 5) C dL_heavy_4 (by decide) rfl ?_
    refine q_goto (pc2 := 30) C dL_heavy_5 (by decide) ?_
    exact q_zret C hQ rfl (rfl) (Nat.zero_le _) (Nat.zero_le _) dL_heavy_30 ⟨by unfold hvN; rw [if_pos k1], rfl⟩

set_option maxHeartbeats 4000000 in
set_option maxRecDepth 100000 in
theorem c_L_weight (l : Launch) (D : va_G) (ct : Nat → ClassId) (a : Nat → Nat) (fc fb fp fq fn fl : Nat → Int32) (n : Nat) (hn : fc 3 = nI n) (hn5 : n ≤ 5) (K : Nat → Nat) (hK : ∀ k, k < n → fp k = nI (K k) ∧ K k < 4) (bar aside : Int32) : qM l yL_weight wsL_weight ({ frames := 1, cells := 0, slots := 0, locals := 20 }) D ct [.ref (a 40), .ref (a 42), .int bar, .int aside] (wN ct a fc fb fp fq fn fl) (qD (some (.int (wgL fp K bar aside n))) (wN ct a fc fb fp fq fn fl)) 0 0 := by
  refine q_start (ret := some .int) (lv := [(0, .ref (a 40)), (1, .ref (a 42)), (2, .int bar), (3, .int aside)]) (by decide +kernel) rfl (Nat.le_of_ble_eq_true rfl) rfl ?_
  intro p e s m args below meth c A Q C hQ hnm
  refine q_iconst (v := nI 0) (pc2 := 1) C dL_weight_0 (by decide) rfl ?_
  refine q_istore (lv' := [(4, .int (nI 0)), (0, .ref (a 40)), (1, .ref (a 42)), (2, .int bar), (3, .int aside)]) (pc2 := 3) C dL_weight_1 (by decide) rfl rfl ?_
  refine q_iconst (v := nI 0) (pc2 := 4) C dL_weight_3 (by decide) rfl ?_
  refine q_istore (lv' := [(5, .int (nI 0)), (4, .int (nI 0)), (0, .ref (a 40)), (1, .ref (a 42)), (2, .int bar), (3, .int aside)]) (pc2 := 6) C dL_weight_4 (by decide) rfl rfl ?_
  refine q_lv (lv' := [(5, .int (nI 0)), (4, .int (nI 0)), (3, .int aside), (2, .int bar), (1, .ref (a 42)), (0, .ref (a 40))]) [0, 1, 5, 4, 3, 2] rfl ?_
  refine q_eql (lv' := [(5, .int (nI 0)), (4, .int (wgL fp K bar aside 0)), (3, .int aside), (2, .int bar), (1, .ref (a 42)), (0, .ref (a 40))]) (rfl) ?_
  refine (lp_up (P := fun k => Cf p l e ({ frames := 1, cells := 0, slots := 0, locals := 20 }) s m args below meth c D A 6 0 0 Q 6 [(5, .int (nI k)), (4, .int (wgL fp K bar aside k)), (3, .int aside), (2, .int bar), (1, .ref (a 42)), (0, .ref (a 40))] [] (wN ct a fc fb fp fq fn fl)) n (fun k hk ihk => ?_) ?_ : Cf p l e ({ frames := 1, cells := 0, slots := 0, locals := 20 }) s m args below meth c D A 6 0 0 Q 6 [(5, .int (nI 0)), (4, .int (wgL fp K bar aside 0)), (3, .int aside), (2, .int bar), (1, .ref (a 42)), (0, .ref (a 40))] [] (wN ct a fc fb fp fq fn fl))
  · skip
    refine q_iload (pc2 := 8) C 0 dL_weight_6 rfl rfl ?_
    refine q_aload_n (pc2 := 9) C 5 dL_weight_8 rfl rfl rfl ?_
    refine q_iconst (v := nI 3) (pc2 := 10) C dL_weight_9 (by decide) rfl ?_
    refine q_iald (q0 := 0) (f := fc) (pc2 := 11) C 3 (wN_g0 ct a fc fb fp fq fn fl) rfl (rfl) (by decide) (by decide) dL_weight_10 rfl ?_
    refine q_eqi (y := nI n) (hn) ?_
    refine q_icmp_ge (tgt := 53) (pc2 := 14) C dL_weight_11 (by decide) rfl (fun h9 => absurd h9 (nI_ge (a := k) (b := n) (by omega) (by omega))) (fun _ => ?_)
    refine q_iload (pc2 := 16) C 1 dL_weight_14 rfl rfl ?_
    refine q_aload_n (pc2 := 17) C 4 dL_weight_16 rfl rfl rfl ?_
    refine q_bipush (v := nI 10) (pc2 := 19) C dL_weight_17 (by decide) rfl ?_
    refine q_iload (pc2 := 21) C 0 dL_weight_19 rfl rfl ?_
    refine q_iadd (v := nI (10 + k)) (pc2 := 22) C dL_weight_21 (nI_add 10 k) rfl ?_
    refine q_iald (q0 := 2) (f := fp) (pc2 := 23) C (10 + k) (wN_g2 ct a fc fb fp fq fn fl) rfl (rfl) (by omega) (by decide) dL_weight_22 rfl ?_
    refine q_iload_n (pc2 := 24) C 3 dL_weight_23 rfl rfl rfl ?_
    refine q_icmp_ne (tgt := 43) (pc2 := 27) C dL_weight_24 (by decide) rfl (fun c24 => ?_) (fun c24 => ?_)
    · skip
      refine q_iconst (v := nI 0) (pc2 := 44) C dL_weight_43 (by decide) rfl ?_
      refine q_iadd (v := (wgL fp K bar aside (k + 1))) (pc2 := 45) C dL_weight_44 (by unfold wgL; rw [sumf_s, if_neg (fun z => c24 z.1)]; rfl) rfl ?_
      refine q_istore (lv' := [(4, .int (wgL fp K bar aside (k + 1))), (5, .int (nI k)), (3, .int aside), (2, .int bar), (1, .ref (a 42)), (0, .ref (a 40))]) (pc2 := 47) C dL_weight_45 (by decide) rfl rfl ?_
      refine q_iinc (v := nI (k + 1)) (lv' := [(5, .int (nI (k + 1))), (4, .int (wgL fp K bar aside (k + 1))), (3, .int aside), (2, .int bar), (1, .ref (a 42)), (0, .ref (a 40))]) (pc2 := 50) C 1 dL_weight_47 rfl (show nI k + Int32.ofInt 1 = nI (k + 1) by rw [show Int32.ofInt 1 = nI 1 from by decide]; exact nI_add k 1) (by decide) rfl rfl ?_
      refine q_goto (pc2 := 6) C dL_weight_50 (by decide) ?_
      exact ihk
    · skip
      refine q_iload (pc2 := 29) C 0 dL_weight_27 rfl rfl ?_
      refine q_iload_n (pc2 := 30) C 2 dL_weight_29 rfl rfl rfl ?_
      refine q_icmp_eq (tgt := 43) (pc2 := 33) C dL_weight_30 (by decide) rfl (fun c30 => ?_) (fun c30 => ?_)
      · skip
        refine q_iconst (v := nI 0) (pc2 := 44) C dL_weight_43 (by decide) rfl ?_
        refine q_iadd (v := (wgL fp K bar aside (k + 1))) (pc2 := 45) C dL_weight_44 (by unfold wgL; rw [sumf_s, if_neg (fun z => z.2 c30)]; rfl) rfl ?_
        refine q_istore (lv' := [(4, .int (wgL fp K bar aside (k + 1))), (5, .int (nI k)), (3, .int aside), (2, .int bar), (1, .ref (a 42)), (0, .ref (a 40))]) (pc2 := 47) C dL_weight_45 (by decide) rfl rfl ?_
        refine q_iinc (v := nI (k + 1)) (lv' := [(5, .int (nI (k + 1))), (4, .int (wgL fp K bar aside (k + 1))), (3, .int aside), (2, .int bar), (1, .ref (a 42)), (0, .ref (a 40))]) (pc2 := 50) C 1 dL_weight_47 rfl (show nI k + Int32.ofInt 1 = nI (k + 1) by rw [show Int32.ofInt 1 = nI 1 from by decide]; exact nI_add k 1) (by decide) rfl rfl ?_
        refine q_goto (pc2 := 6) C dL_weight_50 (by decide) ?_
        exact ihk
      · skip
        refine q_aload_n (pc2 := 34) C 4 dL_weight_33 rfl rfl rfl ?_
        refine q_iload (pc2 := 36) C 0 dL_weight_34 rfl rfl ?_
        refine q_iald (q0 := 2) (f := fp) (pc2 := 37) C k (wN_g2 ct a fc fb fp fq fn fl) rfl (rfl) (by omega) (by decide) dL_weight_36 rfl ?_
        refine q_eqi (y := nI (K k)) ((hK k hk).1) ?_
        refine q_s0 (pc2 := 40) (As := [.int (nI (K k))]) (st := [.int (wgL fp K bar aside k)]) (st2 := [.int (nI (hvN (K k))), .int (wgL fp K bar aside k)]) C (c_L_heavy l D ct (K k) (hK k hk).2) (va_cwS 1 C.w gL_weight_L_heavy rfl rfl rfl (by decide +kernel) ⟨Nat.le_of_ble_eq_true rfl, Nat.le_of_ble_eq_true rfl⟩) dL_weight_37 rfl rfl (Nat.le_of_ble_eq_true rfl) ⟨Nat.zero_le _, Nat.zero_le _⟩ rfl rfl ?_
        refine q_goto (pc2 := 44) C dL_weight_40 (by decide) ?_
        refine q_iadd (v := (wgL fp K bar aside (k + 1))) (pc2 := 45) C dL_weight_44 (by unfold wgL; rw [sumf_s, if_pos ⟨c24, c30⟩]) rfl ?_
        refine q_istore (lv' := [(4, .int (wgL fp K bar aside (k + 1))), (5, .int (nI k)), (3, .int aside), (2, .int bar), (1, .ref (a 42)), (0, .ref (a 40))]) (pc2 := 47) C dL_weight_45 (by decide) rfl rfl ?_
        refine q_iinc (v := nI (k + 1)) (lv' := [(5, .int (nI (k + 1))), (4, .int (wgL fp K bar aside (k + 1))), (3, .int aside), (2, .int bar), (1, .ref (a 42)), (0, .ref (a 40))]) (pc2 := 50) C 1 dL_weight_47 rfl (show nI k + Int32.ofInt 1 = nI (k + 1) by rw [show Int32.ofInt 1 = nI 1 from by decide]; exact nI_add k 1) (by decide) rfl rfl ?_
        refine q_goto (pc2 := 6) C dL_weight_50 (by decide) ?_
        exact ihk
  · skip
    refine q_iload (pc2 := 8) C 0 dL_weight_6 rfl rfl ?_
    refine q_aload_n (pc2 := 9) C 5 dL_weight_8 rfl rfl rfl ?_
    refine q_iconst (v := nI 3) (pc2 := 10) C dL_weight_9 (by decide) rfl ?_
    refine q_iald (q0 := 0) (f := fc) (pc2 := 11) C 3 (wN_g0 ct a fc fb fp fq fn fl) rfl (rfl) (by decide) (by decide) dL_weight_10 rfl ?_
    refine q_eqi (y := nI n) (hn) ?_
    refine q_icmp_ge (tgt := 53) (pc2 := 14) C dL_weight_11 (by decide) rfl (fun _ => ?_) (fun h9 => absurd (nI_le (a := n) (b := n) (by omega) (by omega)) h9)
    refine q_iload (pc2 := 55) C 1 dL_weight_53 rfl rfl ?_
    exact q_zret C hQ rfl (rfl) (Nat.zero_le _) (Nat.zero_le _) dL_weight_55 ⟨rfl, rfl⟩

set_option maxHeartbeats 4000000 in
set_option maxRecDepth 100000 in
theorem c_L_fits (l : Launch) (D : va_G) (ct : Nat → ClassId) (a : Nat → Nat) (fc fb fp fq fn fl : Nat → Int32) (n : Nat) (hn : fc 3 = nI n) (hn5 : n ≤ 5) (K : Nat → Nat) (hK : ∀ k, k < n → fp k = nI (K k) ∧ K k < 4) (h kb : Nat) (hh : fc 0 = nI h) (hh2 : h < 2) (hkb : fc (1 + h) = nI kb) (hkb2 : kb ≤ 2) (i j : Nat) (hi : i < n) (hj : j < 2) (v : Int32) : qM l yL_fits wsL_fits ({ frames := 2, cells := 0, slots := 0, locals := 45 }) D ct [.ref (a 40), .ref (a 41), .ref (a 42), .int (nI i), .int (nI j), .int v] (wN ct a fc fb fp fq fn fl) (qD (some (.int (b2 (fitL fb fp K n h kb i j v n)))) (wN ct a fc fb fp fq fn fl)) 0 0 := by
  refine q_start (ret := some .boolean) (lv := [(0, .ref (a 40)), (1, .ref (a 41)), (2, .ref (a 42)), (3, .int (nI i)), (4, .int (nI j)), (5, .int v)]) (by decide +kernel) rfl (Nat.le_of_ble_eq_true rfl) rfl ?_
  intro p e s m args below meth c A Q C hQ hnm
  refine q_iconst (v := nI 2) (pc2 := 1) C dL_fits_0 (by decide) rfl ?_
  refine q_aload_n (pc2 := 2) C 0 dL_fits_1 rfl rfl rfl ?_
  refine q_iconst (v := nI 0) (pc2 := 3) C dL_fits_2 (by decide) rfl ?_
  refine q_iald (q0 := 0) (f := fc) (pc2 := 4) C 0 (wN_g0 ct a fc fb fp fq fn fl) rfl (rfl) (by decide) (by decide) dL_fits_3 rfl ?_
  refine q_eqi (y := nI h) (hh) ?_
  refine q_imul (v := nI (2 * h)) (pc2 := 5) C dL_fits_4 (pk_mul 2 h) rfl ?_
  refine q_iload (pc2 := 7) C 4 dL_fits_5 rfl rfl ?_
  refine q_iadd (v := nI ((2 * h) + j)) (pc2 := 8) C dL_fits_7 (nI_add (2 * h) j) rfl ?_
  refine q_istore (lv' := [(6, .int (nI ((2 * h) + j))), (0, .ref (a 40)), (1, .ref (a 41)), (2, .ref (a 42)), (3, .int (nI i)), (4, .int (nI j)), (5, .int v)]) (pc2 := 10) C dL_fits_8 (by decide) rfl rfl ?_
  have hj70 : ∀ z0 : Int32, z0 = b2 (fit0 fb fp K n h kb i j v) → Cf p l e ({ frames := 2, cells := 0, slots := 0, locals := 45 }) s m args below meth c D A 10 0 0 Q 70 [(6, .int (nI ((2 * h) + j))), (0, .ref (a 40)), (1, .ref (a 41)), (2, .ref (a 42)), (3, .int (nI i)), (4, .int (nI j)), (5, .int v)] [.int z0] (wN ct a fc fb fp fq fn fl) := by
    intro z0 hz0
    refine q_eqi (y := (b2 (fitL fb fp K n h kb i j v 0))) (hz0.trans (b2_congr ⟨fun z => ⟨z, fun t ht => absurd ht (Nat.not_lt_zero t)⟩, fun z => z.1⟩)) ?_
    refine q_istore (lv' := [(7, .int (b2 (fitL fb fp K n h kb i j v 0))), (6, .int (nI ((2 * h) + j))), (0, .ref (a 40)), (1, .ref (a 41)), (2, .ref (a 42)), (3, .int (nI i)), (4, .int (nI j)), (5, .int v)]) (pc2 := 72) C dL_fits_70 (by decide) rfl rfl ?_
    refine q_iconst (v := nI 0) (pc2 := 73) C dL_fits_72 (by decide) rfl ?_
    refine q_istore (lv' := [(8, .int (nI 0)), (7, .int (b2 (fitL fb fp K n h kb i j v 0))), (6, .int (nI ((2 * h) + j))), (0, .ref (a 40)), (1, .ref (a 41)), (2, .ref (a 42)), (3, .int (nI i)), (4, .int (nI j)), (5, .int v)]) (pc2 := 75) C dL_fits_73 (by decide) rfl rfl ?_
    refine q_lv (lv' := [(8, .int (nI 0)), (7, .int (b2 (fitL fb fp K n h kb i j v 0))), (6, .int (nI ((2 * h) + j))), (5, .int v), (4, .int (nI j)), (3, .int (nI i)), (2, .ref (a 42)), (1, .ref (a 41)), (0, .ref (a 40))]) [0, 1, 2, 8, 7, 6, 5, 4, 3] rfl ?_
    refine (lp_up (P := fun t8 => Cf p l e ({ frames := 2, cells := 0, slots := 0, locals := 45 }) s m args below meth c D A 10 0 0 Q 75 [(8, .int (nI t8)), (7, .int (b2 (fitL fb fp K n h kb i j v t8))), (6, .int (nI ((2 * h) + j))), (5, .int v), (4, .int (nI j)), (3, .int (nI i)), (2, .ref (a 42)), (1, .ref (a 41)), (0, .ref (a 40))] [] (wN ct a fc fb fp fq fn fl)) n (fun t8 ht8 iht8 => ?_) ?_ : Cf p l e ({ frames := 2, cells := 0, slots := 0, locals := 45 }) s m args below meth c D A 10 0 0 Q 75 [(8, .int (nI 0)), (7, .int (b2 (fitL fb fp K n h kb i j v 0))), (6, .int (nI ((2 * h) + j))), (5, .int v), (4, .int (nI j)), (3, .int (nI i)), (2, .ref (a 42)), (1, .ref (a 41)), (0, .ref (a 40))] [] (wN ct a fc fb fp fq fn fl))
    · skip
      refine q_iload (pc2 := 77) C 0 dL_fits_75 rfl rfl ?_
      refine q_aload_n (pc2 := 78) C 8 dL_fits_77 rfl rfl rfl ?_
      refine q_iconst (v := nI 3) (pc2 := 79) C dL_fits_78 (by decide) rfl ?_
      refine q_iald (q0 := 0) (f := fc) (pc2 := 80) C 3 (wN_g0 ct a fc fb fp fq fn fl) rfl (rfl) (by decide) (by decide) dL_fits_79 rfl ?_
      refine q_eqi (y := nI n) (hn) ?_
      refine q_icmp_ge (tgt := 144) (pc2 := 83) C dL_fits_80 (by decide) rfl (fun h9 => absurd h9 (nI_ge (a := t8) (b := n) (by omega) (by omega))) (fun _ => ?_)
      refine q_aload_n (pc2 := 84) C 6 dL_fits_83 rfl rfl rfl ?_
      refine q_bipush (v := nI 15) (pc2 := 86) C dL_fits_84 (by decide) rfl ?_
      refine q_iload (pc2 := 88) C 0 dL_fits_86 rfl rfl ?_
      refine q_iadd (v := nI (15 + t8)) (pc2 := 89) C dL_fits_88 (nI_add 15 t8) rfl ?_
      refine q_iald (q0 := 2) (f := fp) (pc2 := 90) C (15 + t8) (wN_g2 ct a fc fb fp fq fn fl) rfl (rfl) (by omega) (by decide) dL_fits_89 rfl ?_
      refine q_iload (pc2 := 92) C 3 dL_fits_90 rfl rfl ?_
      refine q_isub (v := ((fp (15 + t8)) - v)) (pc2 := 93) C dL_fits_92 (rfl) rfl ?_
      refine q_istore (lv' := [(9, .int ((fp (15 + t8)) - v)), (8, .int (nI t8)), (7, .int (b2 (fitL fb fp K n h kb i j v t8))), (6, .int (nI ((2 * h) + j))), (5, .int v), (4, .int (nI j)), (3, .int (nI i)), (2, .ref (a 42)), (1, .ref (a 41)), (0, .ref (a 40))]) (pc2 := 95) C dL_fits_93 (by decide) rfl rfl ?_
      refine q_iload (pc2 := 97) C 2 dL_fits_95 rfl rfl ?_
      refine q_if_eq (tgt := 135) (pc2 := 100) C dL_fits_97 (by decide) rfl (fun c97 => ?_) (fun c97 => ?_)
      · skip
        refine q_iconst (v := nI 0) (pc2 := 136) C dL_fits_135 (by decide) rfl ?_
        refine q_eqi (y := (b2 (fitL fb fp K n h kb i j v (t8 + 1)))) ((b2_f (fun z => absurd (⟨z.1, fun t ht => z.2 t (Nat.lt_succ_of_lt ht)⟩ : fitL fb fp K n h kb i j v t8) (b2_eq.mp c97))).symm) ?_
        refine q_istore (lv' := [(7, .int (b2 (fitL fb fp K n h kb i j v (t8 + 1)))), (9, .int ((fp (15 + t8)) - v)), (8, .int (nI t8)), (6, .int (nI ((2 * h) + j))), (5, .int v), (4, .int (nI j)), (3, .int (nI i)), (2, .ref (a 42)), (1, .ref (a 41)), (0, .ref (a 40))]) (pc2 := 138) C dL_fits_136 (by decide) rfl rfl ?_
        refine q_iinc (v := nI (t8 + 1)) (lv' := [(8, .int (nI (t8 + 1))), (7, .int (b2 (fitL fb fp K n h kb i j v (t8 + 1)))), (9, .int ((fp (15 + t8)) - v)), (6, .int (nI ((2 * h) + j))), (5, .int v), (4, .int (nI j)), (3, .int (nI i)), (2, .ref (a 42)), (1, .ref (a 41)), (0, .ref (a 40))]) (pc2 := 141) C 2 dL_fits_138 rfl (show nI t8 + Int32.ofInt 1 = nI (t8 + 1) by rw [show Int32.ofInt 1 = nI 1 from by decide]; exact nI_add t8 1) (by decide) rfl rfl ?_
        refine q_goto (pc2 := 75) C dL_fits_141 (by decide) ?_
        refine q_lv (lv' := [(8, .int (nI (t8 + 1))), (7, .int (b2 (fitL fb fp K n h kb i j v (t8 + 1)))), (6, .int (nI ((2 * h) + j))), (5, .int v), (4, .int (nI j)), (3, .int (nI i)), (2, .ref (a 42)), (1, .ref (a 41)), (0, .ref (a 40))]) [0, 1, 3, 4, 5, 6, 7, 8, 9] rfl ?_
        exact iht8
      · skip
        refine q_iload (pc2 := 102) C 1 dL_fits_100 rfl rfl ?_
        refine q_iload_n (pc2 := 103) C 6 dL_fits_102 rfl rfl rfl ?_
        refine q_icmp_eq (tgt := 131) (pc2 := 106) C dL_fits_103 (by decide) rfl (fun c103 => ?_) (fun c103 => ?_)
        · skip
          have k103 : t8 = i := (nI_eq (a := t8) (b := i) (by omega) (by omega)).mp c103
          refine q_iconst (v := nI 1) (pc2 := 132) C dL_fits_131 (by decide) rfl ?_
          refine q_goto (pc2 := 136) C dL_fits_132 (by decide) ?_
          refine q_eqi (y := (b2 (fitL fb fp K n h kb i j v (t8 + 1)))) ((b2_t (⟨(b2_ne.mp c97).1, all_s (b2_ne.mp c97).2 (Or.inl k103)⟩ : fitL fb fp K n h kb i j v (t8 + 1))).symm) ?_
          refine q_istore (lv' := [(7, .int (b2 (fitL fb fp K n h kb i j v (t8 + 1)))), (9, .int ((fp (15 + t8)) - v)), (8, .int (nI t8)), (6, .int (nI ((2 * h) + j))), (5, .int v), (4, .int (nI j)), (3, .int (nI i)), (2, .ref (a 42)), (1, .ref (a 41)), (0, .ref (a 40))]) (pc2 := 138) C dL_fits_136 (by decide) rfl rfl ?_
          refine q_iinc (v := nI (t8 + 1)) (lv' := [(8, .int (nI (t8 + 1))), (7, .int (b2 (fitL fb fp K n h kb i j v (t8 + 1)))), (9, .int ((fp (15 + t8)) - v)), (6, .int (nI ((2 * h) + j))), (5, .int v), (4, .int (nI j)), (3, .int (nI i)), (2, .ref (a 42)), (1, .ref (a 41)), (0, .ref (a 40))]) (pc2 := 141) C 2 dL_fits_138 rfl (show nI t8 + Int32.ofInt 1 = nI (t8 + 1) by rw [show Int32.ofInt 1 = nI 1 from by decide]; exact nI_add t8 1) (by decide) rfl rfl ?_
          refine q_goto (pc2 := 75) C dL_fits_141 (by decide) ?_
          refine q_lv (lv' := [(8, .int (nI (t8 + 1))), (7, .int (b2 (fitL fb fp K n h kb i j v (t8 + 1)))), (6, .int (nI ((2 * h) + j))), (5, .int v), (4, .int (nI j)), (3, .int (nI i)), (2, .ref (a 42)), (1, .ref (a 41)), (0, .ref (a 40))]) [0, 1, 3, 4, 5, 6, 7, 8, 9] rfl ?_
          exact iht8
        · skip
          have k103 : t8 ≠ i := fun z => (c103) ((nI_eq (a := t8) (b := i) (by omega) (by omega)).mpr z)
          refine q_aload_n (pc2 := 107) C 7 dL_fits_106 rfl rfl rfl ?_
          refine q_bipush (v := nI 10) (pc2 := 109) C dL_fits_107 (by decide) rfl ?_
          refine q_iload (pc2 := 111) C 1 dL_fits_109 rfl rfl ?_
          refine q_iadd (v := nI (10 + t8)) (pc2 := 112) C dL_fits_111 (nI_add 10 t8) rfl ?_
          refine q_iald (q0 := 2) (f := fp) (pc2 := 113) C (10 + t8) (wN_g2 ct a fc fb fp fq fn fl) rfl (rfl) (by omega) (by decide) dL_fits_112 rfl ?_
          refine q_iload (pc2 := 115) C 5 dL_fits_113 rfl rfl ?_
          refine q_icmp_ne (tgt := 131) (pc2 := 118) C dL_fits_115 (by decide) rfl (fun c115 => ?_) (fun c115 => ?_)
          · skip
            refine q_iconst (v := nI 1) (pc2 := 132) C dL_fits_131 (by decide) rfl ?_
            refine q_goto (pc2 := 136) C dL_fits_132 (by decide) ?_
            refine q_eqi (y := (b2 (fitL fb fp K n h kb i j v (t8 + 1)))) ((b2_t (⟨(b2_ne.mp c97).1, all_s (b2_ne.mp c97).2 (Or.inr (Or.inl c115))⟩ : fitL fb fp K n h kb i j v (t8 + 1))).symm) ?_
            refine q_istore (lv' := [(7, .int (b2 (fitL fb fp K n h kb i j v (t8 + 1)))), (9, .int ((fp (15 + t8)) - v)), (8, .int (nI t8)), (6, .int (nI ((2 * h) + j))), (5, .int v), (4, .int (nI j)), (3, .int (nI i)), (2, .ref (a 42)), (1, .ref (a 41)), (0, .ref (a 40))]) (pc2 := 138) C dL_fits_136 (by decide) rfl rfl ?_
            refine q_iinc (v := nI (t8 + 1)) (lv' := [(8, .int (nI (t8 + 1))), (7, .int (b2 (fitL fb fp K n h kb i j v (t8 + 1)))), (9, .int ((fp (15 + t8)) - v)), (6, .int (nI ((2 * h) + j))), (5, .int v), (4, .int (nI j)), (3, .int (nI i)), (2, .ref (a 42)), (1, .ref (a 41)), (0, .ref (a 40))]) (pc2 := 141) C 2 dL_fits_138 rfl (show nI t8 + Int32.ofInt 1 = nI (t8 + 1) by rw [show Int32.ofInt 1 = nI 1 from by decide]; exact nI_add t8 1) (by decide) rfl rfl ?_
            refine q_goto (pc2 := 75) C dL_fits_141 (by decide) ?_
            refine q_lv (lv' := [(8, .int (nI (t8 + 1))), (7, .int (b2 (fitL fb fp K n h kb i j v (t8 + 1)))), (6, .int (nI ((2 * h) + j))), (5, .int v), (4, .int (nI j)), (3, .int (nI i)), (2, .ref (a 42)), (1, .ref (a 41)), (0, .ref (a 40))]) [0, 1, 3, 4, 5, 6, 7, 8, 9] rfl ?_
            exact iht8
          · skip
            refine q_iload (pc2 := 120) C 0 dL_fits_118 rfl rfl ?_
            refine q_iconst (v := nI 2) (pc2 := 121) C dL_fits_120 (by decide) rfl ?_
            refine q_icmp_gt (tgt := 131) (pc2 := 124) C dL_fits_121 (by decide) rfl (fun c121 => ?_) (fun c121 => ?_)
            · skip
              refine q_iconst (v := nI 1) (pc2 := 132) C dL_fits_131 (by decide) rfl ?_
              refine q_goto (pc2 := 136) C dL_fits_132 (by decide) ?_
              refine q_eqi (y := (b2 (fitL fb fp K n h kb i j v (t8 + 1)))) ((b2_t (⟨(b2_ne.mp c97).1, all_s (b2_ne.mp c97).2 (Or.inr (Or.inr (Or.inl c121)))⟩ : fitL fb fp K n h kb i j v (t8 + 1))).symm) ?_
              refine q_istore (lv' := [(7, .int (b2 (fitL fb fp K n h kb i j v (t8 + 1)))), (9, .int ((fp (15 + t8)) - v)), (8, .int (nI t8)), (6, .int (nI ((2 * h) + j))), (5, .int v), (4, .int (nI j)), (3, .int (nI i)), (2, .ref (a 42)), (1, .ref (a 41)), (0, .ref (a 40))]) (pc2 := 138) C dL_fits_136 (by decide) rfl rfl ?_
              refine q_iinc (v := nI (t8 + 1)) (lv' := [(8, .int (nI (t8 + 1))), (7, .int (b2 (fitL fb fp K n h kb i j v (t8 + 1)))), (9, .int ((fp (15 + t8)) - v)), (6, .int (nI ((2 * h) + j))), (5, .int v), (4, .int (nI j)), (3, .int (nI i)), (2, .ref (a 42)), (1, .ref (a 41)), (0, .ref (a 40))]) (pc2 := 141) C 2 dL_fits_138 rfl (show nI t8 + Int32.ofInt 1 = nI (t8 + 1) by rw [show Int32.ofInt 1 = nI 1 from by decide]; exact nI_add t8 1) (by decide) rfl rfl ?_
              refine q_goto (pc2 := 75) C dL_fits_141 (by decide) ?_
              refine q_lv (lv' := [(8, .int (nI (t8 + 1))), (7, .int (b2 (fitL fb fp K n h kb i j v (t8 + 1)))), (6, .int (nI ((2 * h) + j))), (5, .int v), (4, .int (nI j)), (3, .int (nI i)), (2, .ref (a 42)), (1, .ref (a 41)), (0, .ref (a 40))]) [0, 1, 3, 4, 5, 6, 7, 8, 9] rfl ?_
              exact iht8
            · skip
              refine q_iload (pc2 := 126) C 0 dL_fits_124 rfl rfl ?_
              refine q_bipush (v := (-2)) (pc2 := 128) C dL_fits_126 (by decide) rfl ?_
              refine q_icmp_ge (tgt := 135) (pc2 := 131) C dL_fits_128 (by decide) rfl (fun c128 => ?_) (fun c128 => ?_)
              · skip
                refine q_iconst (v := nI 0) (pc2 := 136) C dL_fits_135 (by decide) rfl ?_
                refine q_eqi (y := (b2 (fitL fb fp K n h kb i j v (t8 + 1)))) ((b2_f (fun z : fitL fb fp K n h kb i j v (t8 + 1) => (z.2 t8 (Nat.lt_succ_self t8)).elim (fun q => k103 q) (fun q => q.elim (fun q => absurd c115 q) (fun q => q.elim (fun q => c121 q) (fun q => absurd q (Int32.not_lt.mpr c128)))))).symm) ?_
                refine q_istore (lv' := [(7, .int (b2 (fitL fb fp K n h kb i j v (t8 + 1)))), (9, .int ((fp (15 + t8)) - v)), (8, .int (nI t8)), (6, .int (nI ((2 * h) + j))), (5, .int v), (4, .int (nI j)), (3, .int (nI i)), (2, .ref (a 42)), (1, .ref (a 41)), (0, .ref (a 40))]) (pc2 := 138) C dL_fits_136 (by decide) rfl rfl ?_
                refine q_iinc (v := nI (t8 + 1)) (lv' := [(8, .int (nI (t8 + 1))), (7, .int (b2 (fitL fb fp K n h kb i j v (t8 + 1)))), (9, .int ((fp (15 + t8)) - v)), (6, .int (nI ((2 * h) + j))), (5, .int v), (4, .int (nI j)), (3, .int (nI i)), (2, .ref (a 42)), (1, .ref (a 41)), (0, .ref (a 40))]) (pc2 := 141) C 2 dL_fits_138 rfl (show nI t8 + Int32.ofInt 1 = nI (t8 + 1) by rw [show Int32.ofInt 1 = nI 1 from by decide]; exact nI_add t8 1) (by decide) rfl rfl ?_
                refine q_goto (pc2 := 75) C dL_fits_141 (by decide) ?_
                refine q_lv (lv' := [(8, .int (nI (t8 + 1))), (7, .int (b2 (fitL fb fp K n h kb i j v (t8 + 1)))), (6, .int (nI ((2 * h) + j))), (5, .int v), (4, .int (nI j)), (3, .int (nI i)), (2, .ref (a 42)), (1, .ref (a 41)), (0, .ref (a 40))]) [0, 1, 3, 4, 5, 6, 7, 8, 9] rfl ?_
                exact iht8
              · skip
                refine q_iconst (v := nI 1) (pc2 := 132) C dL_fits_131 (by decide) rfl ?_
                refine q_goto (pc2 := 136) C dL_fits_132 (by decide) ?_
                refine q_eqi (y := (b2 (fitL fb fp K n h kb i j v (t8 + 1)))) ((b2_t (⟨(b2_ne.mp c97).1, all_s (b2_ne.mp c97).2 (Or.inr (Or.inr (Or.inr (Int32.not_le.mp c128))))⟩ : fitL fb fp K n h kb i j v (t8 + 1))).symm) ?_
                refine q_istore (lv' := [(7, .int (b2 (fitL fb fp K n h kb i j v (t8 + 1)))), (9, .int ((fp (15 + t8)) - v)), (8, .int (nI t8)), (6, .int (nI ((2 * h) + j))), (5, .int v), (4, .int (nI j)), (3, .int (nI i)), (2, .ref (a 42)), (1, .ref (a 41)), (0, .ref (a 40))]) (pc2 := 138) C dL_fits_136 (by decide) rfl rfl ?_
                refine q_iinc (v := nI (t8 + 1)) (lv' := [(8, .int (nI (t8 + 1))), (7, .int (b2 (fitL fb fp K n h kb i j v (t8 + 1)))), (9, .int ((fp (15 + t8)) - v)), (6, .int (nI ((2 * h) + j))), (5, .int v), (4, .int (nI j)), (3, .int (nI i)), (2, .ref (a 42)), (1, .ref (a 41)), (0, .ref (a 40))]) (pc2 := 141) C 2 dL_fits_138 rfl (show nI t8 + Int32.ofInt 1 = nI (t8 + 1) by rw [show Int32.ofInt 1 = nI 1 from by decide]; exact nI_add t8 1) (by decide) rfl rfl ?_
                refine q_goto (pc2 := 75) C dL_fits_141 (by decide) ?_
                refine q_lv (lv' := [(8, .int (nI (t8 + 1))), (7, .int (b2 (fitL fb fp K n h kb i j v (t8 + 1)))), (6, .int (nI ((2 * h) + j))), (5, .int v), (4, .int (nI j)), (3, .int (nI i)), (2, .ref (a 42)), (1, .ref (a 41)), (0, .ref (a 40))]) [0, 1, 3, 4, 5, 6, 7, 8, 9] rfl ?_
                exact iht8
    · skip
      refine q_iload (pc2 := 77) C 0 dL_fits_75 rfl rfl ?_
      refine q_aload_n (pc2 := 78) C 8 dL_fits_77 rfl rfl rfl ?_
      refine q_iconst (v := nI 3) (pc2 := 79) C dL_fits_78 (by decide) rfl ?_
      refine q_iald (q0 := 0) (f := fc) (pc2 := 80) C 3 (wN_g0 ct a fc fb fp fq fn fl) rfl (rfl) (by decide) (by decide) dL_fits_79 rfl ?_
      refine q_eqi (y := nI n) (hn) ?_
      refine q_icmp_ge (tgt := 144) (pc2 := 83) C dL_fits_80 (by decide) rfl (fun _ => ?_) (fun h9 => absurd (nI_le (a := n) (b := n) (by omega) (by omega)) h9)
      refine q_iload (pc2 := 146) C 1 dL_fits_144 rfl rfl ?_
      exact q_zret C hQ rfl (b2_nar _) (Nat.zero_le _) (Nat.zero_le _) dL_fits_146 ⟨rfl, rfl⟩
  refine q_iload (pc2 := 12) C 5 dL_fits_10 rfl rfl ?_
  refine q_if_lt (tgt := 69) (pc2 := 15) C dL_fits_12 (by decide) rfl (fun h9 => absurd h9 (nI_nlt (a := j) (b := 0) (by omega) (by omega))) (fun _ => ?_)
  refine q_iload (pc2 := 17) C 5 dL_fits_15 rfl rfl ?_
  refine q_aload_n (pc2 := 18) C 1 dL_fits_17 rfl rfl rfl ?_
  refine q_iconst (v := nI 1) (pc2 := 19) C dL_fits_18 (by decide) rfl ?_
  refine q_aload_n (pc2 := 20) C 1 dL_fits_19 rfl rfl rfl ?_
  refine q_iconst (v := nI 0) (pc2 := 21) C dL_fits_20 (by decide) rfl ?_
  refine q_iald (q0 := 0) (f := fc) (pc2 := 22) C 0 (wN_g0 ct a fc fb fp fq fn fl) rfl (rfl) (by decide) (by decide) dL_fits_21 rfl ?_
  refine q_eqi (y := nI h) (hh) ?_
  refine q_iadd (v := nI (1 + h)) (pc2 := 23) C dL_fits_22 (nI_add 1 h) rfl ?_
  refine q_iald (q0 := 0) (f := fc) (pc2 := 24) C (1 + h) (wN_g0 ct a fc fb fp fq fn fl) rfl (rfl) (by omega) (by decide) dL_fits_23 rfl ?_
  refine q_eqi (y := nI kb) (hkb) ?_
  refine q_icmp_ge (tgt := 69) (pc2 := 27) C dL_fits_24 (by decide) rfl (fun c24 => ?_) (fun c24 => ?_)
  · skip
    have k24 : kb ≤ j := (nI_leI (a := kb) (b := j) (by omega) (by omega)).mp c24
    refine q_iconst (v := nI 0) (pc2 := 70) C dL_fits_69 (by decide) rfl ?_
    exact hj70 _ (b2_f (fun z => absurd z.1 (by omega))).symm
  · skip
    have k24 : j < kb := (nI_ltI (a := j) (b := kb) (by omega) (by omega)).mp (Int32.not_le.mp c24)
    refine q_iload (pc2 := 29) C 6 dL_fits_27 rfl rfl ?_
    refine q_if_lt (tgt := 69) (pc2 := 32) C dL_fits_29 (by decide) rfl (fun c29 => ?_) (fun c29 => ?_)
    · skip
      refine q_iconst (v := nI 0) (pc2 := 70) C dL_fits_69 (by decide) rfl ?_
      exact hj70 _ (b2_f (fun z => absurd c29 (Int32.not_lt.mpr z.2.1))).symm
    · skip
      refine q_iload (pc2 := 34) C 6 dL_fits_32 rfl rfl ?_
      refine q_aload_n (pc2 := 35) C 2 dL_fits_34 rfl rfl rfl ?_
      refine q_iload (pc2 := 37) C 0 dL_fits_35 rfl rfl ?_
      refine q_iald (q0 := 1) (f := fb) (pc2 := 38) C ((2 * h) + j) (wN_g1 ct a fc fb fp fq fn fl) rfl (rfl) (by omega) (by decide) dL_fits_37 rfl ?_
      refine q_icmp_gt (tgt := 69) (pc2 := 41) C dL_fits_38 (by decide) rfl (fun c38 => ?_) (fun c38 => ?_)
      · skip
        refine q_iconst (v := nI 0) (pc2 := 70) C dL_fits_69 (by decide) rfl ?_
        exact hj70 _ (b2_f (fun z => absurd c38 (Int32.not_lt.mpr z.2.2.1))).symm
      · skip
        refine q_aload_n (pc2 := 42) C 1 dL_fits_41 rfl rfl rfl ?_
        refine q_aload_n (pc2 := 43) C 3 dL_fits_42 rfl rfl rfl ?_
        refine q_iload (pc2 := 45) C 5 dL_fits_43 rfl rfl ?_
        refine q_iload_n (pc2 := 46) C 4 dL_fits_45 rfl rfl rfl ?_
        refine q_NS_wN (pc2 := 49) (As := [.ref (a 40), .ref (a 42), .int (nI j), .int (nI i)]) (st := []) (st2 := [.int (wgL fp K (nI j) (nI i) n)]) C (c_L_weight l D ct a fc fb fp fq fn fl n hn hn5 K hK (nI j) (nI i)) (va_cwS 4 C.w gL_fits_L_weight rfl rfl rfl (by decide +kernel) ⟨Nat.le_of_ble_eq_true rfl, Nat.le_of_ble_eq_true rfl⟩) dL_fits_46 rfl rfl (Nat.le_of_ble_eq_true rfl) ⟨Nat.zero_le _, Nat.zero_le _⟩ rfl rfl ?_
        refine q_aload_n (pc2 := 50) C 3 dL_fits_49 rfl rfl rfl ?_
        refine q_iload_n (pc2 := 51) C 4 dL_fits_50 rfl rfl rfl ?_
        refine q_iald (q0 := 2) (f := fp) (pc2 := 52) C i (wN_g2 ct a fc fb fp fq fn fl) rfl (rfl) (by omega) (by decide) dL_fits_51 rfl ?_
        refine q_eqi (y := nI (K i)) ((hK i hi).1) ?_
        refine q_s0 (pc2 := 55) (As := [.int (nI (K i))]) (st := [.int (wgL fp K (nI j) (nI i) n)]) (st2 := [.int (nI (hvN (K i))), .int (wgL fp K (nI j) (nI i) n)]) C (c_L_heavy l D ct (K i) (hK i hi).2) (va_cwS 1 C.w gL_fits_L_heavy rfl rfl rfl (by decide +kernel) ⟨Nat.le_of_ble_eq_true rfl, Nat.le_of_ble_eq_true rfl⟩) dL_fits_52 rfl rfl (Nat.le_of_ble_eq_true rfl) ⟨Nat.zero_le _, Nat.zero_le _⟩ rfl rfl ?_
        refine q_iadd (v := ((wgL fp K (nI j) (nI i) n) + nI (hvN (K i)))) (pc2 := 56) C dL_fits_55 (rfl) rfl ?_
        refine q_aload_n (pc2 := 57) C 2 dL_fits_56 rfl rfl rfl ?_
        refine q_iconst (v := nI 4) (pc2 := 58) C dL_fits_57 (by decide) rfl ?_
        refine q_iload (pc2 := 60) C 0 dL_fits_58 rfl rfl ?_
        refine q_iadd (v := nI (4 + ((2 * h) + j))) (pc2 := 61) C dL_fits_60 (nI_add 4 ((2 * h) + j)) rfl ?_
        refine q_iald (q0 := 1) (f := fb) (pc2 := 62) C (4 + ((2 * h) + j)) (wN_g1 ct a fc fb fp fq fn fl) rfl (rfl) (by omega) (by decide) dL_fits_61 rfl ?_
        refine q_icmp_gt (tgt := 69) (pc2 := 65) C dL_fits_62 (by decide) rfl (fun c62 => ?_) (fun c62 => ?_)
        · skip
          refine q_iconst (v := nI 0) (pc2 := 70) C dL_fits_69 (by decide) rfl ?_
          exact hj70 _ (b2_f (fun z => absurd c62 (Int32.not_lt.mpr z.2.2.2))).symm
        · skip
          refine q_iconst (v := nI 1) (pc2 := 66) C dL_fits_65 (by decide) rfl ?_
          refine q_goto (pc2 := 70) C dL_fits_66 (by decide) ?_
          exact hj70 _ (b2_t (c := (fit0 fb fp K n h kb i j v)) ⟨by omega, Int32.not_lt.mp c29, Int32.not_lt.mp c38, Int32.not_lt.mp c62⟩).symm

set_option maxHeartbeats 4000000 in
set_option maxRecDepth 100000 in
theorem c_L_fade (l : Launch) (D : va_G) (ct : Nat → ClassId) (u w : Int32) (d f cv : Nat) (hd : d < 2 ^ 31) (hf : f ≤ 50) (hcv : cv ≤ 2) : qM l yL_fade wsL_fade ({ frames := 0, cells := 0, slots := 0, locals := 0 }) D ct [.int u, .int w, .int (nI d), .int (nI f), .int (nI cv)] [] (qD (some (.int (fdI u w d f cv))) []) 0 0 := by
  refine q_start (ret := some .int) (lv := [(0, .int u), (1, .int w), (2, .int (nI d)), (3, .int (nI f)), (4, .int (nI cv))]) (by decide +kernel) rfl (Nat.le_of_ble_eq_true rfl) rfl ?_
  intro p e s m args below meth c A Q C hQ hnm
  refine q_iload_n (pc2 := 1) C 2 dL_fade_0 rfl rfl rfl ?_
  refine q_iload_n (pc2 := 2) C 3 dL_fade_1 rfl rfl rfl ?_
  refine q_icmp_lt (tgt := 7) (pc2 := 5) C dL_fade_2 (by decide) rfl (fun c2 => ?_) (fun c2 => ?_)
  · skip
    have k2 : d < f := (nI_ltI (a := d) (b := f) (by omega) (by omega)).mp c2
    refine q_iload (pc2 := 9) C 4 dL_fade_7 rfl rfl ?_
    refine q_if_ne (tgt := 32) (pc2 := 12) C dL_fade_9 (by decide) rfl (fun c9 => ?_) (fun c9 => ?_)
    · skip
      have k9 : cv ≠ 0 := fun z => c9 ((nI_eq (a := cv) (b := 0) (by omega) (by omega)).mpr z)
      refine q_iload (pc2 := 34) C 4 dL_fade_32 rfl rfl ?_
      refine q_iconst (v := nI 1) (pc2 := 35) C dL_fade_34 (by decide) rfl ?_
      refine q_icmp_ne (tgt := 64) (pc2 := 38) C dL_fade_35 (by decide) rfl (fun c35 => ?_) (fun c35 => ?_)
      · skip
        have k35 : cv ≠ 1 := fun z => c35 ((nI_eq (a := cv) (b := 1) (by omega) (by omega)).mpr z)
        refine q_iload_n (pc2 := 65) C 0 dL_fade_64 rfl rfl rfl ?_
        exact q_zret C hQ rfl (rfl) (Nat.zero_le _) (Nat.zero_le _) dL_fade_65 ⟨by unfold fdI; rw [if_neg (by omega), if_neg k9, if_neg k35], rfl⟩
      · skip
        have k35 : cv = 1 := (nI_eq (a := cv) (b := 1) (by omega) (by omega)).mp (c35)
        refine q_iload_n (pc2 := 39) C 0 dL_fade_38 rfl rfl rfl ?_
        refine q_iload_n (pc2 := 40) C 1 dL_fade_39 rfl rfl rfl ?_
        refine q_iload_n (pc2 := 41) C 0 dL_fade_40 rfl rfl rfl ?_
        refine q_isub (v := (w - u)) (pc2 := 42) C dL_fade_41 (rfl) rfl ?_
        refine q_iload_n (pc2 := 43) C 2 dL_fade_42 rfl rfl rfl ?_
        refine q_imul (v := ((w - u) * nI d)) (pc2 := 44) C dL_fade_43 (rfl) rfl ?_
        refine q_iload_n (pc2 := 45) C 2 dL_fade_44 rfl rfl rfl ?_
        refine q_imul (v := (((w - u) * nI d) * nI d)) (pc2 := 46) C dL_fade_45 (rfl) rfl ?_
        refine q_bipush (v := nI 100) (pc2 := 48) C dL_fade_46 (by decide) rfl ?_
        refine q_iload_n (pc2 := 49) C 3 dL_fade_48 rfl rfl rfl ?_
        refine q_imul (v := nI (100 * f)) (pc2 := 50) C dL_fade_49 (pk_mul 100 f) rfl ?_
        refine q_iload_n (pc2 := 51) C 3 dL_fade_50 rfl rfl rfl ?_
        refine q_imul (v := nI ((100 * f) * f)) (pc2 := 52) C dL_fade_51 (pk_mul (100 * f) f) rfl ?_
        refine q_iadd (v := ((((w - u) * nI d) * nI d) + nI ((100 * f) * f))) (pc2 := 53) C dL_fade_52 (rfl) rfl ?_
        refine q_iload_n (pc2 := 54) C 3 dL_fade_53 rfl rfl rfl ?_
        refine q_iload_n (pc2 := 55) C 3 dL_fade_54 rfl rfl rfl ?_
        refine q_imul (v := nI (f * f)) (pc2 := 56) C dL_fade_55 (pk_mul f f) rfl ?_
        refine q_idiv (v := (((((w - u) * nI d) * nI d) + nI ((100 * f) * f)) / nI (f * f))) (pc2 := 57) C dL_fade_56 (nI_ne0 (Nat.mul_pos (by omega) (by omega)) (by have := Nat.mul_le_mul hf hf; omega)) (rfl) rfl ?_
        refine q_iadd (v := (u + (((((w - u) * nI d) * nI d) + nI ((100 * f) * f)) / nI (f * f)))) (pc2 := 58) C dL_fade_57 (rfl) rfl ?_
        refine q_bipush (v := nI 100) (pc2 := 60) C dL_fade_58 (by decide) rfl ?_
        refine q_isub (v := ((u + (((((w - u) * nI d) * nI d) + nI ((100 * f) * f)) / nI (f * f))) - nI 100)) (pc2 := 61) C dL_fade_60 (rfl) rfl ?_
        refine q_goto (pc2 := 65) C dL_fade_61 (by decide) ?_
        exact q_zret C hQ rfl (rfl) (Nat.zero_le _) (Nat.zero_le _) dL_fade_65 ⟨by unfold fdI; rw [if_neg (by omega), if_neg k9, if_pos k35], rfl⟩
    · skip
      have k9 : cv = 0 := (nI_eq (a := cv) (b := 0) (by omega) (by omega)).mp (c9)
      refine q_iload_n (pc2 := 13) C 0 dL_fade_12 rfl rfl rfl ?_
      refine q_iload_n (pc2 := 14) C 1 dL_fade_13 rfl rfl rfl ?_
      refine q_iload_n (pc2 := 15) C 0 dL_fade_14 rfl rfl rfl ?_
      refine q_isub (v := (w - u)) (pc2 := 16) C dL_fade_15 (rfl) rfl ?_
      refine q_iload_n (pc2 := 17) C 2 dL_fade_16 rfl rfl rfl ?_
      refine q_imul (v := ((w - u) * nI d)) (pc2 := 18) C dL_fade_17 (rfl) rfl ?_
      refine q_bipush (v := nI 100) (pc2 := 20) C dL_fade_18 (by decide) rfl ?_
      refine q_iload_n (pc2 := 21) C 3 dL_fade_20 rfl rfl rfl ?_
      refine q_imul (v := nI (100 * f)) (pc2 := 22) C dL_fade_21 (pk_mul 100 f) rfl ?_
      refine q_iadd (v := (((w - u) * nI d) + nI (100 * f))) (pc2 := 23) C dL_fade_22 (rfl) rfl ?_
      refine q_iload_n (pc2 := 24) C 3 dL_fade_23 rfl rfl rfl ?_
      refine q_idiv (v := ((((w - u) * nI d) + nI (100 * f)) / nI f)) (pc2 := 25) C dL_fade_24 (nI_ne0 (by omega) (by omega)) (rfl) rfl ?_
      refine q_iadd (v := (u + ((((w - u) * nI d) + nI (100 * f)) / nI f))) (pc2 := 26) C dL_fade_25 (rfl) rfl ?_
      refine q_bipush (v := nI 100) (pc2 := 28) C dL_fade_26 (by decide) rfl ?_
      refine q_isub (v := ((u + ((((w - u) * nI d) + nI (100 * f)) / nI f)) - nI 100)) (pc2 := 29) C dL_fade_28 (rfl) rfl ?_
      refine q_goto (pc2 := 65) C dL_fade_29 (by decide) ?_
      exact q_zret C hQ rfl (rfl) (Nat.zero_le _) (Nat.zero_le _) dL_fade_65 ⟨by unfold fdI; rw [if_neg (by omega), if_pos k9], rfl⟩
  · skip
    have k2 : f ≤ d := (nI_leI (a := f) (b := d) (by omega) (by omega)).mp (Int32.not_lt.mp c2)
    refine q_iload_n (pc2 := 6) C 1 dL_fade_5 rfl rfl rfl ?_
    exact q_zret C hQ rfl (rfl) (Nat.zero_le _) (Nat.zero_le _) dL_fade_6 ⟨by unfold fdI; rw [if_pos k2], rfl⟩

set_option maxHeartbeats 4000000 in
set_option maxRecDepth 100000 in
theorem c_L_wanted (l : Launch) (D : va_G) (ct : Nat → ClassId) (a : Nat → Nat) (fc fb fp fq fn fl : Nat → Int32) (S F V : Nat → Nat) (b T : Nat) (hfl : flOk fl S F V b T) (hb : b ≤ 4) (hT : T < 2 ^ 30) (k : Nat) (hk : k < 5) : qM l yL_wanted wsL_wanted ({ frames := 1, cells := 0, slots := 0, locals := 24 }) D ct [.ref (a 40), .ref (a 45), .int (nI k), .int (nI b), .int (nI T)] (wN ct a fc fb fp fq fn fl) (qD (some (.int (wanN fl S F V T k b))) (wN ct a fc fb fp fq fn fl)) 0 0 := by
  refine q_start (ret := some .int) (lv := [(0, .ref (a 40)), (1, .ref (a 45)), (2, .int (nI k)), (3, .int (nI b)), (4, .int (nI T))]) (by decide +kernel) rfl (Nat.le_of_ble_eq_true rfl) rfl ?_
  intro p e s m args below meth c A Q C hQ hnm
  refine q_iconst (v := nI 0) (pc2 := 1) C dL_wanted_0 (by decide) rfl ?_
  refine q_istore (lv' := [(5, .int (nI 0)), (0, .ref (a 40)), (1, .ref (a 45)), (2, .int (nI k)), (3, .int (nI b)), (4, .int (nI T))]) (pc2 := 3) C dL_wanted_1 (by decide) rfl rfl ?_
  refine q_iconst (v := nI 0) (pc2 := 4) C dL_wanted_3 (by decide) rfl ?_
  refine q_istore (lv' := [(6, .int (nI 0)), (5, .int (nI 0)), (0, .ref (a 40)), (1, .ref (a 45)), (2, .int (nI k)), (3, .int (nI b)), (4, .int (nI T))]) (pc2 := 6) C dL_wanted_4 (by decide) rfl rfl ?_
  refine q_iconst (v := (-1)) (pc2 := 7) C dL_wanted_6 (by decide) rfl ?_
  refine q_istore (lv' := [(7, .int (-1)), (6, .int (nI 0)), (5, .int (nI 0)), (0, .ref (a 40)), (1, .ref (a 45)), (2, .int (nI k)), (3, .int (nI b)), (4, .int (nI T))]) (pc2 := 9) C dL_wanted_7 (by decide) rfl rfl ?_
  refine q_iconst (v := nI 0) (pc2 := 10) C dL_wanted_9 (by decide) rfl ?_
  refine q_istore (lv' := [(8, .int (nI 0)), (7, .int (-1)), (6, .int (nI 0)), (5, .int (nI 0)), (0, .ref (a 40)), (1, .ref (a 45)), (2, .int (nI k)), (3, .int (nI b)), (4, .int (nI T))]) (pc2 := 12) C dL_wanted_10 (by decide) rfl rfl ?_
  refine q_lv (lv' := [(8, .int (nI 0)), (7, .int (-1)), (6, .int (nI 0)), (5, .int (nI 0)), (4, .int (nI T)), (3, .int (nI b)), (2, .int (nI k)), (1, .ref (a 45)), (0, .ref (a 40))]) [0, 1, 2, 3, 8, 7, 6, 5, 4] rfl ?_
  refine (lp_up (P := fun i => ∀ (u wt : Int32) (ml : Nat), (wst fl S F V k i = (u, wt, ml) ∧ ml ≤ i) → Cf p l e ({ frames := 1, cells := 0, slots := 0, locals := 24 }) s m args below meth c D A 9 0 0 Q 12 [(8, .int (nI i)), (7, .int (lstI ml)), (6, .int wt), (5, .int u), (4, .int (nI T)), (3, .int (nI b)), (2, .int (nI k)), (1, .ref (a 45)), (0, .ref (a 40))] [] (wN ct a fc fb fp fq fn fl)) b (fun i hi ihi => ?_) ?_ : ∀ (u wt : Int32) (ml : Nat), (wst fl S F V k 0 = (u, wt, ml) ∧ ml ≤ 0) → Cf p l e ({ frames := 1, cells := 0, slots := 0, locals := 24 }) s m args below meth c D A 9 0 0 Q 12 [(8, .int (nI 0)), (7, .int (lstI ml)), (6, .int wt), (5, .int u), (4, .int (nI T)), (3, .int (nI b)), (2, .int (nI k)), (1, .ref (a 45)), (0, .ref (a 40))] [] (wN ct a fc fb fp fq fn fl)) 0 0 0 ⟨rfl, Nat.le_refl 0⟩
  · intro u wt ml hyi
    have hmi := hyi.2
    refine q_iload (pc2 := 14) C 0 dL_wanted_12 rfl rfl ?_
    refine q_iload_n (pc2 := 15) C 5 dL_wanted_14 rfl rfl rfl ?_
    refine q_icmp_ge (tgt := 106) (pc2 := 18) C dL_wanted_15 (by decide) rfl (fun h9 => absurd h9 (nI_ge (a := i) (b := b) (by omega) (by omega))) (fun _ => ?_)
    refine q_aload_n (pc2 := 19) C 7 dL_wanted_18 rfl rfl rfl ?_
    refine q_bipush (v := nI 8) (pc2 := 21) C dL_wanted_19 (by decide) rfl ?_
    refine q_iload (pc2 := 23) C 0 dL_wanted_21 rfl rfl ?_
    refine q_imul (v := nI (8 * i)) (pc2 := 24) C dL_wanted_23 (pk_mul 8 i) rfl ?_
    refine q_iconst (v := nI 3) (pc2 := 25) C dL_wanted_24 (by decide) rfl ?_
    refine q_iadd (v := nI ((8 * i) + 3)) (pc2 := 26) C dL_wanted_25 (nI_add (8 * i) 3) rfl ?_
    refine q_iload_n (pc2 := 27) C 6 dL_wanted_26 rfl rfl rfl ?_
    refine q_iadd (v := nI (((8 * i) + 3) + k)) (pc2 := 28) C dL_wanted_27 (nI_add ((8 * i) + 3) k) rfl ?_
    refine q_iald (q0 := 5) (f := fl) (pc2 := 29) C (((8 * i) + 3) + k) (wN_g5 ct a fc fb fp fq fn fl) rfl (rfl) (by omega) (by decide) dL_wanted_28 rfl ?_
    refine q_if_lt (tgt := 100) (pc2 := 32) C dL_wanted_29 (by decide) rfl (fun c29 => ?_) (fun c29 => ?_)
    · skip
      refine q_iinc (v := nI (i + 1)) (lv' := [(8, .int (nI (i + 1))), (7, .int (lstI ml)), (6, .int wt), (5, .int u), (4, .int (nI T)), (3, .int (nI b)), (2, .int (nI k)), (1, .ref (a 45)), (0, .ref (a 40))]) (pc2 := 103) C 0 dL_wanted_100 rfl (show nI i + Int32.ofInt 1 = nI (i + 1) by rw [show Int32.ofInt 1 = nI 1 from by decide]; exact nI_add i 1) (by decide) rfl rfl ?_
      refine q_goto (pc2 := 12) C dL_wanted_103 (by decide) ?_
      exact ihi u wt ml ⟨by rw [wst_s, if_pos c29]; exact hyi.1, by omega⟩
    · skip
      rcases ml with _ | ml
      · skip
        refine q_eql (lv' := [(8, .int (nI i)), (7, .int (-1)), (6, .int wt), (5, .int u), (4, .int (nI T)), (3, .int (nI b)), (2, .int (nI k)), (1, .ref (a 45)), (0, .ref (a 40))]) rfl ?_
        refine q_iload (pc2 := 34) C 1 dL_wanted_32 rfl rfl ?_
        refine q_if_ge (tgt := 41) (pc2 := 37) C dL_wanted_34 (by decide) rfl (fun h9 => absurd h9 (by decide)) (fun _ => ?_)
        refine q_iconst (v := nI 0) (pc2 := 38) C dL_wanted_37 (by decide) rfl ?_
        refine q_goto (pc2 := 81) C dL_wanted_38 (by decide) ?_
        refine q_istore (lv' := [(5, .int (nI 0)), (8, .int (nI i)), (7, .int (-1)), (6, .int wt), (4, .int (nI T)), (3, .int (nI b)), (2, .int (nI k)), (1, .ref (a 45)), (0, .ref (a 40))]) (pc2 := 83) C dL_wanted_81 (by decide) rfl rfl ?_
        refine q_aload_n (pc2 := 84) C 7 dL_wanted_83 rfl rfl rfl ?_
        refine q_bipush (v := nI 8) (pc2 := 86) C dL_wanted_84 (by decide) rfl ?_
        refine q_iload (pc2 := 88) C 1 dL_wanted_86 rfl rfl ?_
        refine q_imul (v := nI (8 * i)) (pc2 := 89) C dL_wanted_88 (pk_mul 8 i) rfl ?_
        refine q_iconst (v := nI 3) (pc2 := 90) C dL_wanted_89 (by decide) rfl ?_
        refine q_iadd (v := nI ((8 * i) + 3)) (pc2 := 91) C dL_wanted_90 (nI_add (8 * i) 3) rfl ?_
        refine q_iload_n (pc2 := 92) C 6 dL_wanted_91 rfl rfl rfl ?_
        refine q_iadd (v := nI (((8 * i) + 3) + k)) (pc2 := 93) C dL_wanted_92 (nI_add ((8 * i) + 3) k) rfl ?_
        refine q_iald (q0 := 5) (f := fl) (pc2 := 94) C (((8 * i) + 3) + k) (wN_g5 ct a fc fb fp fq fn fl) rfl (rfl) (by omega) (by decide) dL_wanted_93 rfl ?_
        refine q_istore (lv' := [(6, .int (fl (((8 * i) + 3) + k))), (5, .int (nI 0)), (8, .int (nI i)), (7, .int (-1)), (4, .int (nI T)), (3, .int (nI b)), (2, .int (nI k)), (1, .ref (a 45)), (0, .ref (a 40))]) (pc2 := 96) C dL_wanted_94 (by decide) rfl rfl ?_
        refine q_iload (pc2 := 98) C 2 dL_wanted_96 rfl rfl ?_
        refine q_istore (lv' := [(7, .int (nI i)), (6, .int (fl (((8 * i) + 3) + k))), (5, .int (nI 0)), (8, .int (nI i)), (4, .int (nI T)), (3, .int (nI b)), (2, .int (nI k)), (1, .ref (a 45)), (0, .ref (a 40))]) (pc2 := 100) C dL_wanted_98 (by decide) rfl rfl ?_
        refine q_iinc (v := nI (i + 1)) (lv' := [(8, .int (nI (i + 1))), (7, .int (nI i)), (6, .int (fl (((8 * i) + 3) + k))), (5, .int (nI 0)), (4, .int (nI T)), (3, .int (nI b)), (2, .int (nI k)), (1, .ref (a 45)), (0, .ref (a 40))]) (pc2 := 103) C 3 dL_wanted_100 rfl (show nI i + Int32.ofInt 1 = nI (i + 1) by rw [show Int32.ofInt 1 = nI 1 from by decide]; exact nI_add i 1) (by decide) rfl rfl ?_
        refine q_goto (pc2 := 12) C dL_wanted_103 (by decide) ?_
        exact ihi _ _ (i + 1) ⟨by rw [wst_s, if_neg c29, hyi.1]; rfl, by omega⟩
      · skip
        refine q_eql (lv' := [(8, .int (nI i)), (7, .int (nI ml)), (6, .int wt), (5, .int u), (4, .int (nI T)), (3, .int (nI b)), (2, .int (nI k)), (1, .ref (a 45)), (0, .ref (a 40))]) rfl ?_
        refine q_iload (pc2 := 34) C 1 dL_wanted_32 rfl rfl ?_
        refine q_if_ge (tgt := 41) (pc2 := 37) C dL_wanted_34 (by decide) rfl (fun _ => ?_) (fun h9 => absurd (nI_le (a := 0) (b := ml) (by omega) (by omega)) h9)
        refine q_iload (pc2 := 43) C 3 dL_wanted_41 rfl rfl ?_
        refine q_iload (pc2 := 45) C 2 dL_wanted_43 rfl rfl ?_
        refine q_aload_n (pc2 := 46) C 7 dL_wanted_45 rfl rfl rfl ?_
        refine q_bipush (v := nI 8) (pc2 := 48) C dL_wanted_46 (by decide) rfl ?_
        refine q_iload (pc2 := 50) C 0 dL_wanted_48 rfl rfl ?_
        refine q_imul (v := nI (8 * i)) (pc2 := 51) C dL_wanted_50 (pk_mul 8 i) rfl ?_
        refine q_iald (q0 := 5) (f := fl) (pc2 := 52) C (8 * i) (wN_g5 ct a fc fb fp fq fn fl) rfl (rfl) (by omega) (by decide) dL_wanted_51 rfl ?_
        refine q_eqi (y := nI (S i)) ((hfl.1 i hi).1) ?_
        refine q_aload_n (pc2 := 53) C 7 dL_wanted_52 rfl rfl rfl ?_
        refine q_bipush (v := nI 8) (pc2 := 55) C dL_wanted_53 (by decide) rfl ?_
        refine q_iload (pc2 := 57) C 1 dL_wanted_55 rfl rfl ?_
        refine q_imul (v := nI (8 * ml)) (pc2 := 58) C dL_wanted_57 (pk_mul 8 ml) rfl ?_
        refine q_iald (q0 := 5) (f := fl) (pc2 := 59) C (8 * ml) (wN_g5 ct a fc fb fp fq fn fl) rfl (rfl) (by omega) (by decide) dL_wanted_58 rfl ?_
        refine q_eqi (y := nI (S ml)) ((hfl.1 ml (by omega)).1) ?_
        refine q_isub (v := nI (S i - S ml)) (pc2 := 60) C dL_wanted_59 (pk_sub (hfl.2 ml i (by omega) hi)) rfl ?_
        refine q_aload_n (pc2 := 61) C 7 dL_wanted_60 rfl rfl rfl ?_
        refine q_bipush (v := nI 8) (pc2 := 63) C dL_wanted_61 (by decide) rfl ?_
        refine q_iload (pc2 := 65) C 1 dL_wanted_63 rfl rfl ?_
        refine q_imul (v := nI (8 * ml)) (pc2 := 66) C dL_wanted_65 (pk_mul 8 ml) rfl ?_
        refine q_iconst (v := nI 1) (pc2 := 67) C dL_wanted_66 (by decide) rfl ?_
        refine q_iadd (v := nI ((8 * ml) + 1)) (pc2 := 68) C dL_wanted_67 (nI_add (8 * ml) 1) rfl ?_
        refine q_iald (q0 := 5) (f := fl) (pc2 := 69) C ((8 * ml) + 1) (wN_g5 ct a fc fb fp fq fn fl) rfl (rfl) (by omega) (by decide) dL_wanted_68 rfl ?_
        refine q_eqi (y := nI (F ml)) ((hfl.1 ml (by omega)).2.1) ?_
        refine q_aload_n (pc2 := 70) C 7 dL_wanted_69 rfl rfl rfl ?_
        refine q_bipush (v := nI 8) (pc2 := 72) C dL_wanted_70 (by decide) rfl ?_
        refine q_iload (pc2 := 74) C 1 dL_wanted_72 rfl rfl ?_
        refine q_imul (v := nI (8 * ml)) (pc2 := 75) C dL_wanted_74 (pk_mul 8 ml) rfl ?_
        refine q_iconst (v := nI 2) (pc2 := 76) C dL_wanted_75 (by decide) rfl ?_
        refine q_iadd (v := nI ((8 * ml) + 2)) (pc2 := 77) C dL_wanted_76 (nI_add (8 * ml) 2) rfl ?_
        refine q_iald (q0 := 5) (f := fl) (pc2 := 78) C ((8 * ml) + 2) (wN_g5 ct a fc fb fp fq fn fl) rfl (rfl) (by omega) (by decide) dL_wanted_77 rfl ?_
        refine q_eqi (y := nI (V ml)) ((hfl.1 ml (by omega)).2.2.1) ?_
        refine q_s0 (pc2 := 81) (As := [.int u, .int wt, .int (nI (S i - S ml)), .int (nI (F ml)), .int (nI (V ml))]) (st := []) (st2 := [.int (fdI u wt (S i - S ml) (F ml) (V ml))]) C (c_L_fade l D ct u wt (S i - S ml) (F ml) (V ml) (by have := (hfl.1 i hi).2.2.2.2.2; omega) (hfl.1 ml (by omega)).2.2.2.1 (hfl.1 ml (by omega)).2.2.2.2.1) (va_cwS 5 C.w gL_wanted_L_fade rfl rfl rfl (by decide +kernel) ⟨Nat.le_of_ble_eq_true rfl, Nat.le_of_ble_eq_true rfl⟩) dL_wanted_78 rfl rfl (Nat.le_of_ble_eq_true rfl) ⟨Nat.zero_le _, Nat.zero_le _⟩ rfl rfl ?_
        refine q_istore (lv' := [(5, .int (fdI u wt (S i - S ml) (F ml) (V ml))), (8, .int (nI i)), (7, .int (nI ml)), (6, .int wt), (4, .int (nI T)), (3, .int (nI b)), (2, .int (nI k)), (1, .ref (a 45)), (0, .ref (a 40))]) (pc2 := 83) C dL_wanted_81 (by decide) rfl rfl ?_
        refine q_aload_n (pc2 := 84) C 7 dL_wanted_83 rfl rfl rfl ?_
        refine q_bipush (v := nI 8) (pc2 := 86) C dL_wanted_84 (by decide) rfl ?_
        refine q_iload (pc2 := 88) C 1 dL_wanted_86 rfl rfl ?_
        refine q_imul (v := nI (8 * i)) (pc2 := 89) C dL_wanted_88 (pk_mul 8 i) rfl ?_
        refine q_iconst (v := nI 3) (pc2 := 90) C dL_wanted_89 (by decide) rfl ?_
        refine q_iadd (v := nI ((8 * i) + 3)) (pc2 := 91) C dL_wanted_90 (nI_add (8 * i) 3) rfl ?_
        refine q_iload_n (pc2 := 92) C 6 dL_wanted_91 rfl rfl rfl ?_
        refine q_iadd (v := nI (((8 * i) + 3) + k)) (pc2 := 93) C dL_wanted_92 (nI_add ((8 * i) + 3) k) rfl ?_
        refine q_iald (q0 := 5) (f := fl) (pc2 := 94) C (((8 * i) + 3) + k) (wN_g5 ct a fc fb fp fq fn fl) rfl (rfl) (by omega) (by decide) dL_wanted_93 rfl ?_
        refine q_istore (lv' := [(6, .int (fl (((8 * i) + 3) + k))), (5, .int (fdI u wt (S i - S ml) (F ml) (V ml))), (8, .int (nI i)), (7, .int (nI ml)), (4, .int (nI T)), (3, .int (nI b)), (2, .int (nI k)), (1, .ref (a 45)), (0, .ref (a 40))]) (pc2 := 96) C dL_wanted_94 (by decide) rfl rfl ?_
        refine q_iload (pc2 := 98) C 2 dL_wanted_96 rfl rfl ?_
        refine q_istore (lv' := [(7, .int (nI i)), (6, .int (fl (((8 * i) + 3) + k))), (5, .int (fdI u wt (S i - S ml) (F ml) (V ml))), (8, .int (nI i)), (4, .int (nI T)), (3, .int (nI b)), (2, .int (nI k)), (1, .ref (a 45)), (0, .ref (a 40))]) (pc2 := 100) C dL_wanted_98 (by decide) rfl rfl ?_
        refine q_iinc (v := nI (i + 1)) (lv' := [(8, .int (nI (i + 1))), (7, .int (nI i)), (6, .int (fl (((8 * i) + 3) + k))), (5, .int (fdI u wt (S i - S ml) (F ml) (V ml))), (4, .int (nI T)), (3, .int (nI b)), (2, .int (nI k)), (1, .ref (a 45)), (0, .ref (a 40))]) (pc2 := 103) C 3 dL_wanted_100 rfl (show nI i + Int32.ofInt 1 = nI (i + 1) by rw [show Int32.ofInt 1 = nI 1 from by decide]; exact nI_add i 1) (by decide) rfl rfl ?_
        refine q_goto (pc2 := 12) C dL_wanted_103 (by decide) ?_
        exact ihi _ _ (i + 1) ⟨by rw [wst_s, if_neg c29, hyi.1]; rfl, by omega⟩
  · intro u wt ml hyi
    have hmi := hyi.2
    refine q_iload (pc2 := 14) C 0 dL_wanted_12 rfl rfl ?_
    refine q_iload_n (pc2 := 15) C 5 dL_wanted_14 rfl rfl rfl ?_
    refine q_icmp_ge (tgt := 106) (pc2 := 18) C dL_wanted_15 (by decide) rfl (fun _ => ?_) (fun h9 => absurd (nI_le (a := b) (b := b) (by omega) (by omega)) h9)
    rcases ml with _ | ml
    · skip
      refine q_eql (lv' := [(8, .int (nI b)), (7, .int (-1)), (6, .int wt), (5, .int u), (4, .int (nI T)), (3, .int (nI b)), (2, .int (nI k)), (1, .ref (a 45)), (0, .ref (a 40))]) rfl ?_
      refine q_iload (pc2 := 108) C 1 dL_wanted_106 rfl rfl ?_
      refine q_if_ge (tgt := 115) (pc2 := 111) C dL_wanted_108 (by decide) rfl (fun h9 => absurd h9 (by decide)) (fun _ => ?_)
      refine q_iconst (v := nI 0) (pc2 := 112) C dL_wanted_111 (by decide) rfl ?_
      refine q_goto (pc2 := 150) C dL_wanted_112 (by decide) ?_
      exact q_zret C hQ rfl (rfl) (Nat.zero_le _) (Nat.zero_le _) dL_wanted_150 ⟨by unfold wanN wres; rw [hyi.1]; rfl, rfl⟩
    · skip
      refine q_eql (lv' := [(8, .int (nI b)), (7, .int (nI ml)), (6, .int wt), (5, .int u), (4, .int (nI T)), (3, .int (nI b)), (2, .int (nI k)), (1, .ref (a 45)), (0, .ref (a 40))]) rfl ?_
      refine q_iload (pc2 := 108) C 1 dL_wanted_106 rfl rfl ?_
      refine q_if_ge (tgt := 115) (pc2 := 111) C dL_wanted_108 (by decide) rfl (fun _ => ?_) (fun h9 => absurd (nI_le (a := 0) (b := ml) (by omega) (by omega)) h9)
      refine q_iload (pc2 := 117) C 3 dL_wanted_115 rfl rfl ?_
      refine q_iload (pc2 := 119) C 2 dL_wanted_117 rfl rfl ?_
      refine q_iload (pc2 := 121) C 4 dL_wanted_119 rfl rfl ?_
      refine q_aload_n (pc2 := 122) C 7 dL_wanted_121 rfl rfl rfl ?_
      refine q_bipush (v := nI 8) (pc2 := 124) C dL_wanted_122 (by decide) rfl ?_
      refine q_iload (pc2 := 126) C 1 dL_wanted_124 rfl rfl ?_
      refine q_imul (v := nI (8 * ml)) (pc2 := 127) C dL_wanted_126 (pk_mul 8 ml) rfl ?_
      refine q_iald (q0 := 5) (f := fl) (pc2 := 128) C (8 * ml) (wN_g5 ct a fc fb fp fq fn fl) rfl (rfl) (by omega) (by decide) dL_wanted_127 rfl ?_
      refine q_eqi (y := nI (S ml)) ((hfl.1 ml (by omega)).1) ?_
      refine q_isub (v := nI (T - S ml)) (pc2 := 129) C dL_wanted_128 (pk_sub (hfl.1 ml (by omega)).2.2.2.2.2) rfl ?_
      refine q_aload_n (pc2 := 130) C 7 dL_wanted_129 rfl rfl rfl ?_
      refine q_bipush (v := nI 8) (pc2 := 132) C dL_wanted_130 (by decide) rfl ?_
      refine q_iload (pc2 := 134) C 1 dL_wanted_132 rfl rfl ?_
      refine q_imul (v := nI (8 * ml)) (pc2 := 135) C dL_wanted_134 (pk_mul 8 ml) rfl ?_
      refine q_iconst (v := nI 1) (pc2 := 136) C dL_wanted_135 (by decide) rfl ?_
      refine q_iadd (v := nI ((8 * ml) + 1)) (pc2 := 137) C dL_wanted_136 (nI_add (8 * ml) 1) rfl ?_
      refine q_iald (q0 := 5) (f := fl) (pc2 := 138) C ((8 * ml) + 1) (wN_g5 ct a fc fb fp fq fn fl) rfl (rfl) (by omega) (by decide) dL_wanted_137 rfl ?_
      refine q_eqi (y := nI (F ml)) ((hfl.1 ml (by omega)).2.1) ?_
      refine q_aload_n (pc2 := 139) C 7 dL_wanted_138 rfl rfl rfl ?_
      refine q_bipush (v := nI 8) (pc2 := 141) C dL_wanted_139 (by decide) rfl ?_
      refine q_iload (pc2 := 143) C 1 dL_wanted_141 rfl rfl ?_
      refine q_imul (v := nI (8 * ml)) (pc2 := 144) C dL_wanted_143 (pk_mul 8 ml) rfl ?_
      refine q_iconst (v := nI 2) (pc2 := 145) C dL_wanted_144 (by decide) rfl ?_
      refine q_iadd (v := nI ((8 * ml) + 2)) (pc2 := 146) C dL_wanted_145 (nI_add (8 * ml) 2) rfl ?_
      refine q_iald (q0 := 5) (f := fl) (pc2 := 147) C ((8 * ml) + 2) (wN_g5 ct a fc fb fp fq fn fl) rfl (rfl) (by omega) (by decide) dL_wanted_146 rfl ?_
      refine q_eqi (y := nI (V ml)) ((hfl.1 ml (by omega)).2.2.1) ?_
      refine q_s0 (pc2 := 150) (As := [.int u, .int wt, .int (nI (T - S ml)), .int (nI (F ml)), .int (nI (V ml))]) (st := []) (st2 := [.int (fdI u wt (T - S ml) (F ml) (V ml))]) C (c_L_fade l D ct u wt (T - S ml) (F ml) (V ml) (by omega) (hfl.1 ml (by omega)).2.2.2.1 (hfl.1 ml (by omega)).2.2.2.2.1) (va_cwS 5 C.w gL_wanted_L_fade rfl rfl rfl (by decide +kernel) ⟨Nat.le_of_ble_eq_true rfl, Nat.le_of_ble_eq_true rfl⟩) dL_wanted_147 rfl rfl (Nat.le_of_ble_eq_true rfl) ⟨Nat.zero_le _, Nat.zero_le _⟩ rfl rfl ?_
      exact q_zret C hQ rfl (rfl) (Nat.zero_le _) (Nat.zero_le _) dL_wanted_150 ⟨by unfold wanN wres; rw [hyi.1]; rfl, rfl⟩

set_option maxHeartbeats 4000000 in
set_option maxRecDepth 100000 in
theorem c_L_level (l : Launch) (D : va_G) (ct : Nat → ClassId) (a : Nat → Nat) (fc fb fp fq fn fl : Nat → Int32) (S F V : Nat → Nat) (b T : Nat) (hfl : flOk fl S F V b T) (hb : b ≤ 4) (hT : T < 2 ^ 30) (hcb : fc 5 = nI b) (hcT : fc 7 = nI T) (i : Nat) (hi : i < 5) : qM l yL_level wsL_level ({ frames := 2, cells := 0, slots := 0, locals := 52 }) D ct [.ref (a 40), .ref (a 42), .ref (a 45), .int (nI i)] (wN ct a fc fb fp fq fn fl) (qD (some (.int (levN fp fl S F V T i b))) (wN ct a fc fb fp fq fn fl)) 0 0 := by
  refine q_start (ret := some .int) (lv := [(0, .ref (a 40)), (1, .ref (a 42)), (2, .ref (a 45)), (3, .int (nI i))]) (by decide +kernel) rfl (Nat.le_of_ble_eq_true rfl) rfl ?_
  intro p e s m args below meth c A Q C hQ hnm
  refine q_aload_n (pc2 := 1) C 1 dL_level_0 rfl rfl rfl ?_
  refine q_bipush (v := nI 10) (pc2 := 3) C dL_level_1 (by decide) rfl ?_
  refine q_iload_n (pc2 := 4) C 3 dL_level_3 rfl rfl rfl ?_
  refine q_iadd (v := nI (10 + i)) (pc2 := 5) C dL_level_4 (nI_add 10 i) rfl ?_
  refine q_iald (q0 := 2) (f := fp) (pc2 := 6) C (10 + i) (wN_g2 ct a fc fb fp fq fn fl) rfl (rfl) (by omega) (by decide) dL_level_5 rfl ?_
  refine q_if_lt (tgt := 19) (pc2 := 9) C dL_level_6 (by decide) rfl (fun c6 => ?_) (fun c6 => ?_)
  · skip
    refine q_iconst (v := nI 0) (pc2 := 20) C dL_level_19 (by decide) rfl ?_
    refine q_goto (pc2 := 36) C dL_level_20 (by decide) ?_
    exact q_zret C hQ rfl (rfl) (Nat.zero_le _) (Nat.zero_le _) dL_level_36 ⟨by unfold levN; rw [if_pos (show fp (10 + i) < 0 ∨ fp (30 + i) = 1 from Or.inl c6)]; rfl, rfl⟩
  · skip
    refine q_aload_n (pc2 := 10) C 1 dL_level_9 rfl rfl rfl ?_
    refine q_bipush (v := nI 30) (pc2 := 12) C dL_level_10 (by decide) rfl ?_
    refine q_iload_n (pc2 := 13) C 3 dL_level_12 rfl rfl rfl ?_
    refine q_iadd (v := nI (30 + i)) (pc2 := 14) C dL_level_13 (nI_add 30 i) rfl ?_
    refine q_iald (q0 := 2) (f := fp) (pc2 := 15) C (30 + i) (wN_g2 ct a fc fb fp fq fn fl) rfl (rfl) (by omega) (by decide) dL_level_14 rfl ?_
    refine q_iconst (v := nI 1) (pc2 := 16) C dL_level_15 (by decide) rfl ?_
    refine q_icmp_ne (tgt := 23) (pc2 := 19) C dL_level_16 (by decide) rfl (fun c16 => ?_) (fun c16 => ?_)
    · skip
      refine q_aload_n (pc2 := 24) C 0 dL_level_23 rfl rfl rfl ?_
      refine q_aload_n (pc2 := 25) C 2 dL_level_24 rfl rfl rfl ?_
      refine q_iload_n (pc2 := 26) C 3 dL_level_25 rfl rfl rfl ?_
      refine q_aload_n (pc2 := 27) C 0 dL_level_26 rfl rfl rfl ?_
      refine q_iconst (v := nI 5) (pc2 := 28) C dL_level_27 (by decide) rfl ?_
      refine q_iald (q0 := 0) (f := fc) (pc2 := 29) C 5 (wN_g0 ct a fc fb fp fq fn fl) rfl (rfl) (by decide) (by decide) dL_level_28 rfl ?_
      refine q_eqi (y := nI b) (hcb) ?_
      refine q_aload_n (pc2 := 30) C 0 dL_level_29 rfl rfl rfl ?_
      refine q_bipush (v := nI 7) (pc2 := 32) C dL_level_30 (by decide) rfl ?_
      refine q_iald (q0 := 0) (f := fc) (pc2 := 33) C 7 (wN_g0 ct a fc fb fp fq fn fl) rfl (rfl) (by decide) (by decide) dL_level_32 rfl ?_
      refine q_eqi (y := nI T) (hcT) ?_
      refine q_NS_wN (pc2 := 36) (As := [.ref (a 40), .ref (a 45), .int (nI i), .int (nI b), .int (nI T)]) (st := []) (st2 := [.int (wanN fl S F V T i b)]) C (c_L_wanted l D ct a fc fb fp fq fn fl S F V b T hfl hb hT i hi) (va_cwS 5 C.w gL_level_L_wanted rfl rfl rfl (by decide +kernel) ⟨Nat.le_of_ble_eq_true rfl, Nat.le_of_ble_eq_true rfl⟩) dL_level_33 rfl rfl (Nat.le_of_ble_eq_true rfl) ⟨Nat.zero_le _, Nat.zero_le _⟩ rfl rfl ?_
      exact q_zret C hQ rfl (rfl) (Nat.zero_le _) (Nat.zero_le _) dL_level_36 ⟨by unfold levN; rw [if_neg (fun z : fp (10 + i) < 0 ∨ fp (30 + i) = 1 => z.elim c6 c16)], rfl⟩
    · skip
      refine q_iconst (v := nI 0) (pc2 := 20) C dL_level_19 (by decide) rfl ?_
      refine q_goto (pc2 := 36) C dL_level_20 (by decide) ?_
      exact q_zret C hQ rfl (rfl) (Nat.zero_le _) (Nat.zero_le _) dL_level_36 ⟨by unfold levN; rw [if_pos (show fp (10 + i) < 0 ∨ fp (30 + i) = 1 from Or.inr c16)]; rfl, rfl⟩

