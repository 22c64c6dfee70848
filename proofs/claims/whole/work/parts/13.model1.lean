theorem fa_le (a b : Int32) : a ≤ b ↔ a.toInt ≤ b.toInt := Int32.le_iff_toInt_le
theorem fa_lt (a b : Int32) : a < b ↔ a.toInt < b.toInt := Int32.lt_iff_toInt_lt

/-! the reference: small methods -/
theorem cellM (n t k : Nat) : nI n * nI t + nI k = nI (n * t + k) := by rw [pk_mul, nI_add]
theorem cellK {u v : Int32} {n t k : Nat} (hu : u = nI t) (hv : v = nI k) : nI n * u + v = nI (n * t + k) := by rw [hu, hv]; exact cellM n t k
/-- a number that was tested against 0 and k - 1 is an index below k -/
theorem idxN {v : Int32} {k : Nat} (h : 0 ≤ v ∧ v ≤ nI k - 1) (hk : k < 2 ^ 30) : v.toNatClampNeg < k ∧ v = nI v.toNatClampNeg := by
  obtain ⟨j, hj, rfl⟩ := nI_of (Int32.not_lt.mpr h.1)
  rw [nI_clamp hj]
  refine ⟨?_, rfl⟩
  have h2 := (fa_le _ _).mp h.2
  rw [nI_toInt hj, show (1 : Int32) = nI 1 from rfl, pk_sub_toInt hk (by decide)] at h2
  omega
theorem idxL {v : Int32} {k : Nat} (h : 0 ≤ v ∧ v < nI k) (hk : k < 2 ^ 31) : v.toNatClampNeg < k ∧ v = nI v.toNatClampNeg := by
  obtain ⟨j, hj, rfl⟩ := nI_below h hk
  rw [nI_clamp (by omega)]
  exact ⟨hj, rfl⟩
theorem b2_congr {c d : Prop} [Decidable c] [Decidable d] (h : c ↔ d) : b2 c = b2 d := by unfold b2; simp only [h]
def wgh (k : Int32) : Int32 := if k = 0 then 4 else if k = 1 then 9 else if k = 2 then 12 else 25
def drw (k : Int32) : Int32 := if k = 0 then 1000 else if k = 1 then 750 else if k = 2 then 500 else 800
def hasA (k : Int32) : Int32 := if k = 2 then 4 else if k = 3 then 12 else 1
abbrev inR (v lo hi : Int32) : Prop := lo ≤ v ∧ v ≤ hi
def wOnM (y : Nat → Nat → Int32) (n : Nat) (bar aside : Int32) : Int32 := sumf (fun k => if y 7 k = bar ∧ nI k ≠ aside then wgh (y 5 k) else 0) n
abbrev farM (y : Nat → Nat → Int32) (lm bar place : Int32) (k : Nat) : Prop := nI k ≠ lm → y 7 k = bar → 3 ≤ y 8 k - place ∨ 3 ≤ place - y 8 k
abbrev bearM (y : Nat → Nat → Int32) (n h : Nat) (lm bar : Int32) : Prop := wOnM y n bar lm + wgh (y 5 lm.toNatClampNeg) ≤ y 3 (4 * h + bar.toNatClampNeg)
abbrev canM (y : Nat → Nat → Int32) (n h : Nat) (lm bar place : Int32) : Prop := bearM y n h lm bar ∧ ∀ k, k < n → farM y lm bar place k
def canK (y : Nat → Nat → Int32) (n h : Nat) (lm bar place : Int32) (k : Nat) : Int32 := b2 (bearM y n h lm bar ∧ ∀ q, q < k → farM y lm bar place q)
theorem canK_0 (y : Nat → Nat → Int32) (n h : Nat) (lm bar place : Int32) : b2 (bearM y n h lm bar) = canK y n h lm bar place 0 := b2_congr ⟨fun z => ⟨z, fun q hq => absurd hq (Nat.not_lt_zero q)⟩, fun z => z.1⟩
theorem all_y {c : Prop} {p : Nat → Prop} [Decidable c] [DecidablePred p] {k : Nat} (hp : p k) : b2 (c ∧ ∀ q, q < k → p q) = b2 (c ∧ ∀ q, q < k + 1 → p q) :=
  b2_congr ⟨fun z => ⟨z.1, lt_s z.2 hp⟩, fun z => ⟨z.1, fun q hq => z.2 q (Nat.lt_succ_of_lt hq)⟩⟩
theorem all_0 {c : Prop} {p : Nat → Prop} [Decidable c] [DecidablePred p] {k : Nat} (h : b2 (c ∧ ∀ q, q < k → p q) = 0) : 0 = b2 (c ∧ ∀ q, q < k + 1 → p q) :=
  (b2_f (fun z => b2_eq.mp h ⟨z.1, fun q hq => z.2 q (Nat.lt_succ_of_lt hq)⟩)).symm
theorem all_n {c : Prop} {p : Nat → Prop} [Decidable c] [DecidablePred p] {k : Nat} (hp : ¬ p k) : 0 = b2 (c ∧ ∀ q, q < k + 1 → p q) := (b2_f (fun z => hp (z.2 k (Nat.lt_succ_self k)))).symm
theorem all_1 {c : Prop} {p : Nat → Prop} [Decidable c] [DecidablePred p] {k : Nat} (h : ¬ b2 (c ∧ ∀ q, q < k → p q) = 0) (hp : p k) : 1 = b2 (c ∧ ∀ q, q < k + 1 → p q) :=
  (b2_t ⟨(b2_ne.mp h).1, lt_s (b2_ne.mp h).2 hp⟩).symm
def ahd (y : Nat → Nat → Int32) (n : Nat) (bar : Int32) (k : Nat) : Int32 := sumf (fun j => if y 7 j = bar ∧ y 8 j < y 8 k then 1 else 0) n
def rnkM (y : Nat → Nat → Int32) (n : Nat) (bar rank : Int32) : Int32 := fnd (fun k => y 7 k = bar ∧ ahd y n bar k = rank) n 0
def atM (y : Nat → Nat → Int32) (n : Nat) (ad : Int32) : Int32 := sumf (fun k => if y 9 k ≠ -1 ∧ inR ad (y 9 k) (y 9 k + hasA (y 5 k) - 1) then 1 else 0) n
def qtn (u v : Int32) : Int32 := if u / v * v ≤ u then u / v else u / v - 1
def wlM (y : Nat → Nat → Int32) (k : Nat) : Int32 := if y 16 k ≤ y 25 0 - y 15 k then y 14 k else if y 17 k = 0 then y 13 k + qtn ((y 14 k - y 13 k) * (y 25 0 - y 15 k)) (y 16 k) else if y 17 k = 1 then y 13 k + qtn ((y 14 k - y 13 k) * (y 25 0 - y 15 k) * (y 25 0 - y 15 k)) (y 16 k * y 16 k) else y 13 k
def wOk (y : Nat → Nat → Int32) (k : Nat) : Prop := ¬ y 16 k ≤ y 25 0 - y 15 k → ¬ y 16 k = 0 ∧ ¬ y 16 k * y 16 k = 0
def lvM (y : Nat → Nat → Int32) (k : Nat) : Int32 := if y 7 k ≠ -1 then (if y 11 k = 0 then wlM y k else 0) else 0

set_option maxHeartbeats 4000000 in
set_option maxRecDepth 100000 in
theorem c_X4_thrown (l : Launch) (D : va_G) (ct : Nat → ClassId) (b : Nat → Nat) (y : Nat → Nat → Int32) : qM l yX4_thrown wsX4_thrown ({ frames := 0, cells := 0, slots := 0, locals := 0 }) D ct [.ref (b 30)] (wM ct b y) (qD (some (.int (y 27 0))) (wM ct b y)) 0 0 := by
  refine q_start (ret := some .int) (lv := [(0, .ref (b 30))]) (by decide +kernel) rfl (Nat.le_of_ble_eq_true rfl) rfl ?_
  intro p e s m args below meth c A Q C hQ hnm
  have hT4 : ∀ w ∈ u_ws RX4 TX4 28, w ∈ wsX4_thrown := by decide +kernel
  have f74 : (Cond.fieldLink RX4 74 "PlotPatchModel" "thrown" "I").before args s = true := C.w _ (by decide +kernel)
  refine q_aload_n (pc2 := 1) C 0 dX4_thrown_0 rfl rfl rfl ?_
  refine q_get (q0 := 0) (k := 27) (v := .int (y 27 0)) (pc2 := 4) C hT4 f74 (wM_g0 ct b y) rfl (by decide) rfl rfl dX4_thrown_1 rfl ?_
  exact q_zret C hQ rfl (rfl) (Nat.zero_le _) (Nat.zero_le _) dX4_thrown_4 ⟨rfl, rfl⟩

set_option maxHeartbeats 4000000 in
set_option maxRecDepth 100000 in
theorem c_X4_may (l : Launch) (D : va_G) (ct : Nat → ClassId) (b : Nat → Nat) (y : Nat → Nat → Int32) (f : Int32) (hf : narrow .boolean (.int f) = .int f) : qM l yX4_may wsX4_may ({ frames := 0, cells := 0, slots := 0, locals := 0 }) D ct [.ref (b 30), .int f] (wM ct b y) (qD (some (.int f)) (wM ct b (set2 y 27 (fun _ => if f = 0 then 1 else 0)))) 0 0 := by
  refine q_start (ret := some .boolean) (lv := [(0, .ref (b 30)), (1, .int f)]) (by decide +kernel) rfl (Nat.le_of_ble_eq_true rfl) rfl ?_
  intro p e s m args below meth c A Q C hQ hnm
  have hT4 : ∀ w ∈ u_ws RX4 TX4 28, w ∈ wsX4_may := by decide +kernel
  have f74 : (Cond.fieldLink RX4 74 "PlotPatchModel" "thrown" "I").before args s = true := C.w _ (by decide +kernel)
  refine q_aload_n (pc2 := 1) C 0 dX4_may_0 rfl rfl rfl ?_
  have hj10 : Cf p l e ({ frames := 0, cells := 0, slots := 0, locals := 0 }) s m args below meth c D A 2 0 0 Q 10 [(0, .ref (b 30)), (1, .int f)] [.int (if f = 0 then 1 else 0), .ref (b 30)] (wM ct b y) := by
    refine q_put (q0 := 0) (k := 27) (ty := .int) (ws' := (wM ct b (set2 y 27 (fun _ => (if f = 0 then 1 else 0))))) (pc2 := 13) C hT4 tyX4_ok nmX4 f74 (wM_g0 ct b y) rfl (by decide) rfl rfl (by decide +kernel) rfl rfl (Nat.le_of_ble_eq_true rfl) (wM_s0_27 ct b y (if f = 0 then 1 else 0)) dX4_may_10 rfl ?_
    refine q_iload_n (pc2 := 14) C 1 dX4_may_13 rfl rfl rfl ?_
    exact q_zret C hQ rfl (hf) (Nat.zero_le _) (Nat.zero_le _) dX4_may_14 ⟨rfl, rfl⟩
  refine q_iload_n (pc2 := 2) C 1 dX4_may_1 rfl rfl rfl ?_
  refine q_if_eq (tgt := 9) (pc2 := 5) C dX4_may_2 (by decide) rfl (fun c2 => ?_) (fun c2 => ?_)
  · skip
    refine q_iconst (v := 1) (pc2 := 10) C dX4_may_9 (by decide) rfl ?_
    refine q_eqi (y := (if f = 0 then 1 else 0)) ((if_pos c2).symm) ?_
    exact hj10
  · skip
    refine q_iconst (v := 0) (pc2 := 6) C dX4_may_5 (by decide) rfl ?_
    refine q_goto (pc2 := 10) C dX4_may_6 (by decide) ?_
    refine q_eqi (y := (if f = 0 then 1 else 0)) ((if_neg c2).symm) ?_
    exact hj10

set_option maxHeartbeats 4000000 in
set_option maxRecDepth 100000 in
theorem c_X4_mayBoth (l : Launch) (D : va_G) (ct : Nat → ClassId) (b : Nat → Nat) (y : Nat → Nat → Int32) (f g : Int32) : qM l yX4_mayBoth wsX4_mayBoth ({ frames := 0, cells := 0, slots := 0, locals := 0 }) D ct [.ref (b 30), .int f, .int g] (wM ct b y) (qD (some (.int (b2 ((if f = 0 then 1 else if g = 0 then 2 else 0 : Int32) = 0)))) (wM ct b (set2 y 27 (fun _ => (if f = 0 then 1 else if g = 0 then 2 else 0 : Int32))))) 0 0 := by
  refine q_start (ret := some .boolean) (lv := [(0, .ref (b 30)), (1, .int f), (2, .int g)]) (by decide +kernel) rfl (Nat.le_of_ble_eq_true rfl) rfl ?_
  intro p e s m args below meth c A Q C hQ hnm
  have hT4 : ∀ w ∈ u_ws RX4 TX4 28, w ∈ wsX4_mayBoth := by decide +kernel
  have f74 : (Cond.fieldLink RX4 74 "PlotPatchModel" "thrown" "I").before args s = true := C.w _ (by decide +kernel)
  refine q_aload_n (pc2 := 1) C 0 dX4_mayBoth_0 rfl rfl rfl ?_
  have hj18 : Cf p l e ({ frames := 0, cells := 0, slots := 0, locals := 0 }) s m args below meth c D A 3 0 0 Q 18 [(0, .ref (b 30)), (1, .int f), (2, .int g)] [.int (if f = 0 then 1 else if g = 0 then 2 else 0 : Int32), .ref (b 30)] (wM ct b y) := by
    refine q_put (q0 := 0) (k := 27) (ty := .int) (ws' := (wM ct b (set2 y 27 (fun _ => (if f = 0 then 1 else if g = 0 then 2 else 0 : Int32))))) (pc2 := 21) C hT4 tyX4_ok nmX4 f74 (wM_g0 ct b y) rfl (by decide) rfl rfl (by decide +kernel) rfl rfl (Nat.le_of_ble_eq_true rfl) (wM_s0_27 ct b y (if f = 0 then 1 else if g = 0 then 2 else 0 : Int32)) dX4_mayBoth_18 rfl ?_
    refine q_aload_n (pc2 := 22) C 0 dX4_mayBoth_21 rfl rfl rfl ?_
    refine q_get (q0 := 0) (k := 27) (v := .int (if f = 0 then 1 else if g = 0 then 2 else 0 : Int32)) (pc2 := 25) C hT4 f74 (wM_g0 ct b (set2 y 27 (fun _ => (if f = 0 then 1 else if g = 0 then 2 else 0 : Int32)))) rfl (by decide) rfl rfl dX4_mayBoth_22 rfl ?_
    refine q_if_ne (tgt := 32) (pc2 := 28) C dX4_mayBoth_25 (by decide) rfl (fun c25 => ?_) (fun c25 => ?_)
    · skip
      refine q_iconst (v := 0) (pc2 := 33) C dX4_mayBoth_32 (by decide) rfl ?_
      exact q_zret C hQ rfl (rfl) (Nat.zero_le _) (Nat.zero_le _) dX4_mayBoth_33 ⟨by rw [b2_f (c := (if f = 0 then 1 else if g = 0 then 2 else 0 : Int32) = 0) c25], rfl⟩
    · skip
      refine q_iconst (v := 1) (pc2 := 29) C dX4_mayBoth_28 (by decide) rfl ?_
      refine q_goto (pc2 := 33) C dX4_mayBoth_29 (by decide) ?_
      exact q_zret C hQ rfl (rfl) (Nat.zero_le _) (Nat.zero_le _) dX4_mayBoth_33 ⟨by rw [b2_t (c := (if f = 0 then 1 else if g = 0 then 2 else 0 : Int32) = 0) c25], rfl⟩
  refine q_iload_n (pc2 := 2) C 1 dX4_mayBoth_1 rfl rfl rfl ?_
  refine q_if_ne (tgt := 9) (pc2 := 5) C dX4_mayBoth_2 (by decide) rfl (fun c2 => ?_) (fun c2 => ?_)
  · skip
    refine q_iload_n (pc2 := 10) C 2 dX4_mayBoth_9 rfl rfl rfl ?_
    refine q_if_ne (tgt := 17) (pc2 := 13) C dX4_mayBoth_10 (by decide) rfl (fun c10 => ?_) (fun c10 => ?_)
    · skip
      refine q_iconst (v := 0) (pc2 := 18) C dX4_mayBoth_17 (by decide) rfl ?_
      refine q_eqi (y := (if f = 0 then 1 else if g = 0 then 2 else 0 : Int32)) ((by rw [if_neg c2, if_neg c10])) ?_
      exact hj18
    · skip
      refine q_iconst (v := 2) (pc2 := 14) C dX4_mayBoth_13 (by decide) rfl ?_
      refine q_goto (pc2 := 18) C dX4_mayBoth_14 (by decide) ?_
      refine q_eqi (y := (if f = 0 then 1 else if g = 0 then 2 else 0 : Int32)) ((by rw [if_neg c2, if_pos c10])) ?_
      exact hj18
  · skip
    refine q_iconst (v := 1) (pc2 := 6) C dX4_mayBoth_5 (by decide) rfl ?_
    refine q_goto (pc2 := 18) C dX4_mayBoth_6 (by decide) ?_
    refine q_eqi (y := (if f = 0 then 1 else if g = 0 then 2 else 0 : Int32)) ((by rw [if_pos c2])) ?_
    exact hj18

set_option maxHeartbeats 4000000 in
set_option maxRecDepth 100000 in
theorem c_X4_mayAll (l : Launch) (D : va_G) (ct : Nat → ClassId) (b : Nat → Nat) (y : Nat → Nat → Int32) (f g e0 : Int32) : qM l yX4_mayAll wsX4_mayAll ({ frames := 0, cells := 0, slots := 0, locals := 0 }) D ct [.ref (b 30), .int f, .int g, .int e0] (wM ct b y) (qD (some (.int (b2 ((if f = 0 then 1 else if g = 0 then 2 else if e0 = 0 then 3 else 0 : Int32) = 0)))) (wM ct b (set2 y 27 (fun _ => (if f = 0 then 1 else if g = 0 then 2 else if e0 = 0 then 3 else 0 : Int32))))) 0 0 := by
  refine q_start (ret := some .boolean) (lv := [(0, .ref (b 30)), (1, .int f), (2, .int g), (3, .int e0)]) (by decide +kernel) rfl (Nat.le_of_ble_eq_true rfl) rfl ?_
  intro p e s m args below meth c A Q C hQ hnm
  have hT4 : ∀ w ∈ u_ws RX4 TX4 28, w ∈ wsX4_mayAll := by decide +kernel
  have f74 : (Cond.fieldLink RX4 74 "PlotPatchModel" "thrown" "I").before args s = true := C.w _ (by decide +kernel)
  refine q_aload_n (pc2 := 1) C 0 dX4_mayAll_0 rfl rfl rfl ?_
  have hj26 : Cf p l e ({ frames := 0, cells := 0, slots := 0, locals := 0 }) s m args below meth c D A 4 0 0 Q 26 [(0, .ref (b 30)), (1, .int f), (2, .int g), (3, .int e0)] [.int (if f = 0 then 1 else if g = 0 then 2 else if e0 = 0 then 3 else 0 : Int32), .ref (b 30)] (wM ct b y) := by
    refine q_put (q0 := 0) (k := 27) (ty := .int) (ws' := (wM ct b (set2 y 27 (fun _ => (if f = 0 then 1 else if g = 0 then 2 else if e0 = 0 then 3 else 0 : Int32))))) (pc2 := 29) C hT4 tyX4_ok nmX4 f74 (wM_g0 ct b y) rfl (by decide) rfl rfl (by decide +kernel) rfl rfl (Nat.le_of_ble_eq_true rfl) (wM_s0_27 ct b y (if f = 0 then 1 else if g = 0 then 2 else if e0 = 0 then 3 else 0 : Int32)) dX4_mayAll_26 rfl ?_
    refine q_aload_n (pc2 := 30) C 0 dX4_mayAll_29 rfl rfl rfl ?_
    refine q_get (q0 := 0) (k := 27) (v := .int (if f = 0 then 1 else if g = 0 then 2 else if e0 = 0 then 3 else 0 : Int32)) (pc2 := 33) C hT4 f74 (wM_g0 ct b (set2 y 27 (fun _ => (if f = 0 then 1 else if g = 0 then 2 else if e0 = 0 then 3 else 0 : Int32)))) rfl (by decide) rfl rfl dX4_mayAll_30 rfl ?_
    refine q_if_ne (tgt := 40) (pc2 := 36) C dX4_mayAll_33 (by decide) rfl (fun c33 => ?_) (fun c33 => ?_)
    · skip
      refine q_iconst (v := 0) (pc2 := 41) C dX4_mayAll_40 (by decide) rfl ?_
      exact q_zret C hQ rfl (rfl) (Nat.zero_le _) (Nat.zero_le _) dX4_mayAll_41 ⟨by rw [b2_f (c := (if f = 0 then 1 else if g = 0 then 2 else if e0 = 0 then 3 else 0 : Int32) = 0) c33], rfl⟩
    · skip
      refine q_iconst (v := 1) (pc2 := 37) C dX4_mayAll_36 (by decide) rfl ?_
      refine q_goto (pc2 := 41) C dX4_mayAll_37 (by decide) ?_
      exact q_zret C hQ rfl (rfl) (Nat.zero_le _) (Nat.zero_le _) dX4_mayAll_41 ⟨by rw [b2_t (c := (if f = 0 then 1 else if g = 0 then 2 else if e0 = 0 then 3 else 0 : Int32) = 0) c33], rfl⟩
  refine q_iload_n (pc2 := 2) C 1 dX4_mayAll_1 rfl rfl rfl ?_
  refine q_if_ne (tgt := 9) (pc2 := 5) C dX4_mayAll_2 (by decide) rfl (fun c2 => ?_) (fun c2 => ?_)
  · skip
    refine q_iload_n (pc2 := 10) C 2 dX4_mayAll_9 rfl rfl rfl ?_
    refine q_if_ne (tgt := 17) (pc2 := 13) C dX4_mayAll_10 (by decide) rfl (fun c10 => ?_) (fun c10 => ?_)
    · skip
      refine q_iload_n (pc2 := 18) C 3 dX4_mayAll_17 rfl rfl rfl ?_
      refine q_if_ne (tgt := 25) (pc2 := 21) C dX4_mayAll_18 (by decide) rfl (fun c18 => ?_) (fun c18 => ?_)
      · skip
        refine q_iconst (v := 0) (pc2 := 26) C dX4_mayAll_25 (by decide) rfl ?_
        refine q_eqi (y := (if f = 0 then 1 else if g = 0 then 2 else if e0 = 0 then 3 else 0 : Int32)) ((by rw [if_neg c2, if_neg c10, if_neg c18])) ?_
        exact hj26
      · skip
        refine q_iconst (v := 3) (pc2 := 22) C dX4_mayAll_21 (by decide) rfl ?_
        refine q_goto (pc2 := 26) C dX4_mayAll_22 (by decide) ?_
        refine q_eqi (y := (if f = 0 then 1 else if g = 0 then 2 else if e0 = 0 then 3 else 0 : Int32)) ((by rw [if_neg c2, if_neg c10, if_pos c18])) ?_
        exact hj26
    · skip
      refine q_iconst (v := 2) (pc2 := 14) C dX4_mayAll_13 (by decide) rfl ?_
      refine q_goto (pc2 := 26) C dX4_mayAll_14 (by decide) ?_
      refine q_eqi (y := (if f = 0 then 1 else if g = 0 then 2 else if e0 = 0 then 3 else 0 : Int32)) ((by rw [if_neg c2, if_pos c10])) ?_
      exact hj26
  · skip
    refine q_iconst (v := 1) (pc2 := 6) C dX4_mayAll_5 (by decide) rfl ?_
    refine q_goto (pc2 := 26) C dX4_mayAll_6 (by decide) ?_
    refine q_eqi (y := (if f = 0 then 1 else if g = 0 then 2 else if e0 = 0 then 3 else 0 : Int32)) ((by rw [if_pos c2])) ?_
    exact hj26

set_option maxHeartbeats 4000000 in
set_option maxRecDepth 100000 in
theorem c_X4_isIn (l : Launch) (D : va_G) (ct : Nat → ClassId) (v lo hi : Int32) : qM l yX4_isIn wsX4_isIn ({ frames := 0, cells := 0, slots := 0, locals := 0 }) D ct [.int v, .int lo, .int hi] [] (qD (some (.int (b2 (inR v lo hi)))) []) 0 0 := by
  refine q_start (ret := some .boolean) (lv := [(0, .int v), (1, .int lo), (2, .int hi)]) (by decide +kernel) rfl (Nat.le_of_ble_eq_true rfl) rfl ?_
  intro p e s m args below meth c A Q C hQ hnm
  refine q_iload_n (pc2 := 1) C 0 dX4_isIn_0 rfl rfl rfl ?_
  refine q_iload_n (pc2 := 2) C 1 dX4_isIn_1 rfl rfl rfl ?_
  refine q_icmp_lt (tgt := 14) (pc2 := 5) C dX4_isIn_2 (by decide) rfl (fun c2 => ?_) (fun c2 => ?_)
  · skip
    refine q_iconst (v := 0) (pc2 := 15) C dX4_isIn_14 (by decide) rfl ?_
    exact q_zret C hQ rfl (rfl) (Nat.zero_le _) (Nat.zero_le _) dX4_isIn_15 ⟨by rw [b2_f (c := inR v lo hi) (fun z => absurd c2 (Int32.not_lt.mpr z.1))], rfl⟩
  · skip
    refine q_iload_n (pc2 := 6) C 0 dX4_isIn_5 rfl rfl rfl ?_
    refine q_iload_n (pc2 := 7) C 2 dX4_isIn_6 rfl rfl rfl ?_
    refine q_icmp_gt (tgt := 14) (pc2 := 10) C dX4_isIn_7 (by decide) rfl (fun c7 => ?_) (fun c7 => ?_)
    · skip
      refine q_iconst (v := 0) (pc2 := 15) C dX4_isIn_14 (by decide) rfl ?_
      exact q_zret C hQ rfl (rfl) (Nat.zero_le _) (Nat.zero_le _) dX4_isIn_15 ⟨by rw [b2_f (c := inR v lo hi) (fun z => absurd c7 (Int32.not_lt.mpr z.2))], rfl⟩
    · skip
      refine q_iconst (v := 1) (pc2 := 11) C dX4_isIn_10 (by decide) rfl ?_
      refine q_goto (pc2 := 15) C dX4_isIn_11 (by decide) ?_
      exact q_zret C hQ rfl (rfl) (Nat.zero_le _) (Nat.zero_le _) dX4_isIn_15 ⟨by rw [b2_t (c := inR v lo hi) ⟨Int32.not_lt.mp c2, Int32.not_lt.mp c7⟩], rfl⟩

set_option maxHeartbeats 4000000 in
set_option maxRecDepth 100000 in
theorem c_X4_isLamp (l : Launch) (D : va_G) (ct : Nat → ClassId) (b : Nat → Nat) (y : Nat → Nat → Int32) (v : Int32) : qM l yX4_isLamp wsX4_isLamp ({ frames := 1, cells := 0, slots := 0, locals := 22 }) D ct [.ref (b 30), .int v] (wM ct b y) (qD (some (.int (b2 (inR v 0 (y 4 0 - 1))))) (wM ct b y)) 0 0 := by
  refine q_start (ret := some .boolean) (lv := [(0, .ref (b 30)), (1, .int v)]) (by decide +kernel) rfl (Nat.le_of_ble_eq_true rfl) rfl ?_
  intro p e s m args below meth c A Q C hQ hnm
  have hT4 : ∀ w ∈ u_ws RX4 TX4 28, w ∈ wsX4_isLamp := by decide +kernel
  have f78 : (Cond.fieldLink RX4 78 "PlotPatchModel" "lamps" "I").before args s = true := C.w _ (by decide +kernel)
  refine q_iload_n (pc2 := 1) C 1 dX4_isLamp_0 rfl rfl rfl ?_
  refine q_iconst (v := 0) (pc2 := 2) C dX4_isLamp_1 (by decide) rfl ?_
  refine q_aload_n (pc2 := 3) C 0 dX4_isLamp_2 rfl rfl rfl ?_
  refine q_get (q0 := 0) (k := 4) (v := .int (y 4 0)) (pc2 := 6) C hT4 f78 (wM_g0 ct b y) rfl (by decide) rfl rfl dX4_isLamp_3 rfl ?_
  refine q_iconst (v := 1) (pc2 := 7) C dX4_isLamp_6 (by decide) rfl ?_
  refine q_isub (pc2 := 8) C dX4_isLamp_7 rfl rfl ?_
  refine q_cS (pc2 := 11) (As := [.int v, .int 0, .int ((y 4 0) - 1)]) (st := []) (st2 := [.int (b2 (inR v 0 ((y 4 0) - 1)))]) (w2 := (wM ct b y)) (c2 := 0) (s2 := 0) C (c_X4_isIn l D ct v 0 ((y 4 0) - 1)) (va_cwS 3 C.w gX4_isLamp_X4_isIn rfl rfl rfl (by decide +kernel) ⟨Nat.le_of_ble_eq_true rfl, Nat.le_of_ble_eq_true rfl⟩) [] [0, 1, 2, 3, 4, 5, 6, 7, 8, 9, 10, 11, 12, 13, 14, 15, 16, 17, 18, 19, 20, 21] [0, 1, 2, 3, 4, 5, 6, 7, 8, 9, 10, 11, 12, 13, 14, 15, 16, 17, 18, 19, 20, 21] rfl rfl (by decide) (by decide) (by decide) rfl (by decide) dX4_isLamp_8 rfl rfl (Nat.le_of_ble_eq_true rfl) ⟨Nat.zero_le _, Nat.zero_le _⟩ rfl rfl rfl rfl ?_
  exact q_zret C hQ rfl (b2_nar _) (Nat.zero_le _) (Nat.zero_le _) dX4_isLamp_11 ⟨rfl, rfl⟩

set_option maxHeartbeats 4000000 in
set_option maxRecDepth 100000 in
theorem c_X4_isBar (l : Launch) (D : va_G) (ct : Nat → ClassId) (b : Nat → Nat) (y : Nat → Nat → Int32) (h : Nat) (hh : y 0 0 = nI h) (hlt : h < 2) (v : Int32) : qM l yX4_isBar wsX4_isBar ({ frames := 1, cells := 0, slots := 0, locals := 22 }) D ct [.ref (b 30), .int v] (wM ct b y) (qD (some (.int (b2 (inR v 0 (y 1 h - 1))))) (wM ct b y)) 0 0 := by
  refine q_start (ret := some .boolean) (lv := [(0, .ref (b 30)), (1, .int v)]) (by decide +kernel) rfl (Nat.le_of_ble_eq_true rfl) rfl ?_
  intro p e s m args below meth c A Q C hQ hnm
  have hT4 : ∀ w ∈ u_ws RX4 TX4 28, w ∈ wsX4_isBar := by decide +kernel
  have f7 : (Cond.fieldLink RX4 7 "PlotPatchModel" "bars" "[I").before args s = true := C.w _ (by decide +kernel)
  have f85 : (Cond.fieldLink RX4 85 "PlotPatchModel" "house" "I").before args s = true := C.w _ (by decide +kernel)
  refine q_iload_n (pc2 := 1) C 1 dX4_isBar_0 rfl rfl rfl ?_
  refine q_iconst (v := 0) (pc2 := 2) C dX4_isBar_1 (by decide) rfl ?_
  refine q_aload_n (pc2 := 3) C 0 dX4_isBar_2 rfl rfl rfl ?_
  refine q_get (q0 := 0) (k := 1) (v := .ref (b 1)) (pc2 := 6) C hT4 f7 (wM_g0 ct b y) rfl (by decide) rfl rfl dX4_isBar_3 rfl ?_
  refine q_aload_n (pc2 := 7) C 0 dX4_isBar_6 rfl rfl rfl ?_
  refine q_get (q0 := 0) (k := 0) (v := .int (y 0 0)) (pc2 := 10) C hT4 f85 (wM_g0 ct b y) rfl (by decide) rfl rfl dX4_isBar_7 rfl ?_
  refine q_iald (q0 := 1) (f := (y 1)) (pc2 := 11) C h (wM_g1 ct b y) rfl (hh) (by omega) (by decide) dX4_isBar_10 rfl ?_
  refine q_iconst (v := 1) (pc2 := 12) C dX4_isBar_11 (by decide) rfl ?_
  refine q_isub (pc2 := 13) C dX4_isBar_12 rfl rfl ?_
  refine q_cS (pc2 := 16) (As := [.int v, .int 0, .int (((y 1) h) - 1)]) (st := []) (st2 := [.int (b2 (inR v 0 (((y 1) h) - 1)))]) (w2 := (wM ct b y)) (c2 := 0) (s2 := 0) C (c_X4_isIn l D ct v 0 (((y 1) h) - 1)) (va_cwS 3 C.w gX4_isBar_X4_isIn rfl rfl rfl (by decide +kernel) ⟨Nat.le_of_ble_eq_true rfl, Nat.le_of_ble_eq_true rfl⟩) [] [0, 1, 2, 3, 4, 5, 6, 7, 8, 9, 10, 11, 12, 13, 14, 15, 16, 17, 18, 19, 20, 21] [0, 1, 2, 3, 4, 5, 6, 7, 8, 9, 10, 11, 12, 13, 14, 15, 16, 17, 18, 19, 20, 21] rfl rfl (by decide) (by decide) (by decide) rfl (by decide) dX4_isBar_13 rfl rfl (Nat.le_of_ble_eq_true rfl) ⟨Nat.zero_le _, Nat.zero_le _⟩ rfl rfl rfl rfl ?_
  exact q_zret C hQ rfl (b2_nar _) (Nat.zero_le _) (Nat.zero_le _) dX4_isBar_16 ⟨rfl, rfl⟩

set_option maxHeartbeats 4000000 in
set_option maxRecDepth 100000 in
theorem c_X4_isCue (l : Launch) (D : va_G) (ct : Nat → ClassId) (b : Nat → Nat) (y : Nat → Nat → Int32) (v : Int32) : qM l yX4_isCue wsX4_isCue ({ frames := 1, cells := 0, slots := 0, locals := 22 }) D ct [.ref (b 30), .int v] (wM ct b y) (qD (some (.int (b2 (inR v 0 (y 18 0 - 1))))) (wM ct b y)) 0 0 := by
  refine q_start (ret := some .boolean) (lv := [(0, .ref (b 30)), (1, .int v)]) (by decide +kernel) rfl (Nat.le_of_ble_eq_true rfl) rfl ?_
  intro p e s m args below meth c A Q C hQ hnm
  have hT4 : ∀ w ∈ u_ws RX4 TX4 28, w ∈ wsX4_isCue := by decide +kernel
  have f88 : (Cond.fieldLink RX4 88 "PlotPatchModel" "cues" "I").before args s = true := C.w _ (by decide +kernel)
  refine q_iload_n (pc2 := 1) C 1 dX4_isCue_0 rfl rfl rfl ?_
  refine q_iconst (v := 0) (pc2 := 2) C dX4_isCue_1 (by decide) rfl ?_
  refine q_aload_n (pc2 := 3) C 0 dX4_isCue_2 rfl rfl rfl ?_
  refine q_get (q0 := 0) (k := 18) (v := .int (y 18 0)) (pc2 := 6) C hT4 f88 (wM_g0 ct b y) rfl (by decide) rfl rfl dX4_isCue_3 rfl ?_
  refine q_iconst (v := 1) (pc2 := 7) C dX4_isCue_6 (by decide) rfl ?_
  refine q_isub (pc2 := 8) C dX4_isCue_7 rfl rfl ?_
  refine q_cS (pc2 := 11) (As := [.int v, .int 0, .int ((y 18 0) - 1)]) (st := []) (st2 := [.int (b2 (inR v 0 ((y 18 0) - 1)))]) (w2 := (wM ct b y)) (c2 := 0) (s2 := 0) C (c_X4_isIn l D ct v 0 ((y 18 0) - 1)) (va_cwS 3 C.w gX4_isCue_X4_isIn rfl rfl rfl (by decide +kernel) ⟨Nat.le_of_ble_eq_true rfl, Nat.le_of_ble_eq_true rfl⟩) [] [0, 1, 2, 3, 4, 5, 6, 7, 8, 9, 10, 11, 12, 13, 14, 15, 16, 17, 18, 19, 20, 21] [0, 1, 2, 3, 4, 5, 6, 7, 8, 9, 10, 11, 12, 13, 14, 15, 16, 17, 18, 19, 20, 21] rfl rfl (by decide) (by decide) (by decide) rfl (by decide) dX4_isCue_8 rfl rfl (Nat.le_of_ble_eq_true rfl) ⟨Nat.zero_le _, Nat.zero_le _⟩ rfl rfl rfl rfl ?_
  exact q_zret C hQ rfl (b2_nar _) (Nat.zero_le _) (Nat.zero_le _) dX4_isCue_11 ⟨rfl, rfl⟩

set_option maxHeartbeats 4000000 in
set_option maxRecDepth 100000 in
theorem c_X4_weighs (l : Launch) (D : va_G) (ct : Nat → ClassId) (v : Int32) : qM l yX4_weighs wsX4_weighs ({ frames := 0, cells := 0, slots := 0, locals := 0 }) D ct [.int v] [] (qD (some (.int (wgh v))) []) 0 0 := by
  refine q_start (ret := some .int) (lv := [(0, .int v)]) (by decide +kernel) rfl (Nat.le_of_ble_eq_true rfl) rfl ?_
  intro p e s m args below meth c A Q C hQ hnm
  refine q_iload_n (pc2 := 1) C 0 dX4_weighs_0 rfl rfl rfl ?_
  refine q_if_ne (tgt := 8) (pc2 := 4) C dX4_weighs_1 (by decide) rfl (fun c1 => ?_) (fun c1 => ?_)
  · skip
    refine q_iload_n (pc2 := 9) C 0 dX4_weighs_8 rfl rfl rfl ?_
    refine q_iconst (v := 1) (pc2 := 10) C dX4_weighs_9 (by decide) rfl ?_
    refine q_icmp_ne (tgt := 18) (pc2 := 13) C dX4_weighs_10 (by decide) rfl (fun c10 => ?_) (fun c10 => ?_)
    · skip
      refine q_iload_n (pc2 := 19) C 0 dX4_weighs_18 rfl rfl rfl ?_
      refine q_iconst (v := 2) (pc2 := 20) C dX4_weighs_19 (by decide) rfl ?_
      refine q_icmp_ne (tgt := 28) (pc2 := 23) C dX4_weighs_20 (by decide) rfl (fun c20 => ?_) (fun c20 => ?_)
      · skip
        refine q_bipush (v := 25) (pc2 := 30) C dX4_weighs_28 (by decide) rfl ?_
        exact q_zret C hQ rfl (rfl) (Nat.zero_le _) (Nat.zero_le _) dX4_weighs_30 ⟨by unfold wgh; rw [if_neg c1, if_neg c10, if_neg c20], rfl⟩
      · skip
        refine q_bipush (v := 12) (pc2 := 25) C dX4_weighs_23 (by decide) rfl ?_
        refine q_goto (pc2 := 30) C dX4_weighs_25 (by decide) ?_
        exact q_zret C hQ rfl (rfl) (Nat.zero_le _) (Nat.zero_le _) dX4_weighs_30 ⟨by unfold wgh; rw [if_neg c1, if_neg c10, if_pos c20], rfl⟩
    · skip
      refine q_bipush (v := 9) (pc2 := 15) C dX4_weighs_13 (by decide) rfl ?_
      refine q_goto (pc2 := 30) C dX4_weighs_15 (by decide) ?_
      exact q_zret C hQ rfl (rfl) (Nat.zero_le _) (Nat.zero_le _) dX4_weighs_30 ⟨by unfold wgh; rw [if_neg c1, if_pos c10], rfl⟩
  · skip
    refine q_iconst (v := 4) (pc2 := 5) C dX4_weighs_4 (by decide) rfl ?_
    refine q_goto (pc2 := 30) C dX4_weighs_5 (by decide) ?_
    exact q_zret C hQ rfl (rfl) (Nat.zero_le _) (Nat.zero_le _) dX4_weighs_30 ⟨by unfold wgh; rw [if_pos c1], rfl⟩

set_option maxHeartbeats 4000000 in
set_option maxRecDepth 100000 in
theorem c_X4_draws (l : Launch) (D : va_G) (ct : Nat → ClassId) (v : Int32) : qM l yX4_draws wsX4_draws ({ frames := 0, cells := 0, slots := 0, locals := 0 }) D ct [.int v] [] (qD (some (.int (drw v))) []) 0 0 := by
  refine q_start (ret := some .int) (lv := [(0, .int v)]) (by decide +kernel) rfl (Nat.le_of_ble_eq_true rfl) rfl ?_
  intro p e s m args below meth c A Q C hQ hnm
  refine q_iload_n (pc2 := 1) C 0 dX4_draws_0 rfl rfl rfl ?_
  refine q_if_ne (tgt := 10) (pc2 := 4) C dX4_draws_1 (by decide) rfl (fun c1 => ?_) (fun c1 => ?_)
  · skip
    refine q_iload_n (pc2 := 11) C 0 dX4_draws_10 rfl rfl rfl ?_
    refine q_iconst (v := 1) (pc2 := 12) C dX4_draws_11 (by decide) rfl ?_
    refine q_icmp_ne (tgt := 21) (pc2 := 15) C dX4_draws_12 (by decide) rfl (fun c12 => ?_) (fun c12 => ?_)
    · skip
      refine q_iload_n (pc2 := 22) C 0 dX4_draws_21 rfl rfl rfl ?_
      refine q_iconst (v := 2) (pc2 := 23) C dX4_draws_22 (by decide) rfl ?_
      refine q_icmp_ne (tgt := 32) (pc2 := 26) C dX4_draws_23 (by decide) rfl (fun c23 => ?_) (fun c23 => ?_)
      · skip
        refine q_sipush (v := 800) (pc2 := 35) C dX4_draws_32 (by decide) rfl ?_
        exact q_zret C hQ rfl (rfl) (Nat.zero_le _) (Nat.zero_le _) dX4_draws_35 ⟨by unfold drw; rw [if_neg c1, if_neg c12, if_neg c23], rfl⟩
      · skip
        refine q_sipush (v := 500) (pc2 := 29) C dX4_draws_26 (by decide) rfl ?_
        refine q_goto (pc2 := 35) C dX4_draws_29 (by decide) ?_
        exact q_zret C hQ rfl (rfl) (Nat.zero_le _) (Nat.zero_le _) dX4_draws_35 ⟨by unfold drw; rw [if_neg c1, if_neg c12, if_pos c23], rfl⟩
    · skip
      refine q_sipush (v := 750) (pc2 := 18) C dX4_draws_15 (by decide) rfl ?_
      refine q_goto (pc2 := 35) C dX4_draws_18 (by decide) ?_
      exact q_zret C hQ rfl (rfl) (Nat.zero_le _) (Nat.zero_le _) dX4_draws_35 ⟨by unfold drw; rw [if_neg c1, if_pos c12], rfl⟩
  · skip
    refine q_sipush (v := 1000) (pc2 := 7) C dX4_draws_4 (by decide) rfl ?_
    refine q_goto (pc2 := 35) C dX4_draws_7 (by decide) ?_
    exact q_zret C hQ rfl (rfl) (Nat.zero_le _) (Nat.zero_le _) dX4_draws_35 ⟨by unfold drw; rw [if_pos c1], rfl⟩

set_option maxHeartbeats 4000000 in
set_option maxRecDepth 100000 in
theorem c_X4_has (l : Launch) (D : va_G) (ct : Nat → ClassId) (v : Int32) : qM l yX4_has wsX4_has ({ frames := 0, cells := 0, slots := 0, locals := 0 }) D ct [.int v] [] (qD (some (.int (hasA v))) []) 0 0 := by
  refine q_start (ret := some .int) (lv := [(0, .int v)]) (by decide +kernel) rfl (Nat.le_of_ble_eq_true rfl) rfl ?_
  intro p e s m args below meth c A Q C hQ hnm
  refine q_iload_n (pc2 := 1) C 0 dX4_has_0 rfl rfl rfl ?_
  refine q_iconst (v := 2) (pc2 := 2) C dX4_has_1 (by decide) rfl ?_
  refine q_icmp_ne (tgt := 9) (pc2 := 5) C dX4_has_2 (by decide) rfl (fun c2 => ?_) (fun c2 => ?_)
  · skip
    refine q_iload_n (pc2 := 10) C 0 dX4_has_9 rfl rfl rfl ?_
    refine q_iconst (v := 3) (pc2 := 11) C dX4_has_10 (by decide) rfl ?_
    refine q_icmp_ne (tgt := 19) (pc2 := 14) C dX4_has_11 (by decide) rfl (fun c11 => ?_) (fun c11 => ?_)
    · skip
      refine q_iconst (v := 1) (pc2 := 20) C dX4_has_19 (by decide) rfl ?_
      exact q_zret C hQ rfl (rfl) (Nat.zero_le _) (Nat.zero_le _) dX4_has_20 ⟨by unfold hasA; rw [if_neg c2, if_neg c11], rfl⟩
    · skip
      refine q_bipush (v := 12) (pc2 := 16) C dX4_has_14 (by decide) rfl ?_
      refine q_goto (pc2 := 20) C dX4_has_16 (by decide) ?_
      exact q_zret C hQ rfl (rfl) (Nat.zero_le _) (Nat.zero_le _) dX4_has_20 ⟨by unfold hasA; rw [if_neg c2, if_pos c11], rfl⟩
  · skip
    refine q_iconst (v := 4) (pc2 := 6) C dX4_has_5 (by decide) rfl ?_
    refine q_goto (pc2 := 20) C dX4_has_6 (by decide) ?_
    exact q_zret C hQ rfl (rfl) (Nat.zero_le _) (Nat.zero_le _) dX4_has_20 ⟨by unfold hasA; rw [if_pos c2], rfl⟩

set_option maxHeartbeats 4000000 in
set_option maxRecDepth 100000 in
theorem c_X4_weightOn (l : Launch) (D : va_G) (ct : Nat → ClassId) (b : Nat → Nat) (y : Nat → Nat → Int32) (n : Nat) (hn : y 4 0 = nI n) (hn10 : n ≤ 10) (bar aside : Int32) : qM l yX4_weightOn wsX4_weightOn ({ frames := 1, cells := 0, slots := 0, locals := 20 }) D ct [.ref (b 30), .int bar, .int aside] (wM ct b y) (qD (some (.int (wOnM y n bar aside))) (wM ct b y)) 0 0 := by
  refine q_start (ret := some .int) (lv := [(0, .ref (b 30)), (1, .int bar), (2, .int aside)]) (by decide +kernel) rfl (Nat.le_of_ble_eq_true rfl) rfl ?_
  intro p e s m args below meth c A Q C hQ hnm
  have hT4 : ∀ w ∈ u_ws RX4 TX4 28, w ∈ wsX4_weightOn := by decide +kernel
  have f78 : (Cond.fieldLink RX4 78 "PlotPatchModel" "lamps" "I").before args s = true := C.w _ (by decide +kernel)
  have f25 : (Cond.fieldLink RX4 25 "PlotPatchModel" "bar" "[I").before args s = true := C.w _ (by decide +kernel)
  have f19 : (Cond.fieldLink RX4 19 "PlotPatchModel" "kind" "[I").before args s = true := C.w _ (by decide +kernel)
  refine q_iconst (v := 0) (pc2 := 1) C dX4_weightOn_0 (by decide) rfl ?_
  refine q_istore_n (lv' := [(3, .int 0), (0, .ref (b 30)), (1, .int bar), (2, .int aside)]) (pc2 := 2) C dX4_weightOn_1 rfl (by decide) rfl rfl ?_
  refine q_iconst (v := 0) (pc2 := 3) C dX4_weightOn_2 (by decide) rfl ?_
  refine q_istore (lv' := [(4, .int 0), (3, .int 0), (0, .ref (b 30)), (1, .int bar), (2, .int aside)]) (pc2 := 5) C dX4_weightOn_3 (by decide) rfl rfl ?_
  refine q_lv (lv' := [(4, .int 0), (3, .int 0), (0, .ref (b 30)), (1, .int bar), (2, .int aside)]) [0, 1, 2, 3, 4] rfl ?_
  refine lp_up (P := fun i => Cf p l e ({ frames := 1, cells := 0, slots := 0, locals := 20 }) s m args below meth c D A 5 0 0 Q 5 [(4, .int (nI i)), (3, .int (sumf (fun k => if y 7 k = bar ∧ nI k ≠ aside then wgh (y 5 k) else 0) i)), (0, .ref (b 30)), (1, .int bar), (2, .int aside)] [] (wM ct b y)) (n) (fun i hi ihi => ?_) ?_
  · skip
    refine q_iload (pc2 := 7) C 0 dX4_weightOn_5 rfl rfl ?_
    refine q_aload_n (pc2 := 8) C 2 dX4_weightOn_7 rfl rfl rfl ?_
    refine q_get (q0 := 0) (k := 4) (v := .int (y 4 0)) (pc2 := 11) C hT4 f78 (wM_g0 ct b y) rfl (by decide) rfl rfl dX4_weightOn_8 rfl ?_
    refine q_icmp_ge (tgt := 54) (pc2 := 14) C dX4_weightOn_11 (by decide) rfl (fun c11 => (q_absurd (a := n) (b := i) (show nI n ≤ nI i by rw [← hn]; exact c11) hi (by omega))) (fun _ => ?_)
    refine q_iload_n (pc2 := 15) C 1 dX4_weightOn_14 rfl rfl rfl ?_
    refine q_aload_n (pc2 := 16) C 2 dX4_weightOn_15 rfl rfl rfl ?_
    refine q_get (q0 := 0) (k := 7) (v := .ref (b 7)) (pc2 := 19) C hT4 f25 (wM_g0 ct b y) rfl (by decide) rfl rfl dX4_weightOn_16 rfl ?_
    refine q_iload (pc2 := 21) C 0 dX4_weightOn_19 rfl rfl ?_
    refine q_iald (q0 := 6) (f := (y 7)) (pc2 := 22) C i (wM_g6 ct b y) rfl (rfl) (by omega) (by decide) dX4_weightOn_21 rfl ?_
    refine q_iload_n (pc2 := 23) C 3 dX4_weightOn_22 rfl rfl rfl ?_
    refine q_icmp_ne (tgt := 45) (pc2 := 26) C dX4_weightOn_23 (by decide) rfl (fun c23 => ?_) (fun c23 => ?_)
    · skip
      refine q_iconst (v := 0) (pc2 := 46) C dX4_weightOn_45 (by decide) rfl ?_
      refine q_iadd (pc2 := 47) C dX4_weightOn_46 rfl rfl ?_
      refine q_istore_n (lv' := [(3, .int ((sumf (fun k => if y 7 k = bar ∧ nI k ≠ aside then wgh (y 5 k) else 0) i) + 0)), (4, .int (nI i)), (0, .ref (b 30)), (1, .int bar), (2, .int aside)]) (pc2 := 48) C dX4_weightOn_47 rfl (by decide) rfl rfl ?_
      refine q_iinc (v := nI (i + 1)) (lv' := [(4, .int (nI (i + 1))), (3, .int ((sumf (fun k => if y 7 k = bar ∧ nI k ≠ aside then wgh (y 5 k) else 0) i) + 0)), (0, .ref (b 30)), (1, .int bar), (2, .int aside)]) (pc2 := 51) C 1 dX4_weightOn_48 rfl (nI_1 i) (by decide) rfl rfl ?_
      refine q_goto (pc2 := 5) C dX4_weightOn_51 (by decide) ?_
      refine q_lv (lv' := [(4, .int (nI (i + 1))), (3, .int ((sumf (fun k => if y 7 k = bar ∧ nI k ≠ aside then wgh (y 5 k) else 0) i) + 0)), (0, .ref (b 30)), (1, .int bar), (2, .int aside)]) [0, 1, 2, 3, 4] rfl ?_
      refine q_eql (lv' := [(4, .int (nI (i + 1))), (3, .int (sumf (fun k => if y 7 k = bar ∧ nI k ≠ aside then wgh (y 5 k) else 0) (i + 1))), (0, .ref (b 30)), (1, .int bar), (2, .int aside)]) (by simp only [sumf]; rw [if_neg (fun z => c23 z.1)]) ?_
      exact ihi
    · skip
      refine q_iload (pc2 := 28) C 0 dX4_weightOn_26 rfl rfl ?_
      refine q_iload_n (pc2 := 29) C 4 dX4_weightOn_28 rfl rfl rfl ?_
      refine q_icmp_eq (tgt := 45) (pc2 := 32) C dX4_weightOn_29 (by decide) rfl (fun c29 => ?_) (fun c29 => ?_)
      · skip
        refine q_iconst (v := 0) (pc2 := 46) C dX4_weightOn_45 (by decide) rfl ?_
        refine q_iadd (pc2 := 47) C dX4_weightOn_46 rfl rfl ?_
        refine q_istore_n (lv' := [(3, .int ((sumf (fun k => if y 7 k = bar ∧ nI k ≠ aside then wgh (y 5 k) else 0) i) + 0)), (4, .int (nI i)), (0, .ref (b 30)), (1, .int bar), (2, .int aside)]) (pc2 := 48) C dX4_weightOn_47 rfl (by decide) rfl rfl ?_
        refine q_iinc (v := nI (i + 1)) (lv' := [(4, .int (nI (i + 1))), (3, .int ((sumf (fun k => if y 7 k = bar ∧ nI k ≠ aside then wgh (y 5 k) else 0) i) + 0)), (0, .ref (b 30)), (1, .int bar), (2, .int aside)]) (pc2 := 51) C 1 dX4_weightOn_48 rfl (nI_1 i) (by decide) rfl rfl ?_
        refine q_goto (pc2 := 5) C dX4_weightOn_51 (by decide) ?_
        refine q_lv (lv' := [(4, .int (nI (i + 1))), (3, .int ((sumf (fun k => if y 7 k = bar ∧ nI k ≠ aside then wgh (y 5 k) else 0) i) + 0)), (0, .ref (b 30)), (1, .int bar), (2, .int aside)]) [0, 1, 2, 3, 4] rfl ?_
        refine q_eql (lv' := [(4, .int (nI (i + 1))), (3, .int (sumf (fun k => if y 7 k = bar ∧ nI k ≠ aside then wgh (y 5 k) else 0) (i + 1))), (0, .ref (b 30)), (1, .int bar), (2, .int aside)]) (by simp only [sumf]; rw [if_neg (fun z => z.2 c29)]) ?_
        exact ihi
      · skip
        refine q_aload_n (pc2 := 33) C 2 dX4_weightOn_32 rfl rfl rfl ?_
        refine q_get (q0 := 0) (k := 5) (v := .ref (b 5)) (pc2 := 36) C hT4 f19 (wM_g0 ct b y) rfl (by decide) rfl rfl dX4_weightOn_33 rfl ?_
        refine q_iload (pc2 := 38) C 0 dX4_weightOn_36 rfl rfl ?_
        refine q_iald (q0 := 4) (f := (y 5)) (pc2 := 39) C i (wM_g4 ct b y) rfl (rfl) (by omega) (by decide) dX4_weightOn_38 rfl ?_
        refine q_cS (pc2 := 42) (As := [.int ((y 5) i)]) (st := [.int (sumf (fun k => if y 7 k = bar ∧ nI k ≠ aside then wgh (y 5 k) else 0) i)]) (st2 := [.int (wgh ((y 5) i)), .int (sumf (fun k => if y 7 k = bar ∧ nI k ≠ aside then wgh (y 5 k) else 0) i)]) (w2 := (wM ct b y)) (c2 := 0) (s2 := 0) C (c_X4_weighs l D ct ((y 5) i)) (va_cwS 1 C.w gX4_weightOn_X4_weighs rfl rfl rfl (by decide +kernel) ⟨Nat.le_of_ble_eq_true rfl, Nat.le_of_ble_eq_true rfl⟩) [] [0, 1, 2, 3, 4, 5, 6, 7, 8, 9, 10, 11, 12, 13, 14, 15, 16, 17, 18, 19, 20, 21] [0, 1, 2, 3, 4, 5, 6, 7, 8, 9, 10, 11, 12, 13, 14, 15, 16, 17, 18, 19, 20, 21] rfl rfl (by decide) (by decide) (by decide) rfl (by decide) dX4_weightOn_39 rfl rfl (Nat.le_of_ble_eq_true rfl) ⟨Nat.zero_le _, Nat.zero_le _⟩ rfl rfl rfl rfl ?_
        refine q_goto (pc2 := 46) C dX4_weightOn_42 (by decide) ?_
        refine q_iadd (pc2 := 47) C dX4_weightOn_46 rfl rfl ?_
        refine q_istore_n (lv' := [(3, .int ((sumf (fun k => if y 7 k = bar ∧ nI k ≠ aside then wgh (y 5 k) else 0) i) + (wgh ((y 5) i)))), (4, .int (nI i)), (0, .ref (b 30)), (1, .int bar), (2, .int aside)]) (pc2 := 48) C dX4_weightOn_47 rfl (by decide) rfl rfl ?_
        refine q_iinc (v := nI (i + 1)) (lv' := [(4, .int (nI (i + 1))), (3, .int ((sumf (fun k => if y 7 k = bar ∧ nI k ≠ aside then wgh (y 5 k) else 0) i) + (wgh ((y 5) i)))), (0, .ref (b 30)), (1, .int bar), (2, .int aside)]) (pc2 := 51) C 1 dX4_weightOn_48 rfl (nI_1 i) (by decide) rfl rfl ?_
        refine q_goto (pc2 := 5) C dX4_weightOn_51 (by decide) ?_
        refine q_lv (lv' := [(4, .int (nI (i + 1))), (3, .int ((sumf (fun k => if y 7 k = bar ∧ nI k ≠ aside then wgh (y 5 k) else 0) i) + (wgh ((y 5) i)))), (0, .ref (b 30)), (1, .int bar), (2, .int aside)]) [0, 1, 2, 3, 4] rfl ?_
        refine q_eql (lv' := [(4, .int (nI (i + 1))), (3, .int (sumf (fun k => if y 7 k = bar ∧ nI k ≠ aside then wgh (y 5 k) else 0) (i + 1))), (0, .ref (b 30)), (1, .int bar), (2, .int aside)]) (by simp only [sumf]; rw [if_pos ⟨c23, c29⟩]) ?_
        exact ihi
  · skip
    refine q_iload (pc2 := 7) C 0 dX4_weightOn_5 rfl rfl ?_
    refine q_aload_n (pc2 := 8) C 2 dX4_weightOn_7 rfl rfl rfl ?_
    refine q_get (q0 := 0) (k := 4) (v := .int (y 4 0)) (pc2 := 11) C hT4 f78 (wM_g0 ct b y) rfl (by decide) rfl rfl dX4_weightOn_8 rfl ?_
    refine q_icmp_ge (tgt := 54) (pc2 := 14) C dX4_weightOn_11 (by decide) rfl (fun _ => ?_) (fun c11 => (absurd (show (y 4 0) ≤ nI n by rw [hn]; exact nI_le (Nat.le_refl n) (by omega)) c11))
    refine q_iload_n (pc2 := 55) C 1 dX4_weightOn_54 rfl rfl rfl ?_
    exact q_zret C hQ rfl (rfl) (Nat.zero_le _) (Nat.zero_le _) dX4_weightOn_55 ⟨rfl, rfl⟩

set_option maxHeartbeats 4000000 in
set_option maxRecDepth 100000 in
theorem c_X4_canHang (l : Launch) (D : va_G) (ct : Nat → ClassId) (b : Nat → Nat) (y : Nat → Nat → Int32) (n : Nat) (hn : y 4 0 = nI n) (hn10 : n ≤ 10) (h : Nat) (hh : y 0 0 = nI h) (hlt : h < 2) (lm bar place : Int32) (hlm : lm.toNatClampNeg < n) (elm : lm = nI lm.toNatClampNeg) (hbar : bar.toNatClampNeg < 4) (ebar : bar = nI bar.toNatClampNeg) : qM l yX4_canHang wsX4_canHang ({ frames := 2, cells := 0, slots := 0, locals := 44 }) D ct [.ref (b 30), .int lm, .int bar, .int place] (wM ct b y) (qD (some (.int (b2 (canM y n h lm bar place)))) (wM ct b y)) 0 0 := by
  refine q_start (ret := some .boolean) (lv := [(0, .ref (b 30)), (1, .int lm), (2, .int bar), (3, .int place)]) (by decide +kernel) rfl (Nat.le_of_ble_eq_true rfl) rfl ?_
  intro p e s m args below meth c A Q C hQ hnm
  have hT4 : ∀ w ∈ u_ws RX4 TX4 28, w ∈ wsX4_canHang := by decide +kernel
  have f78 : (Cond.fieldLink RX4 78 "PlotPatchModel" "lamps" "I").before args s = true := C.w _ (by decide +kernel)
  have f25 : (Cond.fieldLink RX4 25 "PlotPatchModel" "bar" "[I").before args s = true := C.w _ (by decide +kernel)
  have f28 : (Cond.fieldLink RX4 28 "PlotPatchModel" "place" "[I").before args s = true := C.w _ (by decide +kernel)
  have f19 : (Cond.fieldLink RX4 19 "PlotPatchModel" "kind" "[I").before args s = true := C.w _ (by decide +kernel)
  have f16 : (Cond.fieldLink RX4 16 "PlotPatchModel" "limit" "[I").before args s = true := C.w _ (by decide +kernel)
  have f85 : (Cond.fieldLink RX4 85 "PlotPatchModel" "house" "I").before args s = true := C.w _ (by decide +kernel)
  have hj37 : Cf p l e ({ frames := 2, cells := 0, slots := 0, locals := 44 }) s m args below meth c D A 6 0 0 Q 37 [(0, .ref (b 30)), (1, .int lm), (2, .int bar), (3, .int place)] [.int (b2 (bearM y n h lm bar))] (wM ct b y) := by
    refine q_istore (lv' := [(4, .int (b2 (bearM y n h lm bar))), (0, .ref (b 30)), (1, .int lm), (2, .int bar), (3, .int place)]) (pc2 := 39) C dX4_canHang_37 (by decide) rfl rfl ?_
    refine q_iconst (v := 0) (pc2 := 40) C dX4_canHang_39 (by decide) rfl ?_
    refine q_istore (lv' := [(5, .int 0), (4, .int (b2 (bearM y n h lm bar))), (0, .ref (b 30)), (1, .int lm), (2, .int bar), (3, .int place)]) (pc2 := 42) C dX4_canHang_40 (by decide) rfl rfl ?_
    refine q_eql (lv' := [(5, .int 0), (4, .int (canK y n h lm bar place 0)), (0, .ref (b 30)), (1, .int lm), (2, .int bar), (3, .int place)]) (by rw [canK_0 y n h lm bar place]) ?_
    refine q_lv (lv' := [(5, .int 0), (4, .int (canK y n h lm bar place 0)), (0, .ref (b 30)), (1, .int lm), (2, .int bar), (3, .int place)]) [0, 1, 2, 3, 4, 5] rfl ?_
    refine lp_up (P := fun k => Cf p l e ({ frames := 2, cells := 0, slots := 0, locals := 44 }) s m args below meth c D A 6 0 0 Q 42 [(5, .int (nI k)), (4, .int (canK y n h lm bar place k)), (0, .ref (b 30)), (1, .int lm), (2, .int bar), (3, .int place)] [] (wM ct b y)) (n) (fun k hk ihk => ?_) ?_
    · skip
      refine q_iload (pc2 := 44) C 0 dX4_canHang_42 rfl rfl ?_
      refine q_aload_n (pc2 := 45) C 2 dX4_canHang_44 rfl rfl rfl ?_
      refine q_get (q0 := 0) (k := 4) (v := .int (y 4 0)) (pc2 := 48) C hT4 f78 (wM_g0 ct b y) rfl (by decide) rfl rfl dX4_canHang_45 rfl ?_
      refine q_icmp_ge (tgt := 112) (pc2 := 51) C dX4_canHang_48 (by decide) rfl (fun c48 => (q_absurd (a := n) (b := k) (show nI n ≤ nI k by rw [← hn]; exact c48) hk (by omega))) (fun _ => ?_)
      refine q_iload (pc2 := 53) C 0 dX4_canHang_51 rfl rfl ?_
      refine q_iload_n (pc2 := 54) C 3 dX4_canHang_53 rfl rfl rfl ?_
      refine q_icmp_eq (tgt := 106) (pc2 := 57) C dX4_canHang_54 (by decide) rfl (fun c54 => ?_) (fun c54 => ?_)
      · skip
        refine q_iinc (v := nI (k + 1)) (lv' := [(5, .int (nI (k + 1))), (4, .int (canK y n h lm bar place k)), (0, .ref (b 30)), (1, .int lm), (2, .int bar), (3, .int place)]) (pc2 := 109) C 0 dX4_canHang_106 rfl (nI_1 k) (by decide) rfl rfl ?_
        refine q_goto (pc2 := 42) C dX4_canHang_109 (by decide) ?_
        refine q_lv (lv' := [(5, .int (nI (k + 1))), (4, .int (canK y n h lm bar place k)), (0, .ref (b 30)), (1, .int lm), (2, .int bar), (3, .int place)]) [0, 1, 2, 3, 4, 5] rfl ?_
        refine q_eql (lv' := [(5, .int (nI (k + 1))), (4, .int (canK y n h lm bar place (k + 1))), (0, .ref (b 30)), (1, .int lm), (2, .int bar), (3, .int place)]) (by rw [← (show (canK y n h lm bar place k) = (canK y n h lm bar place (k + 1)) from all_y (fun z => absurd c54 z))]) ?_
        exact ihk
      · skip
        refine q_aload_n (pc2 := 58) C 2 dX4_canHang_57 rfl rfl rfl ?_
        refine q_get (q0 := 0) (k := 7) (v := .ref (b 7)) (pc2 := 61) C hT4 f25 (wM_g0 ct b y) rfl (by decide) rfl rfl dX4_canHang_58 rfl ?_
        refine q_iload (pc2 := 63) C 0 dX4_canHang_61 rfl rfl ?_
        refine q_iald (q0 := 6) (f := (y 7)) (pc2 := 64) C k (wM_g6 ct b y) rfl (rfl) (by omega) (by decide) dX4_canHang_63 rfl ?_
        refine q_iload_n (pc2 := 65) C 4 dX4_canHang_64 rfl rfl rfl ?_
        refine q_icmp_ne (tgt := 106) (pc2 := 68) C dX4_canHang_65 (by decide) rfl (fun c65 => ?_) (fun c65 => ?_)
        · skip
          refine q_iinc (v := nI (k + 1)) (lv' := [(5, .int (nI (k + 1))), (4, .int (canK y n h lm bar place k)), (0, .ref (b 30)), (1, .int lm), (2, .int bar), (3, .int place)]) (pc2 := 109) C 0 dX4_canHang_106 rfl (nI_1 k) (by decide) rfl rfl ?_
          refine q_goto (pc2 := 42) C dX4_canHang_109 (by decide) ?_
          refine q_lv (lv' := [(5, .int (nI (k + 1))), (4, .int (canK y n h lm bar place k)), (0, .ref (b 30)), (1, .int lm), (2, .int bar), (3, .int place)]) [0, 1, 2, 3, 4, 5] rfl ?_
          refine q_eql (lv' := [(5, .int (nI (k + 1))), (4, .int (canK y n h lm bar place (k + 1))), (0, .ref (b 30)), (1, .int lm), (2, .int bar), (3, .int place)]) (by rw [← (show (canK y n h lm bar place k) = (canK y n h lm bar place (k + 1)) from all_y (fun _ z => absurd z c65))]) ?_
          exact ihk
        · skip
          refine q_iload (pc2 := 70) C 1 dX4_canHang_68 rfl rfl ?_
          refine q_if_eq (tgt := 103) (pc2 := 73) C dX4_canHang_70 (by decide) rfl (fun c70 => ?_) (fun c70 => ?_)
          · skip
            refine q_iconst (v := 0) (pc2 := 104) C dX4_canHang_103 (by decide) rfl ?_
            refine q_istore (lv' := [(4, .int 0), (5, .int (nI k)), (0, .ref (b 30)), (1, .int lm), (2, .int bar), (3, .int place)]) (pc2 := 106) C dX4_canHang_104 (by decide) rfl rfl ?_
            refine q_iinc (v := nI (k + 1)) (lv' := [(5, .int (nI (k + 1))), (4, .int 0), (0, .ref (b 30)), (1, .int lm), (2, .int bar), (3, .int place)]) (pc2 := 109) C 1 dX4_canHang_106 rfl (nI_1 k) (by decide) rfl rfl ?_
            refine q_goto (pc2 := 42) C dX4_canHang_109 (by decide) ?_
            refine q_lv (lv' := [(5, .int (nI (k + 1))), (4, .int 0), (0, .ref (b 30)), (1, .int lm), (2, .int bar), (3, .int place)]) [0, 1, 2, 3, 4, 5] rfl ?_
            refine q_eql (lv' := [(5, .int (nI (k + 1))), (4, .int (canK y n h lm bar place (k + 1))), (0, .ref (b 30)), (1, .int lm), (2, .int bar), (3, .int place)]) (by rw [← (show 0 = (canK y n h lm bar place (k + 1)) from all_0 c70)]) ?_
            exact ihk
          · skip
            refine q_aload_n (pc2 := 74) C 2 dX4_canHang_73 rfl rfl rfl ?_
            refine q_get (q0 := 0) (k := 8) (v := .ref (b 8)) (pc2 := 77) C hT4 f28 (wM_g0 ct b y) rfl (by decide) rfl rfl dX4_canHang_74 rfl ?_
            refine q_iload (pc2 := 79) C 0 dX4_canHang_77 rfl rfl ?_
            refine q_iald (q0 := 7) (f := (y 8)) (pc2 := 80) C k (wM_g7 ct b y) rfl (rfl) (by omega) (by decide) dX4_canHang_79 rfl ?_
            refine q_iload_n (pc2 := 81) C 5 dX4_canHang_80 rfl rfl rfl ?_
            refine q_isub (pc2 := 82) C dX4_canHang_81 rfl rfl ?_
            refine q_iconst (v := 3) (pc2 := 83) C dX4_canHang_82 (by decide) rfl ?_
            refine q_icmp_ge (tgt := 99) (pc2 := 86) C dX4_canHang_83 (by decide) rfl (fun c83 => ?_) (fun c83 => ?_)
            · skip
              refine q_iconst (v := 1) (pc2 := 100) C dX4_canHang_99 (by decide) rfl ?_
              refine q_goto (pc2 := 104) C dX4_canHang_100 (by decide) ?_
              refine q_istore (lv' := [(4, .int 1), (5, .int (nI k)), (0, .ref (b 30)), (1, .int lm), (2, .int bar), (3, .int place)]) (pc2 := 106) C dX4_canHang_104 (by decide) rfl rfl ?_
              refine q_iinc (v := nI (k + 1)) (lv' := [(5, .int (nI (k + 1))), (4, .int 1), (0, .ref (b 30)), (1, .int lm), (2, .int bar), (3, .int place)]) (pc2 := 109) C 1 dX4_canHang_106 rfl (nI_1 k) (by decide) rfl rfl ?_
              refine q_goto (pc2 := 42) C dX4_canHang_109 (by decide) ?_
              refine q_lv (lv' := [(5, .int (nI (k + 1))), (4, .int 1), (0, .ref (b 30)), (1, .int lm), (2, .int bar), (3, .int place)]) [0, 1, 2, 3, 4, 5] rfl ?_
              refine q_eql (lv' := [(5, .int (nI (k + 1))), (4, .int (canK y n h lm bar place (k + 1))), (0, .ref (b 30)), (1, .int lm), (2, .int bar), (3, .int place)]) (by rw [← (show 1 = (canK y n h lm bar place (k + 1)) from all_1 c70 (fun _ _ => Or.inl c83))]) ?_
              exact ihk
            · skip
              refine q_iload_n (pc2 := 87) C 5 dX4_canHang_86 rfl rfl rfl ?_
              refine q_aload_n (pc2 := 88) C 2 dX4_canHang_87 rfl rfl rfl ?_
              refine q_get (q0 := 0) (k := 8) (v := .ref (b 8)) (pc2 := 91) C hT4 f28 (wM_g0 ct b y) rfl (by decide) rfl rfl dX4_canHang_88 rfl ?_
              refine q_iload (pc2 := 93) C 0 dX4_canHang_91 rfl rfl ?_
              refine q_iald (q0 := 7) (f := (y 8)) (pc2 := 94) C k (wM_g7 ct b y) rfl (rfl) (by omega) (by decide) dX4_canHang_93 rfl ?_
              refine q_isub (pc2 := 95) C dX4_canHang_94 rfl rfl ?_
              refine q_iconst (v := 3) (pc2 := 96) C dX4_canHang_95 (by decide) rfl ?_
              refine q_icmp_lt (tgt := 103) (pc2 := 99) C dX4_canHang_96 (by decide) rfl (fun c96 => ?_) (fun c96 => ?_)
              · skip
                refine q_iconst (v := 0) (pc2 := 104) C dX4_canHang_103 (by decide) rfl ?_
                refine q_istore (lv' := [(4, .int 0), (5, .int (nI k)), (0, .ref (b 30)), (1, .int lm), (2, .int bar), (3, .int place)]) (pc2 := 106) C dX4_canHang_104 (by decide) rfl rfl ?_
                refine q_iinc (v := nI (k + 1)) (lv' := [(5, .int (nI (k + 1))), (4, .int 0), (0, .ref (b 30)), (1, .int lm), (2, .int bar), (3, .int place)]) (pc2 := 109) C 1 dX4_canHang_106 rfl (nI_1 k) (by decide) rfl rfl ?_
                refine q_goto (pc2 := 42) C dX4_canHang_109 (by decide) ?_
                refine q_lv (lv' := [(5, .int (nI (k + 1))), (4, .int 0), (0, .ref (b 30)), (1, .int lm), (2, .int bar), (3, .int place)]) [0, 1, 2, 3, 4, 5] rfl ?_
                refine q_eql (lv' := [(5, .int (nI (k + 1))), (4, .int (canK y n h lm bar place (k + 1))), (0, .ref (b 30)), (1, .int lm), (2, .int bar), (3, .int place)]) (by rw [← (show 0 = (canK y n h lm bar place (k + 1)) from all_n (fun z => (z c54 c65).elim c83 (fun z2 => absurd c96 (Int32.not_lt.mpr z2))))]) ?_
                exact ihk
              · skip
                refine q_iconst (v := 1) (pc2 := 100) C dX4_canHang_99 (by decide) rfl ?_
                refine q_goto (pc2 := 104) C dX4_canHang_100 (by decide) ?_
                refine q_istore (lv' := [(4, .int 1), (5, .int (nI k)), (0, .ref (b 30)), (1, .int lm), (2, .int bar), (3, .int place)]) (pc2 := 106) C dX4_canHang_104 (by decide) rfl rfl ?_
                refine q_iinc (v := nI (k + 1)) (lv' := [(5, .int (nI (k + 1))), (4, .int 1), (0, .ref (b 30)), (1, .int lm), (2, .int bar), (3, .int place)]) (pc2 := 109) C 1 dX4_canHang_106 rfl (nI_1 k) (by decide) rfl rfl ?_
                refine q_goto (pc2 := 42) C dX4_canHang_109 (by decide) ?_
                refine q_lv (lv' := [(5, .int (nI (k + 1))), (4, .int 1), (0, .ref (b 30)), (1, .int lm), (2, .int bar), (3, .int place)]) [0, 1, 2, 3, 4, 5] rfl ?_
                refine q_eql (lv' := [(5, .int (nI (k + 1))), (4, .int (canK y n h lm bar place (k + 1))), (0, .ref (b 30)), (1, .int lm), (2, .int bar), (3, .int place)]) (by rw [← (show 1 = (canK y n h lm bar place (k + 1)) from all_1 c70 (fun _ _ => Or.inr (Int32.not_lt.mp c96)))]) ?_
                exact ihk
    · skip
      refine q_iload (pc2 := 44) C 0 dX4_canHang_42 rfl rfl ?_
      refine q_aload_n (pc2 := 45) C 2 dX4_canHang_44 rfl rfl rfl ?_
      refine q_get (q0 := 0) (k := 4) (v := .int (y 4 0)) (pc2 := 48) C hT4 f78 (wM_g0 ct b y) rfl (by decide) rfl rfl dX4_canHang_45 rfl ?_
      refine q_icmp_ge (tgt := 112) (pc2 := 51) C dX4_canHang_48 (by decide) rfl (fun _ => ?_) (fun c48 => (absurd (show (y 4 0) ≤ nI n by rw [hn]; exact nI_le (Nat.le_refl n) (by omega)) c48))
      refine q_iload (pc2 := 114) C 1 dX4_canHang_112 rfl rfl ?_
      exact q_zret C hQ rfl (by unfold canK; exact b2_nar _) (Nat.zero_le _) (Nat.zero_le _) dX4_canHang_114 ⟨rfl, rfl⟩
  refine q_aload_n (pc2 := 1) C 0 dX4_canHang_0 rfl rfl rfl ?_
  refine q_iload_n (pc2 := 2) C 2 dX4_canHang_1 rfl rfl rfl ?_
  refine q_iload_n (pc2 := 3) C 1 dX4_canHang_2 rfl rfl rfl ?_
  refine q_cV (pc2 := 6) (As := [.int bar, .int lm]) (st := []) (st2 := [.int (wOnM y n bar lm)]) (q0 := 0) (w2 := (wM ct b y)) (c2 := 0) (s2 := 0) C (c_X4_weightOn l D ct b y n hn hn10 bar lm) (cwV 2 C.w gX4_canHang_X4_weightOn rfl rfl rfl (by decide +kernel) ⟨Nat.le_of_ble_eq_true rfl, Nat.le_of_ble_eq_true rfl⟩) rfl rfl [0, 1, 2, 3, 4, 5, 6, 7, 8, 9, 10, 11, 12, 13, 14, 15, 16, 17, 18, 19, 20, 21] [] [0, 1, 2, 3, 4, 5, 6, 7, 8, 9, 10, 11, 12, 13, 14, 15, 16, 17, 18, 19, 20, 21] rfl rfl (by decide) (by decide) (by decide) rfl (by decide) dX4_canHang_3 rfl rfl (Nat.le_of_ble_eq_true rfl) ⟨Nat.zero_le _, Nat.zero_le _⟩ rfl rfl rfl rfl ?_
  refine q_aload_n (pc2 := 7) C 0 dX4_canHang_6 rfl rfl rfl ?_
  refine q_get (q0 := 0) (k := 5) (v := .ref (b 5)) (pc2 := 10) C hT4 f19 (wM_g0 ct b y) rfl (by decide) rfl rfl dX4_canHang_7 rfl ?_
  refine q_iload_n (pc2 := 11) C 1 dX4_canHang_10 rfl rfl rfl ?_
  refine q_iald (q0 := 4) (f := (y 5)) (pc2 := 12) C lm.toNatClampNeg (wM_g4 ct b y) rfl (elm) (by omega) (by decide) dX4_canHang_11 rfl ?_
  refine q_cS (pc2 := 15) (As := [.int ((y 5) lm.toNatClampNeg)]) (st := [.int (wOnM y n bar lm)]) (st2 := [.int (wgh ((y 5) lm.toNatClampNeg)), .int (wOnM y n bar lm)]) (w2 := (wM ct b y)) (c2 := 0) (s2 := 0) C (c_X4_weighs l D ct ((y 5) lm.toNatClampNeg)) (va_cwS 1 C.w gX4_canHang_X4_weighs rfl rfl rfl (by decide +kernel) ⟨Nat.le_of_ble_eq_true rfl, Nat.le_of_ble_eq_true rfl⟩) [] [0, 1, 2, 3, 4, 5, 6, 7, 8, 9, 10, 11, 12, 13, 14, 15, 16, 17, 18, 19, 20, 21] [0, 1, 2, 3, 4, 5, 6, 7, 8, 9, 10, 11, 12, 13, 14, 15, 16, 17, 18, 19, 20, 21] rfl rfl (by decide) (by decide) (by decide) rfl (by decide) dX4_canHang_12 rfl rfl (Nat.le_of_ble_eq_true rfl) ⟨Nat.zero_le _, Nat.zero_le _⟩ rfl rfl rfl rfl ?_
  refine q_iadd (pc2 := 16) C dX4_canHang_15 rfl rfl ?_
  refine q_aload_n (pc2 := 17) C 0 dX4_canHang_16 rfl rfl rfl ?_
  refine q_get (q0 := 0) (k := 3) (v := .ref (b 3)) (pc2 := 20) C hT4 f16 (wM_g0 ct b y) rfl (by decide) rfl rfl dX4_canHang_17 rfl ?_
  refine q_iconst (v := 4) (pc2 := 21) C dX4_canHang_20 (by decide) rfl ?_
  refine q_aload_n (pc2 := 22) C 0 dX4_canHang_21 rfl rfl rfl ?_
  refine q_get (q0 := 0) (k := 0) (v := .int (y 0 0)) (pc2 := 25) C hT4 f85 (wM_g0 ct b y) rfl (by decide) rfl rfl dX4_canHang_22 rfl ?_
  refine q_imul (pc2 := 26) C dX4_canHang_25 rfl rfl ?_
  refine q_iload_n (pc2 := 27) C 2 dX4_canHang_26 rfl rfl rfl ?_
  refine q_iadd (v := nI (4 * h + bar.toNatClampNeg)) (pc2 := 28) C dX4_canHang_27 (cellK (n := 4) hh ebar) rfl ?_
  refine q_iald (q0 := 3) (f := (y 3)) (pc2 := 29) C (4 * h + bar.toNatClampNeg) (wM_g3 ct b y) rfl (rfl) (by omega) (by decide) dX4_canHang_28 rfl ?_
  refine q_icmp_gt (tgt := 36) (pc2 := 32) C dX4_canHang_29 (by decide) rfl (fun c29 => ?_) (fun c29 => ?_)
  · skip
    refine q_iconst (v := 0) (pc2 := 37) C dX4_canHang_36 (by decide) rfl ?_
    refine q_eqi (y := (b2 (bearM y n h lm bar))) ((b2_f (fun z : bearM y n h lm bar => absurd z (Int32.not_le.mpr c29))).symm) ?_
    exact hj37
  · skip
    refine q_iconst (v := 1) (pc2 := 33) C dX4_canHang_32 (by decide) rfl ?_
    refine q_goto (pc2 := 37) C dX4_canHang_33 (by decide) ?_
    refine q_eqi (y := (b2 (bearM y n h lm bar))) ((b2_t (c := bearM y n h lm bar) (Int32.not_lt.mp c29)).symm) ?_
    exact hj37
