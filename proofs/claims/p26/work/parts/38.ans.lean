/-! what the class answers, as the law counts it -/
theorem sumf_01 {p : Nat → Prop} [DecidablePred p] : ∀ {n : Nat}, n < 2 ^ 30 → ∃ m, m ≤ n ∧ sumf (fun k => if p k then 1 else 0) n = nI m ∧ (m = 0 ↔ ∀ k, k < n → ¬ p k)
  | 0, _ => ⟨0, Nat.le_refl 0, rfl, ⟨fun _ k hk => absurd hk (Nat.not_lt_zero k), fun _ => rfl⟩⟩
  | n + 1, h => by
    obtain ⟨m, h1, h2, h3⟩ := sumf_01 (p := p) (n := n) (by omega)
    rw [sumf_s, h2]
    by_cases hp : p n
    · rw [if_pos hp]
      exact ⟨m + 1, by omega, nI_1 m, ⟨fun z => absurd z (Nat.succ_ne_zero m), fun z => absurd hp (z n (Nat.lt_succ_self n))⟩⟩
    · rw [if_neg hp]
      refine ⟨m, by omega, Int32.add_zero _, ?_⟩
      rw [h3]
      constructor
      · intro z k hk
        rcases Nat.lt_succ_iff_lt_or_eq.mp hk with w | w
        · exact z k w
        · rw [w]; exact hp
      · intro z k hk
        exact z k (by omega)
/-- how many lamps have an address -/
abbrev holds (fp : Nat → Int32) (K : Nat → Nat) (ad j : Nat) : Prop := nI 0 ≤ fp (20 + j) ∧ fp (20 + j) ≤ nI ad ∧ nI ad < fp (20 + j) + nI (hsN (K j))
def hld (fp : Nat → Int32) (K : Nat → Nat) (n ad : Nat) : Int32 := sumf (fun j => if holds fp K ad j then 1 else 0) n
abbrev freeN (fp : Nat → Int32) (K : Nat → Nat) (n m f : Nat) : Prop := ∀ k, k < n → (fp (20 + k) < nI 0 ∨ nI (f + m) ≤ fp (20 + k) ∨ fp (20 + k) + nI (hsN (K k)) ≤ nI f)
section RELA
variable {n h q b t : Nat} {kb K S F V : Nat → Nat} {x : Nat → Nat → Int32} {fc fb fp fq fn fl : Nat → Int32}
theorem cnt_eq (rl : Rl n K x fc fp) (rr : Rr n K fp) {ad : Nat} (had : ad < 2 ^ 30) : cntH x (nI ad) = hld fp K n ad := by
  obtain ⟨hn5, -, -, hlow, -, hhigh⟩ := rl
  unfold cntH hld
  rw [sumf_ext (n := n) (show n ≤ 10 by omega) (fun j h1 h2 => by rw [(hhigh j h1 h2).2.1, if_neg (fun z => z.1 rfl)])]
  refine sumf_congr (fun j hj => ?_)
  obtain ⟨-, -, -, e13, -, -, -, e12, -⟩ := hlow j hj
  rw [e12, e13]
  have hs := hsN_le (K j)
  have hiff : (fp (20 + j) ≠ -1 ∧ fp (20 + j) ≤ nI ad ∧ nI ad < fp (20 + j) + nI (hsN (K j))) ↔ holds fp K ad j := by
    constructor
    · intro z
      refine ⟨?_, z.2⟩
      rcases (rr.1 j hj).2.1 with w | ⟨m, hm, w⟩
      · exact absurd w z.1
      · rw [w]; exact nI_le (Nat.zero_le _) (by omega)
    · intro z
      exact ⟨fun w => by have z1 := z.1; rw [w] at z1; exact absurd z1 (by decide), z.2⟩
  by_cases e : fp (20 + j) ≠ -1 ∧ fp (20 + j) ≤ nI ad ∧ nI ad < fp (20 + j) + nI (hsN (K j))
  · rw [if_pos e, if_pos (hiff.mp e)]
  · rw [if_neg e, if_neg (fun z => e (hiff.mpr z))]
theorem dbl_eq (rl : Rl n K x fc fp) (rr : Rr n K fp) : dbl (fun k => cntH x (nI k)) = dbl (fun k => hld fp K n k) := dbl_congr (fun k hk => cnt_eq rl rr (by omega))
theorem hld_0 (rr : Rr n K fp) (hn5 : n ≤ 5) {ad : Nat} (had : ad < 2 ^ 30) : hld fp K n ad = 0 ↔ ∀ j, j < n → ¬ holds fp K ad j := by
  obtain ⟨m, h1, h2, h3⟩ := sumf_01 (p := fun j => holds fp K ad j) (n := n) (by omega)
  unfold hld
  rw [h2, ← h3]
  exact nI_eq (b := 0) (by omega) (by omega)
theorem free_eq (rr : Rr n K fp) (hn5 : n ≤ 5) {f m : Nat} (hm : 1 ≤ m) (hf : f + m ≤ 100) : freeN fp K n m f ↔ ∀ a, f ≤ a → a < f + m → hld fp K n a = 0 := by
  constructor
  · intro z a h1 h2
    rw [hld_0 rr hn5 (by omega)]
    intro j hj hh
    have hs := hsN_le (K j)
    rcases (rr.1 j hj).2.1 with w | ⟨u, hu, w⟩
    · unfold holds at hh; rw [w] at hh; exact absurd hh.1 (by decide)
    · have hz := z j hj
      unfold holds at hh
      rw [w, nI_add, nI_leI (by omega) (by omega), nI_leI (by omega) (by omega), nI_ltI (by omega) (by omega)] at hh
      rw [w, nI_add, nI_leI (by omega) (by omega), nI_leI (by omega) (by omega)] at hz
      rcases hz with y | y | y
      · exact nI_pos (by omega) y
      · omega
      · omega
  · intro z k hk
    have hs := hsN_le (K k)
    rcases (rr.1 k hk).2.1 with w | ⟨u, hu, w⟩
    · left; rw [w]; decide
    · right
      rw [w, nI_add, nI_leI (by omega) (by omega), nI_leI (by omega) (by omega)]
      by_cases y : f + m ≤ u
      · left; exact y
      · right
        by_cases y2 : u + hsN (K k) ≤ f
        · exact y2
        · exfalso
          -- an address of the lamp within
          have hg := (hld_0 rr hn5 (show max f u < 2 ^ 30 by omega)).mp (z (max f u) (by omega) (by omega)) k hk
          apply hg
          unfold holds
          rw [w, nI_add, nI_leI (by omega) (by omega), nI_leI (by omega) (by omega), nI_ltI (by omega) (by omega)]
          omega
end RELA
/-! the lowest free run, found from below and from above -/
def frN (c : Nat → Int32) : Nat → Nat
  | 0 => 0
  | i + 1 => if c i = 0 then frN c i + 1 else 0
theorem frN_s (c : Nat → Int32) (i : Nat) : frN c (i + 1) = if c i = 0 then frN c i + 1 else 0 := rfl
theorem frun_eq (c : Nat → Int32) : ∀ i, frun c i = nI (frN c i)
  | 0 => rfl
  | i + 1 => by
    show (if c i = 0 then frun c i + 1 else 0) = nI (if c i = 0 then frN c i + 1 else 0)
    rw [frun_eq c i]
    by_cases h : c i = 0
    · rw [if_pos h, if_pos h, nI_1]
    · rw [if_neg h, if_neg h]; rfl
theorem frN_le (c : Nat → Int32) : ∀ i, frN c i ≤ i
  | 0 => Nat.le_refl 0
  | i + 1 => by
    rw [frN_s]
    have := frN_le c i
    split <;> omega
/-- a run's length tells just the free places behind it -/
theorem frN_iff (c : Nat → Int32) : ∀ (i m : Nat), m ≤ frN c i ↔ (m ≤ i ∧ ∀ a, i ≤ a + m → a < i → c a = 0)
  | 0, m => by
    constructor
    · intro z; exact ⟨z, fun a _ h => absurd h (Nat.not_lt_zero a)⟩
    · intro z; exact z.1
  | i + 1, m => by
    rw [frN_s]
    by_cases h : c i = 0
    · rw [if_pos h]
      rcases m with _ | m
      · constructor
        · intro _; exact ⟨Nat.zero_le _, fun a h1 h2 => by omega⟩
        · intro _; exact Nat.zero_le _
      · have ih := frN_iff c i m
        constructor
        · intro z
          obtain ⟨z1, z2⟩ := ih.mp (by omega)
          refine ⟨by omega, fun a h1 h2 => ?_⟩
          by_cases e : a = i
          · rw [e]; exact h
          · exact z2 a (by omega) (by omega)
        · rintro ⟨z1, z2⟩
          have := ih.mpr ⟨by omega, fun a h1 h2 => z2 a (by omega) (by omega)⟩
          omega
    · rw [if_neg h]
      rcases m with _ | m
      · constructor
        · intro _; exact ⟨Nat.zero_le _, fun a h1 h2 => by omega⟩
        · intro _; exact Nat.zero_le _
      · constructor
        · intro z; exact absurd z (Nat.not_succ_le_zero m)
        · rintro ⟨z1, z2⟩; exact absurd (z2 i (by omega) (Nat.lt_succ_self i)) h
theorem fndv_none {p : Nat → Prop} [DecidablePred p] {v : Nat → Int32} : ∀ {n i : Nat}, (∀ k, i ≤ k → k < i + n → ¬ p k) → fndv p v n i = -1
  | 0, _, _ => rfl
  | n + 1, i, h => by
    show (if p i then v i else fndv p v n (i + 1)) = -1
    rw [if_neg (h i (Nat.le_refl i) (by omega)), fndv_none (fun k h1 h2 => h k (by omega) (by omega))]
theorem fndv_at {p : Nat → Prop} [DecidablePred p] {v : Nat → Int32} {j : Nat} (hj : p j) : ∀ {n i : Nat}, i ≤ j → j < i + n → (∀ k, i ≤ k → k < j → ¬ p k) → fndv p v n i = v j
  | 0, i, h1, h2, _ => absurd h2 (by omega)
  | n + 1, i, h1, h2, h => by
    show (if p i then v i else fndv p v n (i + 1)) = v j
    by_cases e : i = j
    · subst e; rw [if_pos hj]
    · rw [if_neg (h i (Nat.le_refl i) (by omega)), fndv_at hj (by omega) (by omega) (fun k h3 h4 => h k (by omega) h4)]
theorem fnd_at {p : Nat → Prop} [DecidablePred p] {j : Nat} (hj : p j) : ∀ {n i : Nat}, i ≤ j → j < i + n → (∀ k, i ≤ k → k < j → ¬ p k) → fnd p n i = nI j
  | 0, i, h1, h2, _ => absurd h2 (by omega)
  | n + 1, i, h1, h2, h => by
    show (if p i then nI i else fnd p n (i + 1)) = nI j
    by_cases e : i = j
    · subst e; rw [if_pos hj]
    · rw [if_neg (h i (Nat.le_refl i) (by omega)), fnd_at hj (by omega) (by omega) (fun k h3 h4 => h k (by omega) h4)]
theorem gap_eq (c : Nat → Int32) {p : Nat → Prop} [DecidablePred p] {m : Nat} (h1 : 1 ≤ m) (h2 : m ≤ 100) (hp : ∀ f, f + m ≤ 100 → (p f ↔ ∀ a, f ≤ a → a < f + m → c a = 0)) : gapf c (nI m) = fnd p (101 - m) 0 := by
  have hP : ∀ i, i < 100 → (frun c (i + 1) = nI m ↔ frN c (i + 1) = m) := fun i hi => by
    rw [frun_eq]
    exact nI_eq (by have := frN_le c (i + 1); omega) (by omega)
  unfold gapf
  by_cases hex : ∃ f, f < 101 - m ∧ p f
  · obtain ⟨f, ⟨hf, hpf⟩, hmin⟩ := pk_least (fun f => f < 101 - m ∧ p f) hex
    have hff := (hp f (by omega)).mp hpf
    have hrun : frN c (f + m - 1 + 1) = m := by
      have g1 : m ≤ frN c (f + m - 1 + 1) := (frN_iff c _ m).mpr ⟨by omega, fun a a1 a2 => hff a (by omega) (by omega)⟩
      by_cases g2 : m + 1 ≤ frN c (f + m - 1 + 1)
      · exfalso
        obtain ⟨z1, z2⟩ := (frN_iff c _ (m + 1)).mp g2
        have := hmin (f - 1) (by omega)
        exact this ⟨by omega, (hp (f - 1) (by omega)).mpr (fun a a1 a2 => z2 a (by omega) (by omega))⟩
      · omega
    rw [fndv_at (p := fun i => frun c (i + 1) = nI m) (j := f + m - 1) ((hP _ (by omega)).mpr hrun) (Nat.zero_le _) (by omega) (fun k _ hk z => ?_), fnd_at hpf (Nat.zero_le _) (by omega) (fun k _ hk z => hmin k hk ⟨by omega, z⟩)]
    · show nI (f + m - 1) - nI m + 1 = nI f
      by_cases e : f = 0
      · subst e
        have e1 : (nI (0 + m - 1) - nI m).toInt = (((0 + m - 1 : Nat) : Int) - m) := pk_sub_toInt (by omega) (by omega)
        apply Int32.toInt_inj.mp
        have e2 : (1 : Int32).toInt = 1 := by decide
        rw [i_add (by rw [e1, e2]; omega) (by rw [e1, e2]; omega), e1, e2, nI_toInt (by omega)]
        omega
      · rw [pk_sub (by omega), nI_1, show f + m - 1 - m + 1 = f by omega]
    · obtain ⟨z1, z2⟩ := (frN_iff c (k + 1) m).mp (Nat.le_of_eq ((hP k (by omega)).mp z).symm)
      exact hmin (k + 1 - m) (by omega) ⟨by omega, (hp (k + 1 - m) (by omega)).mpr (fun a a1 a2 => z2 a (by omega) (by omega))⟩
  · rw [fndv_none (fun k _ hk z => ?_), fnd_none (fun k _ hk z => hex ⟨k, by omega, z⟩)]
    obtain ⟨z1, z2⟩ := (frN_iff c (k + 1) m).mp (Nat.le_of_eq ((hP k (by omega)).mp z).symm)
    exact hex ⟨k + 1 - m, by omega, (hp (k + 1 - m) (by omega)).mpr (fun a a1 a2 => z2 a (by omega) (by omega))⟩
/-! loads, burnt colours -/
theorem orf_sum {p : Nat → Prop} [DecidablePred p] : ∀ n, n ≤ 5 → sumf (fun k => if p k then (nI 1 <<< (nI k &&& 31) : Int32) else nI 0) n = orf (fun k => if p k then (1 <<< (nI k &&& 31) : Int32) else 0) n := by
  intro n hn
  have key : ∀ c0 c1 c2 c3 c4 : Bool, ∀ n, n ≤ 5 → sumf (fun k => if (k = 0 ∧ c0) ∨ (k = 1 ∧ c1) ∨ (k = 2 ∧ c2) ∨ (k = 3 ∧ c3) ∨ (k = 4 ∧ c4) then (nI 1 <<< (nI k &&& 31) : Int32) else nI 0) n = orf (fun k => if (k = 0 ∧ c0) ∨ (k = 1 ∧ c1) ∨ (k = 2 ∧ c2) ∨ (k = 3 ∧ c3) ∨ (k = 4 ∧ c4) then (1 <<< (nI k &&& 31) : Int32) else 0) n := by
    intro c0 c1 c2 c3 c4 n hn
    rcases (show n = 0 ∨ n = 1 ∨ n = 2 ∨ n = 3 ∨ n = 4 ∨ n = 5 by omega) with rfl | rfl | rfl | rfl | rfl | rfl <;> revert c0 c1 c2 c3 c4 <;> decide +kernel
  have hq : ∀ k, k < 5 → (p k ↔ ((k = 0 ∧ decide (p 0)) ∨ (k = 1 ∧ decide (p 1)) ∨ (k = 2 ∧ decide (p 2)) ∨ (k = 3 ∧ decide (p 3)) ∨ (k = 4 ∧ decide (p 4)))) := fun k hk => by
    simp only [decide_eq_true_eq]
    rcases (show k = 0 ∨ k = 1 ∨ k = 2 ∨ k = 3 ∨ k = 4 by omega) with rfl | rfl | rfl | rfl | rfl <;> simp
  have := key (decide (p 0)) (decide (p 1)) (decide (p 2)) (decide (p 3)) (decide (p 4)) n hn
  rw [sumf_congr (f := fun k => if p k then (nI 1 <<< (nI k &&& 31) : Int32) else nI 0) (fun k hk => ?_), this]
  · exact orf_congr (fun k hk => by
      by_cases z : p k
      · rw [if_pos z, if_pos ((hq k (by omega)).mp z)]
      · rw [if_neg z, if_neg (fun w => z ((hq k (by omega)).mpr w))])
  · by_cases z : p k
    · rw [if_pos z, if_pos ((hq k (by omega)).mp z)]
    · rw [if_neg z, if_neg (fun w => z ((hq k (by omega)).mpr w))]
theorem lt29 (v : Int32) : nI 29 < v ↔ 30 ≤ v := by
  have h1 : (nI 29).toInt = 29 := by decide
  have h2 : (30 : Int32).toInt = 30 := by decide
  rw [i_lt, i_le, h1, h2]
  omega
def ldG (fp : Nat → Int32) (K L : Nat → Nat) (k : Nat) : Nat → Int32 := fun c => sumf (fun j => if fp (25 + j) = nI c then nI (wtN (K j) * L j / 100) else 0) k
theorem ldG_0 (fp : Nat → Int32) (K L : Nat → Nat) : (fun _ => (0 : Int32)) = ldG fp K L 0 := rfl
theorem ldG_no (fp : Nat → Int32) (K L : Nat → Nat) (k : Nat) (h : fp (25 + k) = -1) : upd (ldG fp K L k) 0 (ldG fp K L k 0 + nI 0) = ldG fp K L (k + 1) ∨ True := Or.inr trivial
theorem ldG_s0 (fp : Nat → Int32) (K L : Nat → Nat) (k : Nat) (h : fp (25 + k) = -1) {v : Int32} (hv : v = ldG fp K L k 0 + nI 0) : ∀ c, c < 4 → upd (ldG fp K L k) 0 v c = ldG fp K L (k + 1) c := by
  intro c hc
  have e : ldG fp K L (k + 1) c = ldG fp K L k c := by
    show sumf _ k + (if fp (25 + k) = nI c then nI (wtN (K k) * L k / 100) else 0) = _
    rw [if_neg (by rw [h]; exact fun z => nI_m1 (by omega) z.symm), Int32.add_zero]; rfl
  rw [e]
  by_cases h0 : c = 0
  · subst h0; rw [upd_s, hv]; exact Int32.add_zero _
  · rw [upd_n h0]
theorem ldG_s1 (fp : Nat → Int32) (K L : Nat → Nat) (k m : Nat) (hm : m < 4) (h : fp (25 + k) = nI m) {v : Int32} (hv : v = ldG fp K L k m + nI (wtN (K k) * L k / 100)) : ∀ c, c < 4 → upd (ldG fp K L k) m v c = ldG fp K L (k + 1) c := by
  intro c hc
  show _ = sumf _ k + (if fp (25 + k) = nI c then nI (wtN (K k) * L k / 100) else 0)
  by_cases h0 : c = m
  · subst h0; rw [upd_s, hv, if_pos h]; rfl
  · rw [upd_n h0, if_neg (by rw [h]; exact fun z => h0 ((nI_eq (by omega) (by omega)).mp z).symm), Int32.add_zero]; rfl
section RELB
variable {n h q b t : Nat} {kb K S F V : Nat → Nat} {x : Nat → Nat → Int32} {fc fb fp fq fn fl : Nat → Int32}
theorem load_eq (rl : Rl n K x fc fp) {L : Nat → Nat} (hL : ∀ k, k < n → L k ≤ 100 ∧ shX x k = nI (L k)) (c : Nat) : sumf (fun k => if x 14 k = nI c then x 15 k * shX x k / 100 else 0) n = ldG fp K L n c := by
  obtain ⟨-, -, -, hlow, -, -⟩ := rl
  unfold ldG
  refine sumf_congr (fun k hk => ?_)
  obtain ⟨-, -, -, -, e15, -, -, -, e14⟩ := hlow k hk
  obtain ⟨l1, l2⟩ := hL k hk
  have hw := wtN_le (K k)
  have hm : wtN (K k) * L k ≤ 1000 * 100 := Nat.mul_le_mul hw l1
  rw [e14, e15, l2, pk_mul, show (100 : Int32) = nI 100 from rfl, pk_div (by omega) (by omega) (by omega)]
theorem burnt_eq (rl : Rl n K x fc fp) : orf (fun k => if 30 ≤ x 2 k then (1 <<< (nI k &&& 31) : Int32) else 0) n = sumf (fun k => if nI 29 < fp (35 + k) then (nI 1 <<< (nI k &&& 31) : Int32) else nI 0) n := by
  obtain ⟨hn5, -, -, -, hall, -⟩ := rl
  rw [orf_sum (p := fun k => nI 29 < fp (35 + k)) n hn5]
  refine orf_congr (fun k hk => ?_)
  rw [(hall k (by omega)).2.2]
  by_cases z : 30 ≤ fp (35 + k)
  · rw [if_pos z, if_pos ((lt29 _).mpr z)]
  · rw [if_neg z, if_neg (fun w => z ((lt29 _).mp w))]
/-- how many lamps hang below a place -/
abbrev blwP (fp : Nat → Int32) (j : Nat) (v : Nat) (k : Nat) : Prop := fp (10 + k) = nI j ∧ fp (15 + k) < nI v
def blwN (p : Nat → Prop) [DecidablePred p] : Nat → Nat
  | 0 => 0
  | k + 1 => if p k then blwN p k + 1 else blwN p k
theorem blwN_s (p : Nat → Prop) [DecidablePred p] (k : Nat) : blwN p (k + 1) = if p k then blwN p k + 1 else blwN p k := rfl
theorem blwN_le (p : Nat → Prop) [DecidablePred p] : ∀ k, blwN p k ≤ k
  | 0 => Nat.le_refl 0
  | k + 1 => by rw [blwN_s]; have := blwN_le p k; split <;> omega
theorem blwN_cg {p p' : Nat → Prop} [DecidablePred p] [DecidablePred p'] : ∀ k, (∀ i, i < k → (p i ↔ p' i)) → blwN p k = blwN p' k
  | 0, _ => rfl
  | k + 1, hk => by
    rw [blwN_s, blwN_s, blwN_cg k (fun i hi => hk i (by omega))]
    by_cases z : p k
    · rw [if_pos z, if_pos ((hk k (by omega)).mp z)]
    · rw [if_neg z, if_neg (fun w => z ((hk k (by omega)).mpr w))]
theorem blwN_mono {p p' : Nat → Prop} [DecidablePred p] [DecidablePred p'] : ∀ k, (∀ i, i < k → p i → p' i) → blwN p k ≤ blwN p' k
  | 0, _ => Nat.le_refl 0
  | k + 1, hk => by
    have := blwN_mono k (fun i hi => hk i (by omega))
    rw [blwN_s, blwN_s]
    by_cases z : p k
    · rw [if_pos z, if_pos (hk k (by omega) z)]; omega
    · rw [if_neg z]; split <;> omega
theorem blwN_lt {p p' : Nat → Prop} [DecidablePred p] [DecidablePred p'] : ∀ k, (∀ i, i < k → p i → p' i) → (∃ i, i < k ∧ ¬ p i ∧ p' i) → blwN p k < blwN p' k
  | 0, _, ⟨i, hi, _⟩ => absurd hi (Nat.not_lt_zero i)
  | k + 1, hk, ⟨i, hi, h1, h2⟩ => by
    rw [blwN_s, blwN_s]
    by_cases e : i = k
    · subst e
      rw [if_neg h1, if_pos h2]
      have := blwN_mono (p := p) (p' := p') i (fun j hj => hk j (by omega))
      omega
    · have ih := blwN_lt k (fun j hj => hk j (by omega)) ⟨i, by omega, h1, h2⟩
      by_cases z : p k
      · rw [if_pos z, if_pos (hk k (by omega) z)]; omega
      · rw [if_neg z]; split <;> omega
theorem sum_blw {p : Nat → Prop} [DecidablePred p] : ∀ k, sumf (fun i => if p i then 1 else 0) k = nI (blwN p k)
  | 0 => rfl
  | k + 1 => by
    rw [sumf_s, sum_blw k, blwN_s]
    by_cases z : p k
    · rw [if_pos z, if_pos z, nI_1]
    · rw [if_neg z, if_neg z, Int32.add_zero]
theorem bel_eq (rl : Rl n K x fc fp) {j : Nat} (hj : j < 2 ^ 31) {w : Int32} : belX x (nI j) w = nI (blwN (fun k => fp (10 + k) = nI j ∧ fp (15 + k) < w) n) := by
  obtain ⟨hn5, -, -, hlow, hall, hhigh⟩ := rl
  unfold belX
  rw [sumf_ext (n := n) (show n ≤ 10 by omega) (fun k h1 h2 => by rw [(hhigh k h1 h2).1, if_neg (fun z => nI_m1 hj z.1.symm)]), ← sum_blw]
  refine sumf_congr (fun k hk => ?_)
  obtain ⟨-, -, -, -, -, -, e9, -⟩ := hlow k hk
  rw [e9, (hall k (by omega)).1]
/-- the lamp of a rank: the one that hangs there with so many below -/
theorem rnk_at (rl : Rl n K x fc fp) (rr : Rr n K fp) (rp : Rp n h kb fp) {j i v : Nat} (hj : j < 2 ^ 31) (hi : i < n) (hv : v < 2 ^ 30) (h1 : fp (10 + i) = nI j) (h2 : fp (15 + i) = nI v) : rnkX x (nI j) (nI (blwN (blwP fp j v) n)) = nI i := by
  have hb := fun w => bel_eq rl hj (w := w)
  obtain ⟨hn5, -, -, hlow, hall, hhigh⟩ := rl
  obtain ⟨-, -, -, -, -, -, e9, -⟩ := hlow i hi
  have e11 := (hall i (by omega)).1
  unfold rnkX
  refine fnd_at ⟨by rw [e9]; exact h1, by rw [hb, e11, h2]⟩ (Nat.zero_le _) (by omega) (fun k _ hk z => ?_)
  obtain ⟨z1, z2⟩ := z
  obtain ⟨-, -, -, -, -, -, f9, -⟩ := hlow k (by omega)
  have f11 := (hall k (by omega)).1
  rw [f9] at z1
  rw [hb, f11] at z2
  obtain ⟨m, hm, em⟩ := (rr.2 k (by omega)).1
  rw [em] at z2
  have z3 : blwN (blwP fp j m) n = blwN (blwP fp j v) n := (nI_eq (by have := blwN_le (blwP fp j m) n; omega) (by have := blwN_le (blwP fp j v) n; omega)).mp z2
  have hne := rp.2 k (by omega) i hi (by omega) (by rw [z1, h1]) (by rw [z1]; exact nI_m1 hj)
  rw [em, h2] at hne
  rcases Nat.lt_or_ge m v with w | w
  · have := blwN_lt (p := blwP fp j m) (p' := blwP fp j v) n (fun a ha y => ⟨y.1, by
      obtain ⟨u, hu, eu⟩ := (rr.2 a (by omega)).1
      have y2 := y.2
      rw [eu, nI_ltI (by omega) (by omega)] at y2
      rw [eu, nI_ltI (by omega) (by omega)]; omega⟩) ⟨k, by omega, fun y => by have y2 := y.2; rw [em, nI_ltI (by omega) (by omega)] at y2; omega, ⟨z1, by rw [em, nI_ltI (by omega) (by omega)]; exact w⟩⟩
    omega
  · have w2 : v < m := by
      rcases Nat.lt_or_ge v m with y | y
      · exact y
      · exact absurd (by rw [show m = v by omega]) hne
    have := blwN_lt (p := blwP fp j v) (p' := blwP fp j m) n (fun a ha y => ⟨y.1, by
      obtain ⟨u, hu, eu⟩ := (rr.2 a (by omega)).1
      have y2 := y.2
      rw [eu, nI_ltI (by omega) (by omega)] at y2
      rw [eu, nI_ltI (by omega) (by omega)]; omega⟩) ⟨i, hi, fun y => by have y2 := y.2; rw [h2, nI_ltI (by omega) (by omega)] at y2; omega, ⟨h1, by rw [h2, nI_ltI (by omega) (by omega)]; exact w2⟩⟩
    omega
/-- no lamp has as many below as hang there at all -/
theorem rnk_no (rl : Rl n K x fc fp) (rr : Rr n K fp) {j : Nat} (hj : j < 2 ^ 31) : rnkX x (nI j) (nI (blwN (blwP fp j 101) n)) = -1 := by
  have hb := fun w => bel_eq rl hj (w := w)
  obtain ⟨hn5, -, -, hlow, hall, hhigh⟩ := rl
  unfold rnkX
  refine fnd_none (fun k _ hk z => ?_)
  obtain ⟨z1, z2⟩ := z
  rcases Nat.lt_or_ge k n with hkn | hkn
  · obtain ⟨-, -, -, -, -, -, f9, -⟩ := hlow k hkn
    have f11 := (hall k (by omega)).1
    rw [f9] at z1
    rw [hb, f11] at z2
    obtain ⟨m, hm, em⟩ := (rr.2 k (by omega)).1
    rw [em] at z2
    have z3 : blwN (blwP fp j m) n = blwN (blwP fp j 101) n := (nI_eq (by have := blwN_le (blwP fp j m) n; omega) (by have := blwN_le (blwP fp j 101) n; omega)).mp z2
    have := blwN_lt (p := blwP fp j m) (p' := blwP fp j 101) n (fun a ha y => ⟨y.1, by
      obtain ⟨u, hu, eu⟩ := (rr.2 a (by omega)).1
      rw [eu, nI_ltI (by omega) (by omega)]; omega⟩) ⟨k, hkn, fun y => by have y2 := y.2; rw [em, nI_ltI (by omega) (by omega)] at y2; omega, ⟨z1, by rw [em, nI_ltI (by omega) (by omega)]; omega⟩⟩
    omega
  · rw [(hhigh k hkn (by omega)).1] at z1
    exact nI_m1 hj z1.symm
end RELB
