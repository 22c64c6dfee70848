/-! the relation between the system and the reference; numbers first -/
theorem i_bm {z : Int} (h1 : -2147483648 ≤ z) (h2 : z < 2147483648) : z.bmod (2 ^ 32) = z := by
  unfold Int.bmod
  simp only [Nat.reducePow]
  split <;> omega
theorem i_sub {a b : Int32} (h1 : -2147483648 ≤ a.toInt - b.toInt) (h2 : a.toInt - b.toInt < 2147483648) : (a - b).toInt = a.toInt - b.toInt := by
  rw [Int32.toInt_sub]; exact i_bm h1 h2
theorem i_add {a b : Int32} (h1 : -2147483648 ≤ a.toInt + b.toInt) (h2 : a.toInt + b.toInt < 2147483648) : (a + b).toInt = a.toInt + b.toInt := by
  rw [Int32.toInt_add]; exact i_bm h1 h2
theorem i_neg {a : Int32} (h : a.toInt ≠ -2147483648) : (-a).toInt = -a.toInt := by
  rw [Int32.toInt_neg]
  have h1 := Int32.le_toInt a
  have h2 := Int32.toInt_lt a
  exact i_bm (by omega) (by omega)
theorem i_le {a b : Int32} : a ≤ b ↔ a.toInt ≤ b.toInt := Int32.le_iff_toInt_le
theorem i_lt {a b : Int32} : a < b ↔ a.toInt < b.toInt := Int32.lt_iff_toInt_lt
theorem abs_far (u v : Int32) : ¬ absI (u - v) < 3 ↔ (3 ≤ u - v ∨ 3 ≤ v - u) := by
  have e : v - u = -(u - v) := (Int32.neg_sub).symm
  rw [e]
  generalize u - v = d
  unfold absI
  have h1 := Int32.le_toInt d
  have h2 := Int32.toInt_lt d
  have h3 : (3 : Int32).toInt = 3 := by decide
  have h0 : (0 : Int32).toInt = 0 := by decide
  by_cases hm : d.toInt = -2147483648
  · have : d = Int32.minValue := Int32.toInt_inj.mp (by rw [hm]; decide)
    subst this; decide
  · have hn := i_neg hm
    rw [Int32.zero_sub]
    split
    · rename_i hp
      rw [i_le] at hp
      rw [i_lt, i_le, i_le]; omega
    · rename_i hp
      rw [i_le] at hp
      rw [i_lt, i_le, i_le]; omega
theorem nI_m1 {k : Nat} (h : k < 2 ^ 31) : nI k ≠ -1 := fun z => by
  have := nI_pos' h
  rw [z] at this
  exact absurd this (by decide)
theorem sumf_congr {f g : Nat → Int32} : ∀ {n : Nat}, (∀ k, k < n → f k = g k) → sumf f n = sumf g n
  | 0, _ => rfl
  | n + 1, h => by
    show sumf f n + f n = sumf g n + g n
    rw [sumf_congr (fun k hk => h k (by omega)), h n (by omega)]
theorem sumf_ext {f : Nat → Int32} {n : Nat} : ∀ {m : Nat}, n ≤ m → (∀ k, n ≤ k → k < m → f k = 0) → sumf f m = sumf f n
  | 0, h, _ => by rw [show n = 0 by omega]
  | m + 1, h, hz => by
    by_cases e : n = m + 1
    · rw [e]
    · show sumf f m + f m = _
      rw [sumf_ext (by omega) (fun k h1 h2 => hz k h1 (by omega)), hz m (by omega) (by omega), Int32.add_zero]
theorem sumf_out {f : Nat → Int32} {i : Nat} : ∀ {n : Nat}, i < n → sumf f n - f i = sumf (fun k => if k = i then 0 else f k) n
  | 0, h => absurd h (Nat.not_lt_zero _)
  | n + 1, h => by
    show sumf f n + f n - f i = sumf (fun k => if k = i then 0 else f k) n + (if n = i then 0 else f n)
    by_cases e : n = i
    · subst e
      rw [if_pos rfl, Int32.add_sub_cancel, Int32.add_zero]
      exact sumf_congr (fun k hk => by rw [if_neg (by omega)])
    · rw [if_neg e, ← sumf_out (by omega : i < n), Int32.sub_eq_add_neg, Int32.sub_eq_add_neg, Int32.add_assoc, Int32.add_assoc, Int32.add_comm (f n)]
theorem fnd_congr {p q : Nat → Prop} [DecidablePred p] [DecidablePred q] : ∀ {n i : Nat}, (∀ k, i ≤ k → k < i + n → (p k ↔ q k)) → fnd p n i = fnd q n i
  | 0, _, _ => rfl
  | n + 1, i, h => by
    show (if p i then nI i else fnd p n (i + 1)) = if q i then nI i else fnd q n (i + 1)
    have h0 := h i (Nat.le_refl i) (by omega)
    rw [fnd_congr (fun k h1 h2 => h k (by omega) (by omega))]
    by_cases hp : p i
    · rw [if_pos hp, if_pos (h0.mp hp)]
    · rw [if_neg hp, if_neg (fun z => hp (h0.mpr z))]
theorem fnd_ext {p : Nat → Prop} [DecidablePred p] : ∀ {n m i : Nat}, n ≤ m → (∀ k, i + n ≤ k → k < i + m → ¬ p k) → fnd p m i = fnd p n i
  | 0, 0, _, _, _ => rfl
  | 0, m + 1, i, _, h => by
    show (if p i then nI i else fnd p m (i + 1)) = -1
    rw [if_neg (h i (by omega) (by omega))]
    exact fnd_ext (n := 0) (by omega) (fun k h1 h2 => h k (by omega) (by omega))
  | n + 1, 0, _, h, _ => absurd h (by omega)
  | n + 1, m + 1, i, hm, h => by
    show (if p i then nI i else fnd p m (i + 1)) = if p i then nI i else fnd p n (i + 1)
    rw [fnd_ext (n := n) (m := m) (i := i + 1) (by omega) (fun k h1 h2 => h k (by omega) (by omega))]
theorem fnd_none {p : Nat → Prop} [DecidablePred p] : ∀ {n i : Nat}, (∀ k, i ≤ k → k < i + n → ¬ p k) → fnd p n i = -1
  | 0, _, _ => rfl
  | n + 1, i, h => by
    show (if p i then nI i else fnd p n (i + 1)) = -1
    rw [if_neg (h i (by omega) (by omega)), fnd_none (fun k h1 h2 => h k (by omega) (by omega))]
theorem fndv_congr {p q : Nat → Prop} [DecidablePred p] [DecidablePred q] {v : Nat → Int32} : ∀ {n i : Nat}, (∀ k, i ≤ k → k < i + n → (p k ↔ q k)) → fndv p v n i = fndv q v n i
  | 0, _, _ => rfl
  | n + 1, i, h => by
    show (if p i then v i else fndv p v n (i + 1)) = if q i then v i else fndv q v n (i + 1)
    have h0 := h i (Nat.le_refl i) (by omega)
    rw [fndv_congr (fun k h1 h2 => h k (by omega) (by omega))]
    by_cases hp : p i
    · rw [if_pos hp, if_pos (h0.mp hp)]
    · rw [if_neg hp, if_neg (fun z => hp (h0.mpr z))]
theorem frun_congr {c d : Nat → Int32} : ∀ {n : Nat}, (∀ k, k < n → c k = d k) → frun c n = frun d n
  | 0, _ => rfl
  | n + 1, h => by
    show (if c n = 0 then frun c n + 1 else 0) = if d n = 0 then frun d n + 1 else 0
    rw [frun_congr (fun k hk => h k (by omega)), h n (by omega)]
theorem gapf_congr {c d : Nat → Int32} (many : Int32) (h : ∀ k, k < 100 → c k = d k) : gapf c many = gapf d many :=
  fndv_congr (fun k _ h2 => by rw [frun_congr (fun j hj => h j (by omega))])
theorem dbl_congr {c d : Nat → Int32} (h : ∀ k, k < 100 → c k = d k) : dbl c = dbl d := sumf_congr (fun k hk => by rw [h k hk])
theorem orf_congr {f g : Nat → Int32} : ∀ {n : Nat}, (∀ k, k < n → f k = g k) → orf f n = orf g n
  | 0, _ => rfl
  | n + 1, h => by
    show orf f n ||| f n = orf g n ||| g n
    rw [orf_congr (fun k hk => h k (by omega)), h n (by omega)]
