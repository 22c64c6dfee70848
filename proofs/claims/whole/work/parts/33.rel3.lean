/-! the tour: the nearest place of the one is the best of the other -/
theorem rng_eq {v : Int32} {m : Nat} (hm : m < 2 ^ 30) : (0 ≤ v ∧ v < nI m) ↔ inR v 0 (nI m - 1) := by
  have e1 : (nI m).toInt = m := nI_toInt (by omega)
  have e2 : (1 : Int32).toInt = 1 := by decide
  have e3 : (nI m - 1).toInt = m - 1 := by rw [i_sub (by omega) (by omega), e1, e2]
  unfold inR
  rw [i_lt, i_le, i_le, e1, e3]
  constructor
  · rintro ⟨a, b⟩; exact ⟨a, by omega⟩
  · rintro ⟨a, b⟩; exact ⟨a, by omega⟩
def dst (o p : Nat) : Nat := if p < o then o - p else p - o
theorem dst_c (o p : Nat) : (p < o ∧ dst o p = o - p) ∨ (o ≤ p ∧ dst o p = p - o) := by
  unfold dst
  split
  · rename_i h; exact Or.inl ⟨h, rfl⟩
  · rename_i h; exact Or.inr ⟨by omega, rfl⟩
def Bst (P : Nat → Prop) (o ll : Nat) (v : Int32) : Prop :=
  (v = -1 ∧ ∀ p, p ≤ ll → ¬ P p) ∨ (∃ p, p ≤ ll ∧ P p ∧ v = nI p ∧ ∀ p', p' ≤ ll → P p' → dst o p < dst o p' ∨ (dst o p = dst o p' ∧ p ≤ p'))
theorem Bst_one {P : Nat → Prop} {o ll : Nat} {v w : Int32} (h1 : Bst P o ll v) (h2 : Bst P o ll w) : v = w := by
  rcases h1 with ⟨rfl, a⟩ | ⟨p, a1, a2, rfl, a3⟩ <;> rcases h2 with ⟨rfl, b⟩ | ⟨p', b1, b2, rfl, b3⟩
  · rfl
  · exact absurd b2 (a p' b1)
  · exact absurd a2 (b p a1)
  · have c1 := a3 p' b1 b2
    have c2 := b3 p a1 a2
    rw [show p = p' by omega]
theorem nrst_best {ok : Int32 → Prop} [DecidablePred ok] {P : Nat → Prop} {o ll : Nat} (ho : o ≤ 100) (hll : ll ≤ 100) (hn : ∀ d, d ≤ o → (ok (nI o - nI d) ↔ o - d ≤ ll ∧ P (o - d))) (hneg : ∀ d, o < d → d ≤ 100 → ¬ ok (nI o - nI d)) (hp : ∀ d, d ≤ 100 → (ok (nI o + nI d) ↔ o + d ≤ ll ∧ P (o + d))) :
    ∀ (k d : Nat), k + d = 101 → (∀ p, p ≤ ll → dst o p < d → ¬ P p) → Bst P o ll (nrst ok (nI o) k d)
  | 0, d, e, hno => Or.inl ⟨rfl, fun p h => hno p h (by unfold dst; split <;> omega)⟩
  | k + 1, d, e, hno => by
    show Bst P o ll (if ok (nI o - nI d) then nI o - nI d else if ok (nI o + nI d) then nI o + nI d else nrst ok (nI o) k (d + 1))
    have hge : ∀ p', p' ≤ ll → P p' → d ≤ dst o p' := fun p' h1 h2 => by
      rcases Nat.lt_or_ge (dst o p') d with h | h
      · exact absurd h2 (hno p' h1 h)
      · exact h
    by_cases h1 : ok (nI o - nI d)
    · rw [if_pos h1]
      have hd : d ≤ o := by
        rcases Nat.lt_or_ge o d with h | h
        · exact absurd h1 (hneg d h (by omega))
        · exact h
      obtain ⟨g1, g2⟩ := (hn d hd).mp h1
      refine Or.inr ⟨o - d, g1, g2, nI_sub hd, fun p' a1 a2 => ?_⟩
      have h3 := hge p' a1 a2
      have d1 := dst_c o p'
      have d2 := dst_c o (o - d)
      omega
    · rw [if_neg h1]
      have hlow : d ≤ o → o - d ≤ ll → ¬ P (o - d) := fun a1 a2 a3 => h1 ((hn d a1).mpr ⟨a2, a3⟩)
      by_cases h2 : ok (nI o + nI d)
      · rw [if_pos h2]
        obtain ⟨g1, g2⟩ := (hp d (by omega)).mp h2
        refine Or.inr ⟨o + d, g1, g2, nI_add o d, fun p' a1 a2 => ?_⟩
        have h3 := hge p' a1 a2
        by_cases e4 : d ≤ o ∧ p' = o - d
        · obtain ⟨e5, e6⟩ := e4
          subst e6
          exact absurd a2 (hlow e5 a1)
        · have d1 := dst_c o p'
          have d2 := dst_c o (o + d)
          omega
      · rw [if_neg h2]
        refine nrst_best ho hll hn hneg hp k (d + 1) (by omega) (fun p a1 a2 => ?_)
        by_cases e5 : dst o p < d
        · exact hno p a1 e5
        · have e6 : dst o p = d := by omega
          unfold dst at e6
          split at e6
          · rename_i e7
            have := hlow (by omega) (by omega)
            rwa [show o - d = p by omega] at this
          · rename_i e7
            intro e8
            exact h2 ((hp d (by omega)).mpr ⟨by omega, by rw [show o + d = p by omega]; exact e8⟩)
theorem bsf_best {z : Nat → Nat → Int32} {n h i o : Nat} {w : Int32} {P : Nat → Prop} (ho : o ≤ 100) (hz : z 8 i = nI o) (hP : ∀ p, p ≤ 100 → (canM z n h (nI i) w (nI p) ↔ P p)) :
    ∀ p, p ≤ 101 → ((bsf z n h i w p = (-1, 1000) ∧ ∀ p', p' < p → ¬ P p') ∨ (∃ p0, p0 < p ∧ P p0 ∧ bsf z n h i w p = (nI p0, nI (dst o p0)) ∧ ∀ p', p' < p → P p' → dst o p0 < dst o p' ∨ (dst o p0 = dst o p' ∧ p0 ≤ p')))
  | 0, _ => Or.inl ⟨rfl, fun p' h => absurd h (Nat.not_lt_zero _)⟩
  | p + 1, hp => by
    have hfar : farT z i p = nI (dst o p) := by
      unfold farT dst
      rw [hz]
      by_cases e : p < o
      · rw [if_pos (nI_lt e (by omega)), if_pos e, nI_sub (by omega)]
      · rw [if_neg (nI_nlt (by omega) (by omega)), if_neg e, nI_sub (by omega)]
    have hdp : dst o p ≤ 200 := by unfold dst; split <;> omega
    show (((if farT z i p < (bsf z n h i w p).2 ∧ canM z n h (nI i) w (nI p) then (nI p, farT z i p) else bsf z n h i w p) = (-1, 1000)) ∧ _) ∨ (∃ p0, p0 < p + 1 ∧ P p0 ∧ (if farT z i p < (bsf z n h i w p).2 ∧ canM z n h (nI i) w (nI p) then (nI p, farT z i p) else bsf z n h i w p) = (nI p0, nI (dst o p0)) ∧ _)
    rw [hfar]
    rcases bsf_best ho hz hP p (by omega) with ⟨e1, e2⟩ | ⟨p0, a1, a2, a3, a4⟩
    · rw [e1]
      by_cases hc : P p
      · right
        have h1000 : nI (dst o p) < 1000 := nI_lt (b := 1000) (by omega) (by omega)
        refine ⟨p, Nat.lt_succ_self p, hc, if_pos ⟨h1000, (hP p (by omega)).mpr hc⟩, fun p' b1 b2 => ?_⟩
        · rcases (show p' < p ∨ p' = p by omega) with h | rfl
          · exact absurd b2 (e2 p' h)
          · exact Or.inr ⟨rfl, Nat.le_refl _⟩
      · left
        refine ⟨if_neg (fun u => hc ((hP p (by omega)).mp u.2)), fun p' b1 => ?_⟩
        rcases (show p' < p ∨ p' = p by omega) with h | rfl
        · exact e2 p' h
        · exact hc
    · rw [a3]
      have hd0 : dst o p0 ≤ 200 := by unfold dst; split <;> omega
      right
      by_cases hc : P p
      · by_cases hl : dst o p < dst o p0
        · refine ⟨p, Nat.lt_succ_self p, hc, if_pos ⟨nI_lt hl (by omega), (hP p (by omega)).mpr hc⟩, fun p' b1 b2 => ?_⟩
          rcases (show p' < p ∨ p' = p by omega) with h | rfl
          · have := a4 p' h b2; omega
          · exact Or.inr ⟨rfl, Nat.le_refl _⟩
        · refine ⟨p0, by omega, a2, if_neg (fun u => nI_nlt (by omega) (by omega) u.1), fun p' b1 b2 => ?_⟩
          rcases (show p' < p ∨ p' = p by omega) with h | rfl
          · exact a4 p' h b2
          · omega
      · refine ⟨p0, by omega, a2, if_neg (fun u => hc ((hP p (by omega)).mp u.2)), fun p' b1 b2 => ?_⟩
        rcases (show p' < p ∨ p' = p by omega) with h | rfl
        · exact a4 p' h b2
        · exact absurd b2 hc
theorem bsf_none {z : Nat → Nat → Int32} {n h i : Nat} {w : Int32} (hP : ∀ p, ¬ canM z n h (nI i) w (nI p)) : ∀ p, bsf z n h i w p = (-1, 1000)
  | 0 => rfl
  | p + 1 => by
    show (if farT z i p < (bsf z n h i w p).2 ∧ canM z n h (nI i) w (nI p) then (nI p, farT z i p) else bsf z n h i w p) = _
    rw [if_neg (fun u => hP p u.2), bsf_none hP p]
section RELT
variable {n h q b t : Nat} {x y : Nat → Nat → Int32}
theorem bar_rng (r : RR n h q b t x y) {w : Int32} : (0 ≤ w ∧ w < x 5 h) ↔ inR w 0 (y 1 h - 1) := by
  obtain ⟨hn10, hlt, hq8, hbq, hn, hnM, hh, hhM, hq, hqM, hb, hbM, hti, hTM, e1, e2, e3, e5, e6, e7, e11, e17, e18, e19, e20, hbars, hlen, hkind, hlow, hhigh, hfst, hplc, hnam, hcur, hrul, hbeg⟩ := r
  obtain ⟨kb, hkb, ekb⟩ := hbars h hlt
  rw [e5, ekb]
  exact rng_eq (by omega)
theorem lamp_rng (r : RR n h q b t x y) {w : Int32} : (0 ≤ w ∧ w < x 0 0) ↔ inR w 0 (y 4 0 - 1) := by
  obtain ⟨hn10, hlt, hq8, hbq, hn, hnM, -⟩ := r
  rw [hn, hnM]
  exact rng_eq (by omega)
theorem bar_at (r : RR n h q b t x y) {w : Int32} (hw : inR w 0 (y 1 h - 1)) : w.toNatClampNeg < 4 ∧ w = nI w.toNatClampNeg := by
  obtain ⟨hn10, hlt, hq8, hbq, hn, hnM, hh, hhM, hq, hqM, hb, hbM, hti, hTM, e1, e2, e3, e5, e6, e7, e11, e17, e18, e19, e20, hbars, hlen, hkind, hlow, hhigh, hfst, hplc, hnam, hcur, hrul, hbeg⟩ := r
  obtain ⟨kb, hkb, ekb⟩ := hbars h hlt
  rw [ekb] at hw
  have := idxN hw (by omega)
  exact ⟨by omega, this.2⟩
theorem lamp_at (r : RR n h q b t x y) {w : Int32} (hw : inR w 0 (y 4 0 - 1)) : w.toNatClampNeg < n ∧ w = nI w.toNatClampNeg := by
  obtain ⟨hn10, hlt, hq8, hbq, hn, hnM, -⟩ := r
  rw [hnM] at hw
  exact idxN hw (by omega)
theorem best_eq (r : RR n h q b t x y) {i : Nat} (hi : i < n) (w : Int32) : hgP x h i w = bestM y n h i w ∧ (hgP x h i w = -1 ∨ ∃ p, p ≤ 100 ∧ hgP x h i w = nI p) := by
  have hrg := bar_rng r (w := w)
  have hat := fun hw => bar_at r (w := w) hw
  have hcl := fun (j : Nat) (hj : j < 4) (p : Nat) => clr_eq r (lm := nI i) (bar := nI j) (place := nI p) (nI_m1 (by omega))
  have hbe := fun (j : Nat) (hj : j < 4) => bear_eq r hi hj
  obtain ⟨hn10, hlt, hq8, hbq, hn, hnM, hh, hhM, hq, hqM, hb, hbM, hti, hTM, e1, e2, e3, e5, e6, e7, e11, e17, e18, e19, e20, hbars, hlen, hkind, hlow, hhigh, hfst, hplc, hnam, hcur, hrul, hbeg⟩ := r
  unfold hgP bestM
  by_cases hw : inR w 0 (y 1 h - 1)
  · obtain ⟨hj, ej⟩ := hat hw
    have hjj := hcl _ hj
    have hbb := hbe _ hj
    generalize w.toNatClampNeg = j at hj ej hjj hbb
    subst ej
    rw [if_pos hw]
    have hbear : bearX x h i j ↔ bearM y n h (nI i) (nI j) := by
      unfold bearX bearM
      rw [hbb, e7, (hkind i hi).2.1, nI_clamp (by omega), nI_clamp (by omega)]
    by_cases hb1 : bearX x h i j
    · rw [if_pos ⟨hrg.mpr hw, hb1⟩]
      obtain ⟨o, ho, eo⟩ := hplc i (by omega)
      obtain ⟨ll, hll, el⟩ := hlen (4 * h + j) (by omega)
      have e6' : x 6 (4 * h + j) = nI ll := by rw [e6]; exact el
      have hX : Bst (fun p => ∀ k, k < n → farM y (nI i) (nI j) (nI p) k) o ll (nrst (fun v => okX x h i j v) (x 11 i) 101 0) := by
        rw [show x 11 i = nI o by rw [e11, eo]]
        refine nrst_best ho hll (fun d hd => ?_) (fun d hd hd2 => ?_) (fun d hd => ?_) 101 0 rfl (fun p _ h2 => absurd h2 (Nat.not_lt_zero _))
        · rw [nI_sub hd]
          unfold okX plcX
          rw [hjj, e6']
          exact ⟨fun z => ⟨(nI_leI (by omega) (by omega)).mp z.1.2, z.2⟩, fun z => ⟨⟨nI_pos' (by omega), nI_le z.1 (by omega)⟩, z.2⟩⟩
        · intro z
          have z1 := i_le.mp z.1.1
          have e0 : (0 : Int32).toInt = 0 := by decide
          rw [i_sub (by rw [nI_toInt (by omega), nI_toInt (by omega)]; omega) (by rw [nI_toInt (by omega), nI_toInt (by omega)]; omega), nI_toInt (by omega), nI_toInt (by omega), e0] at z1
          omega
        · rw [nI_add]
          unfold okX plcX
          rw [hjj, e6']
          exact ⟨fun z => ⟨(nI_leI (by omega) (by omega)).mp z.1.2, z.2⟩, fun z => ⟨⟨nI_pos' (by omega), nI_le z.1 (by omega)⟩, z.2⟩⟩
      have hMm : Bst (fun p => ∀ k, k < n → farM y (nI i) (nI j) (nI p) k) o ll (bsf y n h i (nI j) ((y 2 (4 * h + j)).toNatClampNeg + 1)).1 := by
        rw [el, nI_clamp (by omega)]
        rcases bsf_best (P := fun p => ∀ k, k < n → farM y (nI i) (nI j) (nI p) k) (n := n) (h := h) (w := nI j) ho eo (fun p hp => ⟨fun z => z.2, fun z => ⟨hbear.mp hb1, z⟩⟩) (ll + 1) (by omega) with ⟨g1, g2⟩ | ⟨p0, g1, g2, g3, g4⟩
        · rw [g1]; exact Or.inl ⟨rfl, fun p hp => g2 p (by omega)⟩
        · rw [g3]; exact Or.inr ⟨p0, by omega, g2, rfl, fun p' h1 h2 => g4 p' (by omega) h2⟩
      refine ⟨Bst_one hX hMm, ?_⟩
      rcases hX with ⟨g1, g2⟩ | ⟨p0, g1, g2, g3, g4⟩
      · exact Or.inl g1
      · exact Or.inr ⟨p0, by omega, g3⟩
    · rw [if_neg (fun z => hb1 z.2), bsf_none (fun p z => hb1 (hbear.mpr z.1))]
      exact ⟨rfl, Or.inl rfl⟩
  · rw [if_neg (fun z => hw (hrg.mp z.1)), if_neg hw]
    exact ⟨rfl, Or.inl rfl⟩
theorem RR_tr0 (r : RR n h q b t x y) : RR n (1 - h) q b t (tr0 x (1 - h)) (trm0 y n (1 - h)) := by
  obtain ⟨hn10, hlt, hq8, hbq, hn, hnM, hh, hhM, hq, hqM, hb, hbM, hti, hTM, e1, e2, e3, e5, e6, e7, e11, e17, e18, e19, e20, hbars, hlen, hkind, hlow, hhigh, hfst, hplc, hnam, hcur, hrul, hbeg⟩ := r
  refine ⟨hn10, by omega, hq8, hbq, hn, hnM, rfl, rfl, hq, hqM, hb, hbM, hti, hTM, e1, e2, e3, e5, e6, e7, e11, e17, e18, e19, e20, hbars, hlen, hkind, ?_, ?_, hfst, hplc, hnam, hcur, hrul, hbeg⟩
  · intro k hk
    refine ⟨?_, (hlow k hk).2⟩
    show (if k < 10 then -1 else x 9 k) = (if k < n then -1 else y 7 k)
    rw [if_pos (by omega), if_pos hk]
  · intro k h1 h2
    exact ⟨if_pos h2, (hhigh k h1 h2).2⟩
theorem RR_put {f g f' g' : Nat → Int32} (r : RR n h q b t (set2 (set2 x 9 f) 11 g) (set2 (set2 y 7 f') 8 g')) {k p : Nat} (hk : k < n) (hp : p ≤ 100) (w : Int32) : RR n h q b t (set2 (set2 x 9 (upd f k w)) 11 (upd g k (nI p))) (set2 (set2 y 7 (upd f' k w)) 8 (upd g' k (nI p))) := by
  obtain ⟨hn10, hlt, hq8, hbq, hn, hnM, hh, hhM, hq, hqM, hb, hbM, hti, hTM, e1, e2, e3, e5, e6, e7, e11, e17, e18, e19, e20, hbars, hlen, hkind, hlow, hhigh, hfst, hplc, hnam, hcur, hrul, hbeg⟩ := r
  have e11' : g = g' := e11
  refine ⟨hn10, hlt, hq8, hbq, hn, hnM, hh, hhM, hq, hqM, hb, hbM, hti, hTM, e1, e2, e3, e5, e6, e7, ?_, e17, e18, e19, e20, hbars, hlen, hkind, ?_, ?_, hfst, ?_, hnam, hcur, hrul, hbeg⟩
  · show upd g k (nI p) = upd g' k (nI p)
    rw [e11']
  · intro j hj
    refine ⟨?_, (hlow j hj).2⟩
    show upd f k w j = upd f' k w j
    by_cases e : j = k
    · subst e; rw [upd_s, upd_s]
    · rw [upd_n e, upd_n e]; exact (hlow j hj).1
  · intro j h1 h2
    refine ⟨?_, (hhigh j h1 h2).2⟩
    show upd f k w j = -1
    rw [upd_n (by omega)]; exact (hhigh j h1 h2).1
  · intro j hj
    show ∃ p', p' ≤ 100 ∧ upd g' k (nI p) j = nI p'
    by_cases e : j = k
    · subst e; exact ⟨p, hp, upd_s⟩
    · rw [upd_n e]; exact hplc j hj
theorem RR_trn (r : RR n h q b t x y) (hw : ∀ k, k < n → x 10 k = y 26 k) : ∀ k, k ≤ n → RR n h q b t (set2 (set2 x 9 (trn x h k).1) 11 (trn x h k).2.1) (set2 (set2 y 7 (trM y n h k).1) 8 (trM y n h k).2.1) ∧ (trn x h k).2.2 = (trM y n h k).2.2
  | 0, _ => ⟨r, rfl⟩
  | k + 1, hk => by
    obtain ⟨r1, e1⟩ := RR_trn r hw k (by omega)
    have hbest := best_eq r1 (i := k) (by omega) (y 26 k)
    have ex := hw k (by omega)
    unfold trn trM
    rw [ex]
    by_cases h0 : y 26 k = -1
    · rw [if_pos h0, if_pos h0]; exact ⟨r1, e1⟩
    · rw [if_neg h0, if_neg h0, ← hbest.1]
      rcases hbest.2 with hm | ⟨p, hp, ep⟩
      · simp only [hm, if_true]
        exact ⟨r1, by rw [e1]⟩
      · have hne : nI p ≠ -1 := nI_m1 (by omega)
        simp only [ep, hne, if_false]
        exact ⟨RR_put r1 (by omega) hp _, by rw [e1]⟩
theorem trn_ext (x : Nat → Nat → Int32) (h n : Nat) (hz : ∀ k, n ≤ k → k < 10 → x 10 k = -1) : ∀ m, n ≤ m → m ≤ 10 → trn x h m = trn x h n
  | 0, h1, _ => by rw [show n = 0 by omega]
  | m + 1, h1, h2 => by
    by_cases e : n = m + 1
    · rw [e]
    · show (if x 10 m = -1 then trn x h m else _) = _
      rw [if_pos (hz m (by omega) (by omega))]
      exact trn_ext x h n hz m (by omega) (by omega)
theorem RR_tour (r : RR n h q b t x y) : RR n (1 - h) q b t (set2 (set2 (tr0 x (1 - h)) 9 (trn (tr0 x (1 - h)) (1 - h) 10).1) 11 (trn (tr0 x (1 - h)) (1 - h) 10).2.1) (set2 (set2 (trm0 y n (1 - h)) 7 (trM (trm0 y n (1 - h)) n (1 - h) n).1) 8 (trM (trm0 y n (1 - h)) n (1 - h) n).2.1) ∧ (trn (tr0 x (1 - h)) (1 - h) 10).2.2 = (trM (trm0 y n (1 - h)) n (1 - h) n).2.2 := by
  have r0 := RR_tr0 r
  obtain ⟨hn10, hlt, hq8, hbq, hn, hnM, hh, hhM, hq, hqM, hb, hbM, hti, hTM, e1, e2, e3, e5, e6, e7, e11, e17, e18, e19, e20, hbars, hlen, hkind, hlow, hhigh, hfst, hplc, hnam, hcur, hrul, hbeg⟩ := r
  rw [trn_ext (tr0 x (1 - h)) (1 - h) n (fun k h1 h2 => by show (if k < 10 then x 9 k else x 10 k) = -1; rw [if_pos h2]; exact (hhigh k h1 h2).1) 10 hn10 (Nat.le_refl _)]
  refine RR_trn r0 (fun k hk => ?_) n (Nat.le_refl n)
  show (if k < 10 then x 9 k else x 10 k) = (if k < n then y 7 k else y 26 k)
  rw [if_pos (by omega), if_pos hk]
  exact (hlow k hk).1
end RELT
