/-! the tour: the class's and the law's -/
theorem nrst_cg {p p' : Int32 → Prop} [DecidablePred p] [DecidablePred p'] {own : Int32} : ∀ {n d : Nat}, (∀ i, d ≤ i → i < d + n → ((p (own - nI i) ↔ p' (own - nI i)) ∧ (p (own + nI i) ↔ p' (own + nI i)))) → nrst p own n d = nrst p' own n d
  | 0, _, _ => rfl
  | n + 1, d, h => by
    show (if p (own - nI d) then own - nI d else if p (own + nI d) then own + nI d else nrst p own n (d + 1)) = if p' (own - nI d) then own - nI d else if p' (own + nI d) then own + nI d else nrst p' own n (d + 1)
    obtain ⟨h1, h2⟩ := h d (Nat.le_refl d) (by omega)
    rw [nrst_cg (fun i a b => h i (by omega) (by omega))]
    by_cases z : p (own - nI d)
    · rw [if_pos z, if_pos (h1.mp z)]
    · rw [if_neg z, if_neg (fun w => z (h1.mpr w))]
      by_cases z2 : p (own + nI d)
      · rw [if_pos z2, if_pos (h2.mp z2)]
      · rw [if_neg z2, if_neg (fun w => z2 (h2.mpr w))]
theorem nrst_none {p : Int32 → Prop} [DecidablePred p] {own : Int32} : ∀ {n d : Nat}, (∀ v, ¬ p v) → nrst p own n d = -1
  | 0, _, _ => rfl
  | n + 1, d, h => by
    show (if p (own - nI d) then own - nI d else if p (own + nI d) then own + nI d else nrst p own n (d + 1)) = -1
    rw [if_neg (h _), if_neg (h _), nrst_none h]
theorem trn_s (x : Nat → Nat → Int32) (h k : Nat) : trn x h (k + 1) = if x 10 k = -1 then trn x h k else
      (if hgP (set2 (set2 x 9 (trn x h k).1) 11 (trn x h k).2.1) h k (x 10 k) = -1 then (trn x h k).1 else upd (trn x h k).1 k (x 10 k),
       if hgP (set2 (set2 x 9 (trn x h k).1) 11 (trn x h k).2.1) h k (x 10 k) = -1 then (trn x h k).2.1 else upd (trn x h k).2.1 k (hgP (set2 (set2 x 9 (trn x h k).1) 11 (trn x h k).2.1) h k (x 10 k)),
       (trn x h k).2.2 + if hgP (set2 (set2 x 9 (trn x h k).1) 11 (trn x h k).2.1) h k (x 10 k) = -1 then 1 else 0) := rfl
theorem trn_ext {x : Nat → Nat → Int32} {h n : Nat} : ∀ k, n ≤ k → (∀ j, n ≤ j → j < k → x 10 j = -1) → trn x h k = trn x h n
  | 0, h0, _ => by rw [show n = 0 by omega]
  | k + 1, h0, hz => by
    by_cases e : n = k + 1
    · rw [e]
    · rw [trn_s, if_pos (hz k (by omega) (by omega)), trn_ext k (by omega) (fun j h1 h2 => hz j h1 (by omega))]
def tZ (z : Nat → Nat → Int32) (h k : Nat) : Nat → Nat → Int32 := set2 (set2 z 9 (trn z h k).1) 11 (trn z h k).2.1
def tI (n h : Nat) (kb K : Nat → Nat) (z : Nat → Nat → Int32) (fc : Nat → Int32) (k : Nat) (fp : Nat → Int32) : Prop :=
  Rl n K (tZ z h k) fc fp ∧ Rr n K fp ∧ Rp n h kb fp ∧ (∀ j, k ≤ j → j < n → fp (10 + j) = -1)
/-- the law's rows behind its first loop -/
def onN (fp : Nat → Int32) (k : Nat) : Nat → Int32 := fun j => if j < k then fp (10 + j) else 0
def dnN (fp : Nat → Int32) (k : Nat) : Nat → Int32 := fun j => if 10 ≤ j ∧ j < 10 + k then -1 else fp j
theorem onN_0 (fp : Nat → Int32) : (fun _ => (0 : Int32)) = onN fp 0 := by funext j; exact (if_neg (Nat.not_lt_zero j)).symm
theorem dnN_0 (fp : Nat → Int32) : fp = dnN fp 0 := by funext j; exact (if_neg (by omega)).symm
theorem onN_v {fp : Nat → Int32} {n k : Nat} (h : k < n) : onN fp n k = fp (10 + k) := if_pos h
theorem dnN_v {fp : Nat → Int32} {k j : Nat} (h : 10 + k ≤ j ∨ j < 10) : dnN fp k j = fp j := if_neg (by omega)
theorem dnN_d {fp : Nat → Int32} {n k : Nat} (h : k < n) : dnN fp n (10 + k) = -1 := if_pos (by omega)
theorem onN_s (fp : Nat → Int32) (k : Nat) : upd (onN fp k) k (fp (10 + k)) = onN fp (k + 1) := by
  funext j
  by_cases e : j = k
  · subst e; rw [upd_s, onN_v (Nat.lt_succ_self j)]
  · rw [upd_n e]
    show (if j < k then fp (10 + j) else 0) = if j < k + 1 then fp (10 + j) else 0
    by_cases e2 : j < k
    · rw [if_pos e2, if_pos (by omega)]
    · rw [if_neg e2, if_neg (by omega)]
theorem dnN_s (fp : Nat → Int32) (k : Nat) : upd (dnN fp k) (10 + k) (-1) = dnN fp (k + 1) := by
  funext j
  by_cases e : j = 10 + k
  · subst e; rw [upd_s, dnN_d (Nat.lt_succ_self k)]
  · rw [upd_n e]
    show (if 10 ≤ j ∧ j < 10 + k then -1 else fp j) = if 10 ≤ j ∧ j < 10 + (k + 1) then -1 else fp j
    by_cases e2 : 10 ≤ j ∧ j < 10 + k
    · rw [if_pos e2, if_pos (show 10 ≤ j ∧ j < 10 + (k + 1) by omega)]
    · rw [if_neg e2, if_neg (show ¬ (10 ≤ j ∧ j < 10 + (k + 1)) by omega)]
theorem upd_id {f : Nat → Int32} {j : Nat} {v : Int32} (h : f j = v) : upd f j v = f := by
  funext i
  by_cases e : i = j
  · subst e; rw [upd_s, h]
  · rw [upd_n e]
section RELT
variable {n h q b t : Nat} {kb K S F V : Nat → Nat} {x z : Nat → Nat → Int32} {fc fb fp fq fn fl fp1 : Nat → Int32}
theorem tI_0 (rl : Rl n K x fc fp) (rr : Rr n K fp) (h' : Nat) (u : Int32) : tI n h' kb K (tr0 x h') (upd fc 0 u) 0 (dnN fp n) := by
  obtain ⟨a1, a2, a3, a4, a5, a6⟩ := rl
  refine ⟨⟨a1, a2, (upd_n (by decide)).trans a3, fun k hk => ?_, fun k hk => ?_, fun k h1 h2 => ?_⟩, ⟨fun k hk => ?_, fun k hk => ?_⟩, ⟨fun k hk => Or.inl (dnN_d hk), fun k hk k' _ _ _ z => absurd (dnN_d hk) z⟩, fun j _ hj => dnN_d hj⟩
  · obtain ⟨b1, b2, b3, b4, b5, b6, b7, b8, b9⟩ := a4 k hk
    rw [dnN_d hk, dnN_v (by omega), dnN_v (j := 5 + k) (by omega), dnN_v (j := 20 + k) (by omega), dnN_v (j := 25 + k) (by omega)]
    exact ⟨b1, b2, b3, b4, b5, b6, if_pos (show k < 10 by omega), b8, b9⟩
  · rw [dnN_v (j := 15 + k) (by omega), dnN_v (j := 30 + k) (by omega), dnN_v (j := 35 + k) (by omega)]
    exact a5 k hk
  · obtain ⟨b1, b2, b3⟩ := a6 k h1 h2
    exact ⟨if_pos h2, b2, b3⟩
  · rw [dnN_v (j := 5 + k) (by omega), dnN_v (j := 20 + k) (by omega), dnN_v (j := 25 + k) (by omega)]
    exact rr.1 k hk
  · rw [dnN_v (j := 15 + k) (by omega), dnN_v (j := 30 + k) (by omega)]
    exact rr.2 k hk
theorem tI_no {k : Nat} (t : tI n h kb K z fc k fp1) (hz : z 10 k = -1) : tI n h kb K z fc (k + 1) fp1 ∧ (trn z h (k + 1)).2.2 = (trn z h k).2.2 := by
  have e : trn z h (k + 1) = trn z h k := by rw [trn_s, if_pos hz]
  unfold tI tZ at *
  rw [e]
  exact ⟨⟨t.1, t.2.1, t.2.2.1, fun j h1 h2 => t.2.2.2 j (by omega) h2⟩, rfl⟩
/-- what the class looks for is what the law looks for -/
theorem hg_eq {k j : Nat} (rh : Rh h kb z fc fb) (t : tI n h kb K z fc k fp1) (hk : k < n) (hj : j < 2) : hgP (tZ z h k) h k (nI j) = nrst (fun v => fitL fb fp1 K n h (kb h) k j v n) (fp1 (15 + k)) 101 0 := by
  obtain ⟨rl, rr, rp, -⟩ := t
  have rh' : Rh h kb (tZ z h k) fc fb := Rh_cg rh rfl rfl rfl rfl rfl rfl rfl
  have hn5 := rl.1
  obtain ⟨w, hw, ew⟩ := (rr.2 k (by omega)).1
  have e11 := (rl.2.2.2.2.1 k (by omega)).1
  have hx5 := (rh'.2.2.2.1 h rh'.1).2.1
  have hkb := (rh'.2.2.2.1 h rh'.1).1
  have vlo : ∀ i, i < 101 → -1000 ≤ (nI w - nI i).toInt ∧ (nI w - nI i).toInt ≤ 1000 := fun i hi => by
    rw [pk_sub_toInt (by omega) (by omega)]; omega
  have vhi : ∀ i, i < 101 → -1000 ≤ (nI w + nI i).toInt ∧ (nI w + nI i).toInt ≤ 1000 := fun i hi => by
    rw [nI_add, nI_toInt (by omega)]; omega
  unfold hgP
  rw [nI_clamp (by omega), e11, ew, hx5]
  by_cases hc : (0 ≤ nI j ∧ nI j < nI (kb h)) ∧ bearX (tZ z h k) h k j
  · rw [if_pos hc]
    have hjk : j < kb h := (nI_ltI (by omega) (by omega)).mp hc.1.2
    refine nrst_cg (fun i _ hi => ⟨?_, ?_⟩)
    · have := can_eq rh' rl rr hk hj (vlo i (by omega))
      rw [← this]
      exact ⟨fun y => ⟨⟨y.1, hc.2, y.2⟩, hjk⟩, fun y => ⟨y.1.1, y.1.2.2⟩⟩
    · have := can_eq rh' rl rr hk hj (vhi i (by omega))
      rw [← this]
      exact ⟨fun y => ⟨⟨y.1, hc.2, y.2⟩, hjk⟩, fun y => ⟨y.1.1, y.1.2.2⟩⟩
  · rw [if_neg hc]
    refine (nrst_none (fun v hv => ?_)).symm
    apply hc
    obtain ⟨⟨y1, -, -, y4⟩, -⟩ := hv
    refine ⟨⟨nI_pos' (by omega), nI_lt y1 (by omega)⟩, ?_⟩
    have h1 := bear_eq rl hk (j := j) (by omega)
    have e7 := (rh'.2.2.2.2 h rh'.1 j hj).2.1
    obtain ⟨-, -, -, hlow, -, -⟩ := rl
    obtain ⟨-, -, e8, -⟩ := hlow k hk
    show wOnX (tZ z h k) (nI j) - (if tZ z h k 9 k = nI j then tZ z h k 8 k else 0) + tZ z h k 8 k ≤ tZ z h k 7 (4 * h + j)
    rw [h1, e7, e8]
    exact y4
theorem tI_lost {k j : Nat} (rh : Rh h kb z fc fb) (t : tI n h kb K z fc k fp1) (hk : k < n) (hj : j < 2) (hz : z 10 k = nI j) (hR : nrst (fun v => fitL fb fp1 K n h (kb h) k j v n) (fp1 (15 + k)) 101 0 = -1) : tI n h kb K z fc (k + 1) fp1 ∧ (trn z h (k + 1)).2.2 = (trn z h k).2.2 + nI 1 := by
  have hg := hg_eq rh t hk hj
  rw [hR] at hg
  have hg2 : hgP (set2 (set2 z 9 (trn z h k).1) 11 (trn z h k).2.1) h k (z 10 k) = -1 := by rw [hz]; exact hg
  have hne : ¬ z 10 k = -1 := by rw [hz]; exact nI_m1 (by omega)
  have e : trn z h (k + 1) = ((trn z h k).1, (trn z h k).2.1, (trn z h k).2.2 + 1) := by rw [trn_s, if_neg hne, if_pos hg2, if_pos hg2, if_pos hg2]
  unfold tI tZ at *
  rw [e]
  exact ⟨⟨t.1, t.2.1, t.2.2.1, fun j h1 h2 => t.2.2.2 j (by omega) h2⟩, rfl⟩
theorem tI_hung {k j : Nat} {v : Int32} (rh : Rh h kb z fc fb) (t : tI n h kb K z fc k fp1) (hk : k < n) (hj : j < 2) (hz : z 10 k = nI j) (hR : nrst (fun v => fitL fb fp1 K n h (kb h) k j v n) (fp1 (15 + k)) 101 0 = v) (hf : fitL fb fp1 K n h (kb h) k j v n) : tI n h kb K z fc (k + 1) (upd (upd fp1 (10 + k) (nI j)) (15 + k) v) ∧ (trn z h (k + 1)).2.2 = (trn z h k).2.2 + nI 0 := by
  have hg := hg_eq rh t hk hj
  rw [hR] at hg
  have hg2 : hgP (set2 (set2 z 9 (trn z h k).1) 11 (trn z h k).2.1) h k (z 10 k) = v := by rw [hz]; exact hg
  have hb := (rh.2.2.2.2 h rh.1 j hj).2.2
  have hv1 : v ≤ nI 100 := Int32.le_trans hf.1.2.2.1 hb
  have hv0 : ¬ v < 0 := Int32.not_lt.mpr hf.1.2.1
  obtain ⟨m, hm, em⟩ := nI_of2 (x := v) (M := nI 100) (n := 100) (by decide) hv0 hv1
  have hvne : ¬ v = -1 := by rw [em]; exact nI_m1 (by omega)
  have hne : ¬ z 10 k = -1 := by rw [hz]; exact nI_m1 (by omega)
  have e : trn z h (k + 1) = (upd (trn z h k).1 k (nI j), upd (trn z h k).2.1 k v, (trn z h k).2.2 + 0) := by rw [trn_s, if_neg hne, hg2, if_neg hvne, if_neg hvne, if_neg hvne, hz]
  obtain ⟨rl, rr, rp, hno⟩ := t
  have hn5 := rl.1
  have rl2 := rl_hang rl hk (nI j) v
  rw [e]
  refine ⟨⟨?_, ?_, ?_, fun i h1 h2 => ?_⟩, rfl⟩
  · unfold tZ; rw [e]
    exact Rl_cg rl2 rfl rfl rfl rfl rfl rfl rfl rfl rfl rfl rfl rfl
  · rw [em]; exact rr_hang rr hn5 (by omega) hm (nI j)
  · rw [em]; exact rp_hang rp hn5 hk hf.1.1 (by rw [← em]; exact hf.2)
  · rw [upd_n (by omega), upd_n (by omega)]; exact hno i (by omega) h2
theorem st_tour (r : RR n h q b t kb K S F V x fc fb fp fq fn fl) (ti : tI n (1 - h) kb K (tr0 x (1 - h)) (upd fc 0 (nI (1 - h))) n fp1) : RR n (1 - h) q b t kb K S F V (set2 (set2 (tr0 x (1 - h)) 9 (trn (tr0 x (1 - h)) (1 - h) 10).1) 11 (trn (tr0 x (1 - h)) (1 - h) 10).2.1) (upd fc 0 (nI (1 - h))) fb fp1 fq fn fl ∧ (trn (tr0 x (1 - h)) (1 - h) 10).2.2 = (trn (tr0 x (1 - h)) (1 - h) n).2.2 := by
  obtain ⟨rh, rl, rr, rp, rc, rs, hb⟩ := r
  have e : trn (tr0 x (1 - h)) (1 - h) 10 = trn (tr0 x (1 - h)) (1 - h) n := trn_ext 10 (by have := rl.1; omega) (fun j h1 h2 => by
    show (if j < 10 then x 9 j else x 10 j) = -1
    rw [if_pos h2]; exact (rl.2.2.2.2.2 j h1 h2).1)
  obtain ⟨t1, t2, t3, -⟩ := ti
  rw [e]
  obtain ⟨a1, a2, a3, a4, a5⟩ := rh
  exact ⟨⟨⟨by omega, rfl, upd_s, fun s hs => by obtain ⟨b1, b2, b3⟩ := a4 s hs; exact ⟨b1, b2, (upd_n (by omega)).trans b3⟩, a5⟩, t1, t2, t3, Rc_cg rc rfl rfl rfl rfl rfl (upd_n (by decide)), Rs_cg rs rfl rfl rfl rfl rfl rfl (upd_n (by decide)) (upd_n (by decide)) (upd_n (by decide)), hb⟩, rfl⟩
theorem tour_rh (rh : Rh h kb x fc fb) : Rh (1 - h) kb (tr0 x (1 - h)) (upd fc 0 (nI (1 - h))) fb := by
  obtain ⟨a1, a2, a3, a4, a5⟩ := rh
  exact ⟨by omega, rfl, upd_s, fun s hs => by obtain ⟨b1, b2, b3⟩ := a4 s hs; exact ⟨b1, b2, (upd_n (by omega)).trans b3⟩, a5⟩
end RELT
