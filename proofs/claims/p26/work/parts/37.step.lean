/-! what one call makes of the relation -/
section RELS
variable {n h q b t : Nat} {kb K S F V : Nat → Nat} {x : Nat → Nat → Int32} {fc fb fp fq fn fl : Nat → Int32}
theorem st_bar (r : RR n h q b t kb K S F V x fc fb fp fq fn fl) {s L M : Nat} (hs : s < 2) (hk : kb s < 2) (hL : L ≤ 100) : RR n h q b t (fun s' => if s' = s then kb s + 1 else kb s') K S F V (set2 (set2 (set2 x 5 (upd (x 5) s (x 5 s + 1))) 6 (upd (x 6) (4 * s + kb s) (nI L))) 7 (upd (x 7) (4 * s + kb s) (nI M))) (upd fc (1 + s) (nI (kb s + 1))) (upd (upd fb (2 * s + kb s) (nI L)) (4 + 2 * s + kb s) (nI M)) fp fq fn fl := by
  obtain ⟨rh, rl, rr, rp, rc, rs, hb⟩ := r
  refine ⟨?_, Rl_cg rl rfl rfl rfl rfl rfl rfl rfl rfl rfl rfl rfl (upd_n (by omega)), rr, ⟨?_, rp.2⟩, Rc_cg rc rfl rfl rfl rfl rfl (upd_n (by omega)), Rs_cg rs rfl rfl rfl rfl rfl rfl (upd_n (by omega)) (upd_n (by omega)) (upd_n (by omega)), hb⟩
  · obtain ⟨a1, a2, a3, a4, a5⟩ := rh
    refine ⟨a1, a2, (upd_n (by omega)).trans a3, fun s' hs' => ?_, fun s' hs' j hj => ?_⟩
    · obtain ⟨b1, b2, b3⟩ := a4 s' hs'
      show (if s' = s then kb s + 1 else kb s') ≤ 2 ∧ upd (x 5) s (x 5 s + 1) s' = nI (if s' = s then kb s + 1 else kb s') ∧ upd fc (1 + s) (nI (kb s + 1)) (1 + s') = nI (if s' = s then kb s + 1 else kb s')
      by_cases e : s' = s
      · subst e; rw [if_pos rfl, upd_s, upd_s, b2, nI_1]; exact ⟨by omega, rfl, rfl⟩
      · rw [if_neg e, upd_n e, upd_n (by omega)]; exact ⟨b1, b2, b3⟩
    · obtain ⟨b1, b2, b3⟩ := a5 s' hs' j hj
      show upd (x 6) (4 * s + kb s) (nI L) (4 * s' + j) = upd (upd fb (2 * s + kb s) (nI L)) (4 + 2 * s + kb s) (nI M) (2 * s' + j) ∧ upd (x 7) (4 * s + kb s) (nI M) (4 * s' + j) = upd (upd fb (2 * s + kb s) (nI L)) (4 + 2 * s + kb s) (nI M) (4 + (2 * s' + j)) ∧ upd (upd fb (2 * s + kb s) (nI L)) (4 + 2 * s + kb s) (nI M) (2 * s' + j) ≤ nI 100
      by_cases e : s' = s ∧ j = kb s
      · obtain ⟨rfl, e2⟩ := e
        rw [upd_n (k := 4 + 2 * s' + kb s') (show 2 * s' + j ≠ 4 + 2 * s' + kb s' by omega), e2, upd_s, upd_s, upd_s, show 4 + (2 * s' + kb s') = 4 + 2 * s' + kb s' by omega, upd_s]
        exact ⟨rfl, rfl, nI_le hL (by omega)⟩
      · rw [upd_n (show 2 * s' + j ≠ 4 + 2 * s + kb s by omega), upd_n (show 2 * s' + j ≠ 2 * s + kb s by omega), upd_n (show 4 * s' + j ≠ 4 * s + kb s by omega), upd_n (show 4 * s' + j ≠ 4 * s + kb s by omega), upd_n (show 4 + (2 * s' + j) ≠ 4 + 2 * s + kb s by omega), upd_n (show 4 + (2 * s' + j) ≠ 2 * s + kb s by omega)]
        exact ⟨b1, b2, b3⟩
  · intro k hk2
    rcases rp.1 k hk2 with z | ⟨j, hj, z⟩
    · exact Or.inl z
    · refine Or.inr ⟨j, ?_, z⟩
      show j < if h = s then kb s + 1 else kb h
      by_cases e : h = s
      · rw [if_pos e, ← e]; omega
      · rw [if_neg e]; exact hj
theorem st_lamp (r : RR n h q b t kb K S F V x fc fb fp fq fn fl) {kd co : Nat} (hn : n < 5) (hkd : kd < 4) (hco : co ≤ 20) : RR (n + 1) h q b t kb (fun k => if k = n then kd else K k) S F V (set2 (set2 (set2 (set2 (set2 x 0 (fun _ => x 0 0 + 1)) 1 (upd (x 1) n (nI co))) 8 (upd (x 8) n (wgh (nI kd)))) 13 (upd (x 13) n (wdX (nI kd)))) 15 (upd (x 15) n (drw (nI kd)))) (upd fc 3 (nI (n + 1))) fb (upd (upd (upd (upd (upd fp n (nI kd)) (5 + n) (nI co)) (10 + n) (-1)) (20 + n) (-1)) (25 + n) (-1)) fq fn fl := by
  obtain ⟨rh, rl, rr, rp, rc, rs, hb⟩ := r
  rw [wgh_N hkd, wdX_N hkd, drw_N hkd]
  obtain ⟨a1, a2, a3, a4, a5, a6⟩ := rl
  refine ⟨Rh_cg rh rfl rfl rfl rfl (upd_n (by decide)) (upd_n (by decide)) (upd_n (by decide)), ⟨by omega, ?_, upd_s, fun k hk => ?_, fun k hk => ?_, fun k h1 h2 => a6 k (by omega) h2⟩, ⟨fun k hk => ?_, fun k hk => ?_⟩, ⟨fun k hk => ?_, fun k hk k' hk' hne => ?_⟩, Rc_cg rc rfl rfl rfl rfl rfl (upd_n (by decide)), Rs_cg rs rfl rfl rfl rfl rfl rfl (upd_n (by decide)) (upd_n (by decide)) (upd_n (by decide)), hb⟩
  · show x 0 0 + 1 = nI (n + 1); rw [a2, nI_1]
  · show (if k = n then kd else K k) < 4 ∧ _ = nI (if k = n then kd else K k) ∧ upd (x 8) n (nI (hvN kd)) k = nI (hvN (if k = n then kd else K k)) ∧ upd (x 13) n (nI (hsN kd)) k = nI (hsN (if k = n then kd else K k)) ∧ upd (x 15) n (nI (wtN kd)) k = nI (wtN (if k = n then kd else K k)) ∧ upd (x 1) n (nI co) k = _ ∧ x 9 k = _ ∧ x 12 k = _ ∧ x 14 k = _
    by_cases e : k = n
    · subst e
      obtain ⟨c1, c2, c3⟩ := a6 k (Nat.le_refl k) (by omega)
      simp (disch := omega) only [upd_n, upd_s, if_true]
      exact ⟨hkd, (by first | rfl | trivial), (by first | rfl | trivial), (by first | rfl | trivial), (by first | rfl | trivial), (by first | rfl | trivial), c1, c2, c3⟩
    · obtain ⟨b1, b2, b3, b4, b5, b6, b7, b8, b9⟩ := a4 k (by omega)
      rw [if_neg e]
      simp (disch := omega) only [upd_n]
      exact ⟨b1, b2, b3, b4, b5, b6, b7, b8, b9⟩
  · simp (disch := omega) only [upd_n]
    exact a5 k hk
  · show _ ∧ (_ ∨ ∃ m, m + hsN (if k = n then kd else K k) ≤ 100 ∧ _) ∧ _
    by_cases e : k = n
    · subst e
      simp (disch := omega) only [upd_n, upd_s, if_true]
      exact ⟨⟨co, hco, (by first | rfl | trivial)⟩, Or.inl (by first | rfl | trivial), Or.inl (by first | rfl | trivial)⟩
    · rw [if_neg e]
      simp (disch := omega) only [upd_n]
      exact rr.1 k (by omega)
  · simp (disch := omega) only [upd_n]
    exact rr.2 k hk
  · by_cases e : k = n
    · subst e
      simp (disch := omega) only [upd_n, upd_s]
      exact Or.inl (by first | rfl | trivial)
    · simp (disch := omega) only [upd_n]
      exact rp.1 k (by omega)
  · by_cases e : k = n
    · subst e
      simp (disch := omega) only [upd_n, upd_s]
      intro _ z; exact absurd rfl z
    · by_cases e' : k' = n
      · subst e'
        simp (disch := omega) only [upd_n, upd_s]
        intro z1 z; exact absurd z1 z
      · simp (disch := omega) only [upd_n]
        exact rp.2 k (by omega) k' (by omega) hne
theorem far_ne {u v : Int32} (h : nI 2 < u - v ∨ u - v < -2) : u ≠ v := fun e => by
  subst e
  rw [Int32.sub_self] at h
  rcases h with z | z
  · exact absurd z (by decide)
  · exact absurd z (by decide)
theorem rl_hang (rl : Rl n K x fc fp) {i : Nat} (hi : i < n) (u w : Int32) : Rl n K (set2 (set2 x 9 (upd (x 9) i u)) 11 (upd (x 11) i w)) fc (upd (upd fp (10 + i) u) (15 + i) w) := by
  obtain ⟨a1, a2, a3, a4, a5, a6⟩ := rl
  refine ⟨a1, a2, a3, fun k hk => ?_, fun k hk => ?_, fun k h1 h2 => ?_⟩
  · obtain ⟨b1, b2, b3, b4, b5, b6, b7, b8, b9⟩ := a4 k hk
    show K k < 4 ∧ _ ∧ x 8 k = _ ∧ x 13 k = _ ∧ x 15 k = _ ∧ x 1 k = _ ∧ upd (x 9) i u k = _ ∧ x 12 k = _ ∧ x 14 k = _
    by_cases e : k = i
    · subst e
      simp (disch := omega) only [upd_n, upd_s]
      exact ⟨b1, b2, b3, b4, b5, b6, (by first | rfl | trivial), b8, b9⟩
    · simp (disch := omega) only [upd_n]
      exact ⟨b1, b2, b3, b4, b5, b6, b7, b8, b9⟩
  · obtain ⟨b1, b2, b3⟩ := a5 k hk
    show upd (x 11) i w k = _ ∧ x 3 k = _ ∧ x 2 k = _
    by_cases e : k = i
    · subst e
      simp (disch := omega) only [upd_n, upd_s]
      exact ⟨(by first | rfl | trivial), b2, b3⟩
    · simp (disch := omega) only [upd_n]
      exact ⟨b1, b2, b3⟩
  · show upd (x 9) i u k = -1 ∧ x 12 k = -1 ∧ x 14 k = -1
    rw [upd_n (by omega)]
    exact a6 k h1 h2
theorem rr_hang (rr : Rr n K fp) (hn5 : n ≤ 5) {i v : Nat} (hi : i < 5) (hv : v ≤ 100) (u : Int32) : Rr n K (upd (upd fp (10 + i) u) (15 + i) (nI v)) := by
  refine ⟨fun k hk => ?_, fun k hk => ?_⟩
  · simp (disch := omega) only [upd_n]; exact rr.1 k hk
  · by_cases e : k = i
    · subst e
      simp (disch := omega) only [upd_n, upd_s]
      exact ⟨⟨v, hv, (by first | rfl | trivial)⟩, (rr.2 k hk).2⟩
    · simp (disch := omega) only [upd_n]
      exact rr.2 k hk
theorem rp_hang (rp : Rp n h kb fp) (hn5 : n ≤ 5) {i j v : Nat} (hi : i < n) (hj : j < kb h) (hc : ∀ k, k < n → okF fp i j (nI v) k) : Rp n h kb (upd (upd fp (10 + i) (nI j)) (15 + i) (nI v)) := by
  have hne : ∀ k, k < n → k ≠ i → fp (10 + k) = nI j → fp (15 + k) ≠ nI v := fun k hk e z => (hc k hk).elim (fun w => absurd w e) (fun w => w.elim (fun w => absurd z w) (fun w => far_ne w))
  refine ⟨fun k hk => ?_, fun k hk k' hk' hd => ?_⟩
  · by_cases e : k = i
    · subst e
      simp (disch := omega) only [upd_n, upd_s]
      exact Or.inr ⟨j, hj, (by first | rfl | trivial)⟩
    · simp (disch := omega) only [upd_n]
      exact rp.1 k hk
  · by_cases e : k = i
    · subst e
      simp (disch := omega) only [upd_n, upd_s]
      intro z _ w
      exact hne k' hk' (fun q => hd q.symm) z.symm w.symm
    · by_cases e' : k' = i
      · subst e'
        simp (disch := omega) only [upd_n, upd_s]
        intro z _ w
        exact hne k hk e z w
      · simp (disch := omega) only [upd_n]
        exact rp.2 k hk k' hk' hd
theorem st_hang (r : RR n h q b t kb K S F V x fc fb fp fq fn fl) {i j v : Nat} (hi : i < n) (hj : j < kb h) (hv : v ≤ 100) (hc : ∀ k, k < n → okF fp i j (nI v) k) : RR n h q b t kb K S F V (set2 (set2 x 9 (upd (x 9) i (nI j))) 11 (upd (x 11) i (nI v))) fc fb (upd (upd fp (10 + i) (nI j)) (15 + i) (nI v)) fq fn fl := by
  obtain ⟨rh, rl, rr, rp, rc, rs, hb⟩ := r
  have hn5 := rl.1
  exact ⟨Rh_cg rh rfl rfl rfl rfl rfl rfl rfl, rl_hang rl hi _ _, rr_hang rr hn5 (by omega) hv _, rp_hang rp hn5 hi hj hc, Rc_cg rc rfl rfl rfl rfl rfl rfl, Rs_cg rs rfl rfl rfl rfl rfl rfl rfl rfl rfl, hb⟩
theorem rl_down (rl : Rl n K x fc fp) {i : Nat} (hi : i < n) (u : Int32) : Rl n K (set2 x 9 (upd (x 9) i u)) fc (upd fp (10 + i) u) := by
  obtain ⟨a1, a2, a3, a4, a5, a6⟩ := rl
  refine ⟨a1, a2, a3, fun k hk => ?_, fun k hk => ?_, fun k h1 h2 => ?_⟩
  · obtain ⟨b1, b2, b3, b4, b5, b6, b7, b8, b9⟩ := a4 k hk
    show K k < 4 ∧ _ ∧ x 8 k = _ ∧ x 13 k = _ ∧ x 15 k = _ ∧ x 1 k = _ ∧ upd (x 9) i u k = _ ∧ x 12 k = _ ∧ x 14 k = _
    by_cases e : k = i
    · subst e
      simp (disch := omega) only [upd_n, upd_s]
      exact ⟨b1, b2, b3, b4, b5, b6, (by first | rfl | trivial), b8, b9⟩
    · simp (disch := omega) only [upd_n]
      exact ⟨b1, b2, b3, b4, b5, b6, b7, b8, b9⟩
  · simp (disch := omega) only [upd_n]; exact a5 k hk
  · show upd (x 9) i u k = -1 ∧ x 12 k = -1 ∧ x 14 k = -1
    rw [upd_n (by omega)]
    exact a6 k h1 h2
theorem st_down (r : RR n h q b t kb K S F V x fc fb fp fq fn fl) {i : Nat} (hi : i < n) : RR n h q b t kb K S F V (set2 x 9 (upd (x 9) i (-1))) fc fb (upd fp (10 + i) (-1)) fq fn fl := by
  obtain ⟨rh, rl, rr, rp, rc, rs, hb⟩ := r
  have hn5 := rl.1
  refine ⟨Rh_cg rh rfl rfl rfl rfl rfl rfl rfl, rl_down rl hi _, ⟨fun k hk => ?_, fun k hk => ?_⟩, ⟨fun k hk => ?_, fun k hk k' hk' hd => ?_⟩, Rc_cg rc rfl rfl rfl rfl rfl rfl, Rs_cg rs rfl rfl rfl rfl rfl rfl rfl rfl rfl, hb⟩
  · simp (disch := omega) only [upd_n]; exact rr.1 k hk
  · simp (disch := omega) only [upd_n]; exact rr.2 k hk
  · by_cases e : k = i
    · subst e; rw [upd_s]; exact Or.inl rfl
    · rw [upd_n (by omega)]; exact rp.1 k hk
  · by_cases e : k = i
    · subst e; rw [upd_s]; intro _ z; exact absurd rfl z
    · by_cases e' : k' = i
      · subst e'; rw [upd_s]; intro z1 z; exact absurd z1 z
      · simp (disch := omega) only [upd_n]; exact rp.2 k hk k' hk' hd
theorem st_patch (r : RR n h q b t kb K S F V x fc fb fp fq fn fl) {i : Nat} (hi : i < n) {f : Int32} (hf : f = -1 ∨ ∃ m, m + hsN (K i) ≤ 100 ∧ f = nI m) : RR n h q b t kb K S F V (set2 x 12 (upd (x 12) i f)) fc fb (upd fp (20 + i) f) fq fn fl := by
  obtain ⟨rh, ⟨a1, a2, a3, a4, a5, a6⟩, rr, rp, rc, rs, hb⟩ := r
  refine ⟨Rh_cg rh rfl rfl rfl rfl rfl rfl rfl, ⟨a1, a2, a3, fun k hk => ?_, fun k hk => ?_, fun k h1 h2 => ?_⟩, ⟨fun k hk => ?_, fun k hk => ?_⟩, ⟨fun k hk => ?_, fun k hk k' hk' hd => ?_⟩, Rc_cg rc rfl rfl rfl rfl rfl rfl, Rs_cg rs rfl rfl rfl rfl rfl rfl rfl rfl rfl, hb⟩
  · obtain ⟨b1, b2, b3, b4, b5, b6, b7, b8, b9⟩ := a4 k hk
    show K k < 4 ∧ _ ∧ x 8 k = _ ∧ x 13 k = _ ∧ x 15 k = _ ∧ x 1 k = _ ∧ x 9 k = _ ∧ upd (x 12) i f k = _ ∧ x 14 k = _
    by_cases e : k = i
    · subst e
      simp (disch := omega) only [upd_n, upd_s]
      exact ⟨b1, b2, b3, b4, b5, b6, b7, (by first | rfl | trivial), b9⟩
    · simp (disch := omega) only [upd_n]
      exact ⟨b1, b2, b3, b4, b5, b6, b7, b8, b9⟩
  · simp (disch := omega) only [upd_n]; exact a5 k hk
  · show x 9 k = -1 ∧ upd (x 12) i f k = -1 ∧ x 14 k = -1
    rw [upd_n (by omega)]
    exact a6 k h1 h2
  · by_cases e : k = i
    · subst e
      simp (disch := omega) only [upd_n, upd_s]
      exact ⟨(rr.1 k hk).1, hf, (rr.1 k hk).2.2⟩
    · simp (disch := omega) only [upd_n]; exact rr.1 k hk
  · simp (disch := omega) only [upd_n]; exact rr.2 k hk
  · simp (disch := omega) only [upd_n]; exact rp.1 k hk
  · simp (disch := omega) only [upd_n]; exact rp.2 k hk k' hk' hd
theorem st_plug (r : RR n h q b t kb K S F V x fc fb fp fq fn fl) {i : Nat} (hi : i < n) {f : Int32} (hf : f = -1 ∨ ∃ m, m < 4 ∧ f = nI m) : RR n h q b t kb K S F V (set2 x 14 (upd (x 14) i f)) fc fb (upd fp (25 + i) f) fq fn fl := by
  obtain ⟨rh, ⟨a1, a2, a3, a4, a5, a6⟩, rr, rp, rc, rs, hb⟩ := r
  refine ⟨Rh_cg rh rfl rfl rfl rfl rfl rfl rfl, ⟨a1, a2, a3, fun k hk => ?_, fun k hk => ?_, fun k h1 h2 => ?_⟩, ⟨fun k hk => ?_, fun k hk => ?_⟩, ⟨fun k hk => ?_, fun k hk k' hk' hd => ?_⟩, Rc_cg rc rfl rfl rfl rfl rfl rfl, Rs_cg rs rfl rfl rfl rfl rfl rfl rfl rfl rfl, hb⟩
  · obtain ⟨b1, b2, b3, b4, b5, b6, b7, b8, b9⟩ := a4 k hk
    show K k < 4 ∧ _ ∧ x 8 k = _ ∧ x 13 k = _ ∧ x 15 k = _ ∧ x 1 k = _ ∧ x 9 k = _ ∧ x 12 k = _ ∧ upd (x 14) i f k = _
    by_cases e : k = i
    · subst e
      simp (disch := omega) only [upd_n, upd_s]
      exact ⟨b1, b2, b3, b4, b5, b6, b7, b8, (by first | rfl | trivial)⟩
    · simp (disch := omega) only [upd_n]
      exact ⟨b1, b2, b3, b4, b5, b6, b7, b8, b9⟩
  · simp (disch := omega) only [upd_n]; exact a5 k hk
  · show x 9 k = -1 ∧ x 12 k = -1 ∧ upd (x 14) i f k = -1
    rw [upd_n (by omega)]
    exact a6 k h1 h2
  · by_cases e : k = i
    · subst e
      simp (disch := omega) only [upd_n, upd_s]
      exact ⟨(rr.1 k hk).1, (rr.1 k hk).2.1, hf⟩
    · simp (disch := omega) only [upd_n]; exact rr.1 k hk
  · simp (disch := omega) only [upd_n]; exact rr.2 k hk
  · simp (disch := omega) only [upd_n]; exact rp.1 k hk
  · simp (disch := omega) only [upd_n]; exact rp.2 k hk k' hk' hd
theorem st_colour (r : RR n h q b t kb K S F V x fc fb fp fq fn fl) {i co : Nat} (hi : i < n) (hco : co ≤ 20) : RR n h q b t kb K S F V (set2 (set2 x 1 (upd (x 1) i (nI co))) 2 (upd (x 2) i 0)) fc fb (upd (upd fp (5 + i) (nI co)) (35 + i) (nI 0)) fq fn fl := by
  obtain ⟨rh, ⟨a1, a2, a3, a4, a5, a6⟩, rr, rp, rc, rs, hb⟩ := r
  refine ⟨Rh_cg rh rfl rfl rfl rfl rfl rfl rfl, ⟨a1, a2, a3, fun k hk => ?_, fun k hk => ?_, fun k h1 h2 => a6 k h1 h2⟩, ⟨fun k hk => ?_, fun k hk => ?_⟩, ⟨fun k hk => ?_, fun k hk k' hk' hd => ?_⟩, Rc_cg rc rfl rfl rfl rfl rfl rfl, Rs_cg rs rfl rfl rfl rfl rfl rfl rfl rfl rfl, hb⟩
  · obtain ⟨b1, b2, b3, b4, b5, b6, b7, b8, b9⟩ := a4 k hk
    show K k < 4 ∧ _ ∧ x 8 k = _ ∧ x 13 k = _ ∧ x 15 k = _ ∧ upd (x 1) i (nI co) k = _ ∧ x 9 k = _ ∧ x 12 k = _ ∧ x 14 k = _
    by_cases e : k = i
    · subst e
      simp (disch := omega) only [upd_n, upd_s]
      exact ⟨b1, b2, b3, b4, b5, (by first | rfl | trivial), b7, b8, b9⟩
    · simp (disch := omega) only [upd_n]
      exact ⟨b1, b2, b3, b4, b5, b6, b7, b8, b9⟩
  · obtain ⟨b1, b2, b3⟩ := a5 k hk
    show x 11 k = _ ∧ x 3 k = _ ∧ upd (x 2) i 0 k = _
    by_cases e : k = i
    · subst e
      simp (disch := omega) only [upd_n, upd_s]
      exact ⟨b1, b2, (by first | rfl | trivial)⟩
    · simp (disch := omega) only [upd_n]
      exact ⟨b1, b2, b3⟩
  · by_cases e : k = i
    · subst e
      simp (disch := omega) only [upd_n, upd_s]
      exact ⟨⟨co, hco, (by first | rfl | trivial)⟩, (rr.1 k hk).2⟩
    · simp (disch := omega) only [upd_n]; exact rr.1 k hk
  · simp (disch := omega) only [upd_n]; exact rr.2 k hk
  · simp (disch := omega) only [upd_n]; exact rp.1 k hk
  · simp (disch := omega) only [upd_n]; exact rp.2 k hk k' hk' hd
theorem st_bulb (r : RR n h q b t kb K S F V x fc fb fp fq fn fl) {i : Nat} (hi : i < n) : RR n h q b t kb K S F V (set2 x 3 (upd (x 3) i (b2 (x 3 i = 0)))) fc fb (upd fp (30 + i) (nI 1 - fp (30 + i))) fq fn fl ∧ b2 (b2 (x 3 i = 0) = 0) = nI 1 - (nI 1 - fp (30 + i)) := by
  obtain ⟨rh, ⟨a1, a2, a3, a4, a5, a6⟩, rr, rp, rc, rs, hb⟩ := r
  have e3 := (a5 i (by omega)).2.1
  have hv := (rr.2 i (by omega)).2
  have hz : b2 (x 3 i = 0) = nI 1 - fp (30 + i) ∧ (nI 1 - fp (30 + i) = nI 0 ∨ nI 1 - fp (30 + i) = nI 1) ∧ b2 (b2 (x 3 i = 0) = 0) = nI 1 - (nI 1 - fp (30 + i)) := by
    rw [e3]
    rcases hv with w | w <;> rw [w] <;> decide
  obtain ⟨z1, z2, z3⟩ := hz
  refine ⟨?_, z3⟩
  rw [z1]
  refine ⟨Rh_cg rh rfl rfl rfl rfl rfl rfl rfl, ⟨a1, a2, a3, fun k hk => ?_, fun k hk => ?_, fun k h1 h2 => a6 k h1 h2⟩, ⟨fun k hk => ?_, fun k hk => ?_⟩, ⟨fun k hk => ?_, fun k hk k' hk' hd => ?_⟩, Rc_cg rc rfl rfl rfl rfl rfl rfl, Rs_cg rs rfl rfl rfl rfl rfl rfl rfl rfl rfl, hb⟩
  · simp (disch := omega) only [upd_n]; exact a4 k hk
  · obtain ⟨b1, b2, b3⟩ := a5 k hk
    show x 11 k = _ ∧ upd (x 3) i (nI 1 - fp (30 + i)) k = _ ∧ x 2 k = _
    by_cases e : k = i
    · subst e
      simp (disch := omega) only [upd_n, upd_s]
      exact ⟨b1, (by first | rfl | trivial), b3⟩
    · simp (disch := omega) only [upd_n]
      exact ⟨b1, b2, b3⟩
  · simp (disch := omega) only [upd_n]; exact rr.1 k hk
  · by_cases e : k = i
    · subst e
      simp (disch := omega) only [upd_n, upd_s]
      exact ⟨(rr.2 k hk).1, z2⟩
    · simp (disch := omega) only [upd_n]; exact rr.2 k hk
  · simp (disch := omega) only [upd_n]; exact rp.1 k hk
  · simp (disch := omega) only [upd_n]; exact rp.2 k hk k' hk' hd
theorem st_cue (r : RR n h q b t kb K S F V x fc fb fp fq fn fl) {fa cv : Nat} (hq : q < 4) (hfa : fa ≤ 50) (hcv : cv ≤ 2) (fo : Int32) : RR n h (q + 1) b t kb K S (fun c => if c = q then fa else F c) (fun c => if c = q then cv else V c) (set2 (set2 (set2 (set2 x 16 (fun _ => x 16 0 + 1)) 17 (upd (x 17) q (nI fa))) 18 (upd (x 18) q (nI cv))) 19 (upd (x 19) q fo)) (upd fc 4 (nI (q + 1))) fb fp (upd (upd (upd fq q (nI fa)) (4 + q) (nI cv)) (8 + q) fo) fn fl := by
  obtain ⟨rh, rl, rr, rp, ⟨a1, a2, a3, a4, a5, a6, a7⟩, ⟨b1, b2, b3, b4, b5, b6, b7, b8, b9⟩, hb⟩ := r
  have hF : ∀ c, c < q → (if c = q then fa else F c) = F c := fun c hc => if_neg (by omega)
  have hV : ∀ c, c < q → (if c = q then cv else V c) = V c := fun c hc => if_neg (by omega)
  refine ⟨Rh_cg rh rfl rfl rfl rfl (upd_n (by decide)) (upd_n (by decide)) (upd_n (by decide)), Rl_cg rl rfl rfl rfl rfl rfl rfl rfl rfl rfl rfl rfl (upd_n (by decide)), rr, rp, ⟨by omega, ?_, upd_s, fun c hc => ?_, fun c hc => ?_, a6, fun c h1 h2 => a7 c (by omega) h2⟩, ⟨b1, (upd_n (by decide)).trans b2, b3, (upd_n (by decide)).trans b4, fun z => (upd_n (by decide)).trans (b5 z), b6, ⟨fun c hc => ?_, b7.2⟩, b8, fun k hk => ?_⟩, by omega⟩
  · show x 16 0 + 1 = nI (q + 1); rw [a2, nI_1]
  · show (if c = q then fa else F c) ≤ 50 ∧ (if c = q then cv else V c) ≤ 2 ∧ _ = nI (if c = q then fa else F c) ∧ upd (x 17) q (nI fa) c = nI (if c = q then fa else F c) ∧ _ = nI (if c = q then cv else V c) ∧ upd (x 18) q (nI cv) c = nI (if c = q then cv else V c) ∧ upd (x 19) q fo c = _
    by_cases e : c = q
    · subst e
      simp (disch := omega) only [upd_n, upd_s, if_true]
      exact ⟨hfa, hcv, (by first | rfl | trivial), (by first | rfl | trivial), (by first | rfl | trivial), (by first | rfl | trivial), (by first | rfl | trivial)⟩
    · rw [if_neg e, if_neg e]
      simp (disch := omega) only [upd_n]
      exact a4 c (by omega)
  · show fadeOk (upd (x 17) q (nI fa) c)
    by_cases e : c = q
    · subst e
      rw [upd_s]
      intro h0 h1
      have e2 : (nI fa * nI fa) = nI (fa * fa) := pk_mul fa fa
      rw [e2] at h1
      have h2 : 0 < fa := by
        rcases Nat.eq_zero_or_pos fa with z | z
        · subst z; exact absurd h0 (by decide)
        · exact z
      have h3 : fa * fa ≤ 50 * 50 := Nat.mul_le_mul hfa hfa
      exact nI_ne0 (Nat.mul_pos h2 h2) (by omega) h1
    · rw [upd_n e]; exact a5 c hc
  · show _ ∧ _ = nI (if c = q then fa else F c) ∧ _ = nI (if c = q then cv else V c) ∧ (if c = q then fa else F c) ≤ 50 ∧ (if c = q then cv else V c) ≤ 2 ∧ _
    rw [hF c (by omega), hV c (by omega)]; exact b7.1 c hc
  · rw [wst_cg (F := F) (V := V) (S := S) (S' := S) (fl := fl) (fl' := fl) (fun _ _ => rfl) (fun c hc => ⟨rfl, hF c (by omega), hV c (by omega)⟩) b (Nat.le_refl b)]
    exact b9 k hk
theorem st_name (r : RR n h q b t kb K S F V x fc fb fp fq fn fl) {cu i : Nat} (hcu : cu < q) (hi : i < n) {lv : Int32} (hlv : lv = -1 ∨ ∃ m, m ≤ 100 ∧ lv = nI m) : RR n h q b t kb K S F V (set2 x 20 (upd (x 20) (10 * cu + i) lv)) fc fb fp fq (upd fn (5 * cu + i) lv) fl := by
  obtain ⟨rh, rl, rr, rp, ⟨a1, a2, a3, a4, a5, a6, a7⟩, rs, hb⟩ := r
  have hn5 := rl.1
  refine ⟨Rh_cg rh rfl rfl rfl rfl rfl rfl rfl, Rl_cg rl rfl rfl rfl rfl rfl rfl rfl rfl rfl rfl rfl rfl, rr, rp, ⟨a1, a2, a3, a4, a5, fun c hc k hk => ?_, fun c h1 h2 k hk => ?_⟩, Rs_cg rs rfl rfl rfl rfl rfl rfl rfl rfl rfl, hb⟩
  · show upd (x 20) (10 * cu + i) lv (10 * c + k) = _ ∧ _
    by_cases e : c = cu ∧ k = i
    · obtain ⟨rfl, rfl⟩ := e
      rw [upd_s, upd_s]; exact ⟨rfl, hlv⟩
    · rw [upd_n (by omega), upd_n (by omega)]; exact a6 c hc k hk
  · rw [upd_n (by omega)]; exact a7 c h1 h2 k hk
theorem st_rewind (r : RR n h q b t kb K S F V x fc fb fp fq fn fl) : RR n h q 0 t kb K S F V (set2 (set2 x 22 (fun _ => -1)) 24 (fun k => if k < 10 then -1 else x 24 k)) (upd fc 5 (nI 0)) fb fp fq fn fl := by
  obtain ⟨rh, rl, rr, rp, rc, ⟨b1, b2, b3, b4, b5, b6, b7, b8, b9⟩, hb⟩ := r
  exact ⟨Rh_cg rh rfl rfl rfl rfl (upd_n (by decide)) (upd_n (by decide)) (upd_n (by decide)), Rl_cg rl rfl rfl rfl rfl rfl rfl rfl rfl rfl rfl rfl (upd_n (by decide)), rr, rp, Rc_cg rc rfl rfl rfl rfl rfl (upd_n (by decide)),
    ⟨(show (-1 : Int32) + 1 = nI 0 by decide), upd_s, b3, (upd_n (by decide)).trans b4, fun z => absurd z (Nat.lt_irrefl 0), fun c hc => absurd hc (Nat.not_lt_zero c), ⟨fun c hc => absurd hc (Nat.not_lt_zero c), fun c d _ hd => absurd hd (Nat.not_lt_zero d)⟩, fun c hc => absurd hc (Nat.not_lt_zero c), fun k hk => ⟨if_pos (show k < 10 by omega), fun z => absurd z (Nat.lt_irrefl 0)⟩⟩, Nat.zero_le q⟩
theorem st_go (r : RR n h q b t kb K S F V x fc fb fp fq fn fl) (ht : t < 2 ^ 30) : ∃ S', RR n h q (bgR (fc 7) fq fn (q - b) b fl).1 t kb K S' F V (fixS x (bnS (q - b) b x)) (fcR fc (fc 7) b (bgR (fc 7) fq fn (q - b) b fl).1) fb fp fq fn (bgR (fc 7) fq fn (q - b) b fl).2 := by
  obtain ⟨rh, rl, rr, rp, rc, rs, hb⟩ := r
  obtain ⟨S', r2⟩ := Rs_bn (T := fc 7) hb ht (q - b) b x S fl fc (by omega) rfl rc rs
  have hle := bgR_le (fc 7) fq fn (q - b) b fl
  rw [fixS_eq]
  have o := bnS_o (q - b) b x
  refine ⟨S', Rh_cg rh (o 4 (by omega)) (o 5 (by omega)) (o 6 (by omega)) (o 7 (by omega)) (fcR_o (by decide) (by decide)) (fcR_o (by decide) (by decide)) (fcR_o (by decide) (by decide)), Rl_cg rl (o 0 (by omega)) (o 1 (by omega)) (o 2 (by omega)) (o 3 (by omega)) (o 8 (by omega)) (o 9 (by omega)) (o 11 (by omega)) (o 12 (by omega)) (o 13 (by omega)) (o 14 (by omega)) (o 15 (by omega)) (fcR_o (by decide) (by decide)), rr, rp, Rc_cg rc (o 16 (by omega)) (o 17 (by omega)) (o 18 (by omega)) (o 19 (by omega)) (o 20 (by omega)) (fcR_o (by decide) (by decide)), r2, by omega⟩
/-- one tick goes by for the clock alone -/
theorem st_clk (r : RR n h q b t kb K S F V x fc fb fp fq fn fl) : RR n h q b (t + 1) kb K S F V (set2 x 21 (fun _ => x 21 0 + 1)) (upd fc 7 (nI (t + 1))) fb fp fq fn fl := by
  obtain ⟨rh, rl, rr, rp, rc, ⟨b1, b2, b3, b4, b5, b6, b7, b8, b9⟩, hb⟩ := r
  refine ⟨Rh_cg rh rfl rfl rfl rfl (upd_n (by decide)) (upd_n (by decide)) (upd_n (by decide)), Rl_cg rl rfl rfl rfl rfl rfl rfl rfl rfl rfl rfl rfl (upd_n (by decide)), rr, rp, Rc_cg rc rfl rfl rfl rfl rfl (upd_n (by decide)),
    ⟨b1, (upd_n (by decide)).trans b2, ?_, upd_s, fun z => (upd_n (by decide)).trans (b5 z), b6, ⟨fun c hc => ?_, b7.2⟩, b8, b9⟩, hb⟩
  · show x 21 0 + 1 = nI (t + 1); rw [b3, nI_1]
  · obtain ⟨c1, c2, c3, c4, c5, c6⟩ := b7.1 c hc
    exact ⟨c1, c2, c3, c4, c5, by omega⟩
theorem last_eq (r : RR n h q b t kb K S F V x fc fb fp fq fn fl) : (b = 0 ∧ x 22 0 = -1) ∨ (∃ c, b = c + 1 ∧ x 22 0 = nI c) := by
  obtain ⟨-, -, -, -, -, ⟨hb, -⟩, -⟩ := r
  have e : x 22 0 = nI b - 1 := by rw [← hb, Int32.add_sub_cancel]
  cases b with
  | zero => exact Or.inl ⟨rfl, by rw [e]; decide⟩
  | succ c => exact Or.inr ⟨c, rfl, by rw [e]; exact nI_pred c⟩
theorem due_eq (r : RR n h q b t kb K S F V x fc fb fp fq fn fl) : dueX x ↔ (0 < b ∧ 0 < fq (7 + b) ∧ nI (t + 1) - nI (S (b - 1)) = fq (7 + b)) := by
  have hl := last_eq r
  obtain ⟨-, -, -, -, ⟨hq4, hq, -, hcue, -⟩, ⟨-, -, h21, -, -, h23, -⟩, hbq⟩ := r
  unfold dueX
  rcases hl with ⟨rfl, h1⟩ | ⟨c, rfl, h1⟩
  · constructor
    · intro z; exact absurd (show x 22 0 < 0 by rw [h1]; decide) z.1
    · intro z; exact absurd z.1 (Nat.lt_irrefl 0)
  · obtain ⟨-, -, -, -, -, -, e19⟩ := hcue c (by omega)
    rw [h1, nI_clamp (by omega), e19, hq, h21, h23 c (by omega), nI_1, show c + 1 - 1 = c from rfl, show 7 + (c + 1) = 8 + c by omega]
    constructor
    · rintro ⟨-, -, z3, z4⟩; exact ⟨Nat.succ_pos c, z3, z4⟩
    · rintro ⟨-, z3, z4⟩; exact ⟨nI_pos (by omega), nI_lt (by omega) (by omega), z3, z4⟩
/-- the cues of one tick -/
theorem st_adv (r : RR n h q b t kb K S F V x fc fb fp fq fn fl) (ht : t + 1 < 2 ^ 30) :
    ((0 < b ∧ 0 < fq (7 + b) ∧ nI (t + 1) - nI (S (b - 1)) = fq (7 + b)) → ∃ S', RR n h q (bgR (nI (t + 1)) fq fn (q - b) b fl).1 (t + 1) kb K S' F V (advX x q) (fcR (upd fc 7 (nI (t + 1))) (nI (t + 1)) b (bgR (nI (t + 1)) fq fn (q - b) b fl).1) fb fp fq fn (bgR (nI (t + 1)) fq fn (q - b) b fl).2 ∧ advR x q (bOf x) = nI ((bgR (nI (t + 1)) fq fn (q - b) b fl).1 - b)) ∧
    (¬ (0 < b ∧ 0 < fq (7 + b) ∧ nI (t + 1) - nI (S (b - 1)) = fq (7 + b)) → RR n h q b (t + 1) kb K S F V (advX x q) (upd fc 7 (nI (t + 1))) fb fp fq fn fl ∧ advR x q (bOf x) = nI 0) := by
  have hd := due_eq r
  have r1 := st_clk r
  have hb4 : b ≤ 4 := by have := r.2.2.2.2.2.2; have := r.2.2.2.2.1.1; omega
  have hbo : bOf x = b := by unfold bOf; rw [r.2.2.2.2.2.1.1]; exact nI_clamp (by omega)
  have e7 : upd fc 7 (nI (t + 1)) 7 = nI (t + 1) := upd_s
  rw [advX_eq, hbo]
  constructor
  · intro z
    obtain ⟨S', r2⟩ := st_go r1 ht
    rw [e7, fixS_eq] at r2
    have ea : advS x q b = bnS (q - b) b (set2 x 21 (fun _ => x 21 0 + 1)) := by unfold advS; rw [if_pos (hd.mpr z)]
    rw [ea]
    refine ⟨S', r2, ?_⟩
    unfold advR
    rw [if_pos (hd.mpr z)]
    exact nI_dif r2.2.2.2.2.2.1.1 r.2.2.2.2.2.1.1 (bgR_le _ _ _ _ _ _).1
  · intro z
    have ea : advS x q b = set2 x 21 (fun _ => x 21 0 + 1) := by unfold advS; rw [if_neg (fun w => z (hd.mp w))]
    rw [ea]
    refine ⟨r1, ?_⟩
    unfold advR
    rw [if_neg (fun w => z (hd.mp w))]; rfl
/-- the burning of one tick -/
def fpB (fp : Nat → Int32) (L : Nat → Int32) (k : Nat) : Nat → Int32 := fun j => if 35 ≤ j ∧ j < 35 + k then fp j + (if nI 80 < L (j - 35) then nI 1 else nI 0) else fp j
theorem fpB_0 (fp L : Nat → Int32) : fp = fpB fp L 0 := by funext j; unfold fpB; rw [if_neg (by omega)]
theorem fpB_o {fp L : Nat → Int32} {k j : Nat} (hj : j < 35) : fpB fp L k j = fp j := by unfold fpB; rw [if_neg (by omega)]
theorem fpB_k {fp L : Nat → Int32} {k j : Nat} (hj : k ≤ j) : fpB fp L k (35 + j) = fp (35 + j) := by unfold fpB; rw [if_neg (by omega)]
theorem fpB_v (fp L : Nat → Int32) (k j : Nat) : fpB fp L k j = if 35 ≤ j ∧ j < 35 + k then fp j + (if nI 80 < L (j - 35) then nI 1 else nI 0) else fp j := rfl
theorem fpB_s (fp L : Nat → Int32) (k : Nat) {v : Int32} (hv : v = fp (35 + k) + (if nI 80 < L k then nI 1 else nI 0)) : upd (fpB fp L k) (35 + k) v = fpB fp L (k + 1) := by
  funext j
  by_cases e : j = 35 + k
  · subst e
    have h9 : fpB fp L (k + 1) (35 + k) = fp (35 + k) + (if nI 80 < L (35 + k - 35) then nI 1 else nI 0) := if_pos ⟨by omega, by omega⟩
    rw [upd_s, h9, hv, show 35 + k - 35 = k by omega]
  · rw [upd_n e, fpB_v, fpB_v]
    by_cases e2 : 35 ≤ j ∧ j < 35 + k
    · rw [if_pos e2, if_pos (show 35 ≤ j ∧ j < 35 + (k + 1) by omega)]
    · rw [if_neg e2, if_neg (show ¬ (35 ≤ j ∧ j < 35 + (k + 1)) by omega)]
theorem st_burn (r : RR n h q b t kb K S F V x fc fb fp fq fn fl) (ht : t < 2 ^ 30) : RR n h q b t kb K S F V (set2 x 2 (brnX x n)) fc fb (fpB fp (fun k => levN fp fl S F V t k b) n) fq fn fl := by
  obtain ⟨rh, rl, rr, rp, rc, rs, hb⟩ := r
  have hsh := fun k (hk : k < n) => sh_eq rl rr rp rh rc rs hb ht hk
  obtain ⟨a1, a2, a3, a4, a5, a6⟩ := rl
  have o : ∀ j, j < 35 → fpB fp (fun k => levN fp fl S F V t k b) n j = fp j := fun j hj => fpB_o hj
  refine ⟨Rh_cg rh rfl rfl rfl rfl rfl rfl rfl, ⟨a1, a2, a3, fun k hk => ?_, fun k hk => ?_, fun k h1 h2 => a6 k h1 h2⟩, ⟨fun k hk => ?_, fun k hk => ?_⟩, ⟨fun k hk => ?_, fun k hk k' hk' hd => ?_⟩, Rc_cg rc rfl rfl rfl rfl rfl rfl, Rs_cg rs rfl rfl rfl rfl rfl rfl rfl rfl rfl, hb⟩
  · rw [o k (by omega), o (5 + k) (by omega), o (10 + k) (by omega), o (20 + k) (by omega), o (25 + k) (by omega)]; exact a4 k hk
  · obtain ⟨b1, b2, b3⟩ := a5 k hk
    rw [o (15 + k) (by omega), o (30 + k) (by omega)]
    refine ⟨b1, b2, ?_⟩
    show (if k < n then x 2 k + (if 80 < shX x k then 1 else 0) else x 2 k) = _
    by_cases e : k < n
    · rw [if_pos e, hsh k e, b3]
      have h9 : fpB fp (fun k => levN fp fl S F V t k b) n (35 + k) = fp (35 + k) + (if nI 80 < levN fp fl S F V t (35 + k - 35) b then nI 1 else nI 0) := if_pos ⟨by omega, by omega⟩
      rw [h9, show 35 + k - 35 = k by omega]; rfl
    · rw [if_neg e, b3, fpB_k (by omega)]
  · rw [o (5 + k) (by omega), o (20 + k) (by omega), o (25 + k) (by omega)]; exact rr.1 k hk
  · rw [o (15 + k) (by omega), o (30 + k) (by omega)]; exact rr.2 k hk
  · rw [o (10 + k) (by omega)]; exact rp.1 k hk
  · rw [o (10 + k) (by omega), o (10 + k') (by omega), o (15 + k) (by omega), o (15 + k') (by omega)]; exact rp.2 k hk k' hk' hd
/-- a lamp stands in for another -/
def hvL (f : Nat → Int32) (d o : Nat) : Nat → (Nat → Int32) × Nat
  | 0 => (f, 0)
  | k + 1 => if (hvL f d o k).1 (5 * k + d) < 0 then hvL f d o k else (upd (upd (hvL f d o k).1 (5 * k + o) ((hvL f d o k).1 (5 * k + d))) (5 * k + d) (-1), (hvL f d o k).2 + 1)
theorem hvL_s (f : Nat → Int32) (d o k : Nat) : hvL f d o (k + 1) = if (hvL f d o k).1 (5 * k + d) < 0 then hvL f d o k else (upd (upd (hvL f d o k).1 (5 * k + o) ((hvL f d o k).1 (5 * k + d))) (5 * k + d) (-1), (hvL f d o k).2 + 1) := rfl
theorem hov_s (f : Nat → Int32) (d o k : Nat) : hov f d o (k + 1) = if (hov f d o k).1 (10 * k + d) = -1 then hov f d o k else (upd (upd (hov f d o k).1 (10 * k + o) ((hov f d o k).1 (10 * k + d))) (10 * k + d) (-1), (hov f d o k).2 + 1) := rfl
theorem hv_inv {g : Nat → Int32} {d o : Nat} (hd : d < 5) (ho : o < 5) (hdo : d ≠ o) (h0 : ∀ c, c < 4 → ∀ k, k < 5 → g (10 * c + k) = fn (5 * c + k) ∧ (fn (5 * c + k) = -1 ∨ ∃ m, m ≤ 100 ∧ fn (5 * c + k) = nI m)) (hz : ∀ c, q ≤ c → c < 4 → ∀ k, k < 5 → fn (5 * c + k) = -1) : ∀ j, j ≤ 4 →
    (∀ c, c < 4 → ∀ k, k < 5 → (hov g d o j).1 (10 * c + k) = (hvL fn d o j).1 (5 * c + k) ∧ ((hvL fn d o j).1 (5 * c + k) = -1 ∨ ∃ m, m ≤ 100 ∧ (hvL fn d o j).1 (5 * c + k) = nI m)) ∧ (∀ c, q ≤ c → c < 4 → ∀ k, k < 5 → (hvL fn d o j).1 (5 * c + k) = -1) ∧ (hov g d o j).2 = nI (hvL fn d o j).2 ∧ (hvL fn d o j).2 ≤ j
  | 0, _ => ⟨h0, hz, rfl, Nat.le_refl 0⟩
  | j + 1, hj => by
    obtain ⟨i1, i2, i3, i4⟩ := hv_inv hd ho hdo h0 hz j (by omega)
    obtain ⟨e1, e2⟩ := i1 j (by omega) d hd
    rw [hov_s, hvL_s, e1]
    rcases e2 with w | ⟨m, hm, w⟩
    · rw [if_pos w, if_pos (by rw [w]; decide)]; exact ⟨i1, i2, i3, by omega⟩
    · have hjq : j < q := by
        rcases Nat.lt_or_ge j q with z | z
        · exact z
        · have := i2 j z (by omega) d hd
          rw [w] at this
          exact absurd this (nI_m1 (by omega))
      rw [if_neg (by rw [w]; exact nI_m1 (by omega)), if_neg (by rw [w]; exact nI_pos (by omega))]
      refine ⟨fun c hc k hk => ?_, fun c h1 h2 k hk => ?_, ?_, ?_⟩
      · show upd (upd (hov g d o j).1 (10 * j + o) ((hvL fn d o j).1 (5 * j + d))) (10 * j + d) (-1) (10 * c + k) = upd (upd (hvL fn d o j).1 (5 * j + o) ((hvL fn d o j).1 (5 * j + d))) (5 * j + d) (-1) (5 * c + k) ∧ (upd (upd (hvL fn d o j).1 (5 * j + o) ((hvL fn d o j).1 (5 * j + d))) (5 * j + d) (-1) (5 * c + k) = -1 ∨ ∃ m, m ≤ 100 ∧ upd (upd (hvL fn d o j).1 (5 * j + o) ((hvL fn d o j).1 (5 * j + d))) (5 * j + d) (-1) (5 * c + k) = nI m)
        by_cases z1 : c = j ∧ k = d
        · obtain ⟨rfl, rfl⟩ := z1
          rw [upd_s, upd_s]; exact ⟨rfl, Or.inl rfl⟩
        · rw [upd_n (show 10 * c + k ≠ 10 * j + d by omega), upd_n (show 5 * c + k ≠ 5 * j + d by omega)]
          by_cases z2 : c = j ∧ k = o
          · obtain ⟨rfl, rfl⟩ := z2
            rw [upd_s, upd_s]; exact ⟨rfl, Or.inr ⟨m, hm, w⟩⟩
          · rw [upd_n (show 10 * c + k ≠ 10 * j + o by omega), upd_n (show 5 * c + k ≠ 5 * j + o by omega)]
            exact i1 c hc k hk
      · show upd (upd (hvL fn d o j).1 (5 * j + o) ((hvL fn d o j).1 (5 * j + d))) (5 * j + d) (-1) (5 * c + k) = -1
        rw [upd_n (by omega), upd_n (by omega)]
        exact i2 c h1 h2 k hk
      · show (hov g d o j).2 + 1 = nI ((hvL fn d o j).2 + 1)
        rw [i3, nI_1]
      · show (hvL fn d o j).2 + 1 ≤ j + 1
        omega
theorem st_standIn (r : RR n h q b t kb K S F V x fc fb fp fq fn fl) {d o : Nat} (hd : d < n) (ho : o < n) (hdo : d ≠ o) : RR n h q b t kb K S F V (set2 x 20 (hov (x 20) d o q).1) fc fb fp fq (hvL fn d o 4).1 fl ∧ (hov (x 20) d o q).2 = nI (hvL fn d o 4).2 := by
  obtain ⟨rh, rl, rr, rp, ⟨a1, a2, a3, a4, a5, a6, a7⟩, rs, hb⟩ := r
  have hn5 := rl.1
  have hq := hv_inv (d := d) (o := o) (by omega) (by omega) hdo a6 a7 q a1
  -- behind the last cue nothing is named
  have hst : ∀ j, q ≤ j → j ≤ 4 → hvL fn d o j = hvL fn d o q := fun j h1 h2 => by
    induction j with
    | zero => rw [show q = 0 by omega]
    | succ j ih =>
      by_cases e : q = j + 1
      · rw [e]
      · have := ih (by omega) (by omega)
        have hj := hv_inv (d := d) (o := o) (by omega) (by omega) hdo a6 a7 j (by omega)
        rw [hvL_s, if_pos (by rw [hj.2.1 j (by omega) (by omega) d (by omega)]; decide), this]
  rw [hst 4 a1 (Nat.le_refl 4)]
  exact ⟨⟨Rh_cg rh rfl rfl rfl rfl rfl rfl rfl, Rl_cg rl rfl rfl rfl rfl rfl rfl rfl rfl rfl rfl rfl rfl, rr, rp, ⟨a1, a2, a3, a4, a5, hq.1, hq.2.1⟩, Rs_cg rs rfl rfl rfl rfl rfl rfl rfl rfl rfl, hb⟩, hq.2.2.1⟩
end RELS
