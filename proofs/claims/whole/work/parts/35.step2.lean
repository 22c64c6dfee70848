/-! the steps that throw nothing -/
section STEPS2
variable {n h q b t : Nat} {x y : Nat → Nat → Int32}
theorem st_rewind (r : RR n h q b t x y) : x 22 0 + 1 = y 23 0 ∧ RR n h q 0 t (set2 (set2 x 22 (fun _ => -1)) 24 (fun k => if k < 10 then -1 else x 24 k)) (set2 (set2 (set2 (set2 (set2 y 27 (fun _ => 0)) 23 (fun _ => 0)) 13 (fun j => if j < n then 0 else y 13 j)) 14 (fun j => if j < n then 0 else y 14 j)) 16 (fun j => if j < n then 0 else y 16 j)) := by
  obtain ⟨hn10, hlt, hq8, hbq, hn, hnM, hh, hhM, hq, hqM, hb, hbM, hti, hTM, e1, e2, e3, e5, e6, e7, e11, e17, e18, e19, e20, hbars, hlen, hkind, hlow, hhigh, hfst, hplc, hnam, hcur, hrul, hbeg⟩ := r
  refine ⟨by rw [hb, hbM], hn10, hlt, hq8, Nat.zero_le _, hn, hnM, hh, hhM, hq, hqM, ?_, rfl, hti, ⟨hTM.1, hTM.2.1, ?_, hTM.2.2.2⟩, e1, e2, e3, e5, e6, e7, e11, e17, e18, e19, e20, hbars, hlen, hkind, hlow, ?_, hfst, hplc, hnam, hcur, ?_, fun z => absurd z (Nat.lt_irrefl 0)⟩
  · show (-1 : Int32) + 1 = nI 0
    decide
  · intro k hk
    show ∃ f, f ≤ 50 ∧ (if k < n then 0 else y 16 k) = nI f
    by_cases e : k < n
    · exact ⟨0, Nat.zero_le _, by rw [if_pos e]; rfl⟩
    · rw [if_neg e]; exact hTM.2.2.1 k hk
  · intro k h1 h2
    obtain ⟨g1, g2, g3, g4, g5, g6, g7⟩ := hhigh k h1 h2
    refine ⟨g1, g2, g3, if_pos h2, ?_, ?_, ?_⟩
    · show (if k < n then 0 else y 13 k) = 0
      rw [if_neg (by omega), g5]
    · show (if k < n then 0 else y 14 k) = 0
      rw [if_neg (by omega), g6]
    · show (if k < n then 0 else y 16 k) = 0
      rw [if_neg (by omega), g7]
  · intro k hk
    left
    show (if k < 10 then -1 else x 24 k) = -1 ∧ (if k < n then 0 else y 13 k) = 0 ∧ (if k < n then 0 else y 14 k) = 0 ∧ (if k < n then 0 else y 16 k) = 0
    by_cases e : k < n
    · rw [if_pos hk, if_pos e, if_pos e, if_pos e]; exact ⟨rfl, rfl, rfl, rfl⟩
    · obtain ⟨g1, g2, g3, g4, g5, g6, g7⟩ := hhigh k (by omega) hk
      rw [if_pos hk, if_neg e, if_neg e, if_neg e]; exact ⟨rfl, g5, g6, g7⟩
theorem st_burnt (r : RR n h q b t x y) : orf (fun k => if 30 ≤ x 2 k then (1 <<< (nI k &&& 31) : Int32) else 0) n = orf (fun k => if 30 ≤ y 12 k then (1 <<< (nI k &&& 31) : Int32) else 0) n := by
  obtain ⟨hn10, hlt, hq8, hbq, hn, hnM, hh, hhM, hq, hqM, hb, hbM, hti, hTM, e1, e2, e3, -⟩ := r
  exact orf_congr (fun k _ => by rw [e2])
end STEPS2
