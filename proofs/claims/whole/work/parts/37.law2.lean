/-! the law's entry: what the tables and the given words say of the classes -/
theorem lq_nf : ∀ q ∈ qNF, Cond.fieldLinkNest "PlotPatch" q.1 q.2.1 q.2.2.1 q.2.2.2 "PlotPatch" ∈ lw_tbl := by decide +kernel
theorem lq_nm : ∀ q ∈ qNM, Cond.methodLinkNest "PlotPatch" q.1 q.2 "PlotPatch" ∈ lw_tbl := by decide +kernel
theorem lq_st : ∀ q ∈ qST, Cond.stringRef "PlotPatch" q.1 q.2 ∈ lw_tbl := by decide +kernel
theorem lq_ca : ∀ q ∈ qCA, Cond.castable q q ∈ lw_tbl := by decide +kernel
theorem lq_de : ∀ q ∈ qDE, Cond.declares (Bundle.initS q) ∈ lw_tbl := by decide +kernel
theorem lq_nc : ∀ q ∈ qNC, Cond.not (Cond.castable q.1 q.2) ∈ flatC (Jvm.Cond.and given_1 narrow_1) := by decide +kernel
theorem lq_ex : ∀ q ∈ qST, Cond.exactly (Term.string "PlotPatch" q.1) "java/lang/String" ∈ flatC (Jvm.Cond.and given_1 narrow_1) := by decide +kernel
theorem lq_u0 : ∀ w ∈ u_ws RX0 TX0 4, w ∈ lw_tbl := by decide +kernel
theorem lq_u1 : ∀ w ∈ u_ws RX1 TX1 8, w ∈ lw_tbl := by decide +kernel
theorem lq_u2 : ∀ w ∈ u_ws RX2 TX2 11, w ∈ lw_tbl := by decide +kernel
theorem lq_u3 : ∀ w ∈ u_ws RX3 TX3 7, w ∈ lw_tbl := by decide +kernel
theorem lq_u4 : ∀ w ∈ u_ws RX4 TX4 28, w ∈ lw_tbl := by decide +kernel
theorem qE_start {args : Array Value} {s : State} (hts : ∀ w ∈ lw_tbl, w.before args s = true) (hn : ∀ c ∈ flatC (Jvm.Cond.and given_1 narrow_1), c.before args s = true) : ∃ (D : va_G) (ct : Nat → ClassId), qE D ct s := by
  obtain ⟨c0, i0, k0⟩ := u_known (C := RX0) (T := TX0) (N := 4) (n := 4) hts lq_u0 (hts (.instantiable RX0 4) (by decide +kernel))
  obtain ⟨c1, i1, k1⟩ := u_known (C := RX1) (T := TX1) (N := 8) (n := 8) hts lq_u1 (hts (.instantiable RX1 8) (by decide +kernel))
  obtain ⟨c2, i2, k2⟩ := u_known (C := RX2) (T := TX2) (N := 11) (n := 11) hts lq_u2 (hts (.instantiable RX2 11) (by decide +kernel))
  obtain ⟨c3, i3, k3⟩ := u_known (C := RX3) (T := TX3) (N := 7) (n := 7) hts lq_u3 (hts (.instantiable RX3 7) (by decide +kernel))
  obtain ⟨c4, i4, k4⟩ := u_known (C := RX4) (T := TX4) (N := 28) (n := 28) hts lq_u4 (hts (.instantiable RX4 28) (by decide +kernel))
  obtain ⟨a0, ka0, m0, f1, f2, f3⟩ := Cond.arrayClass_spec (hts (.arrayClass .int) (by decide +kernel))
  obtain ⟨a1, ka1, m1, g1, g2, g3⟩ := Cond.arrayClass_spec (hts (.arrayClass .boolean) (by decide +kernel))
  obtain ⟨a2, ka2, m2, h1, h2, h3⟩ := Cond.arrayClass_spec (hts (.arrayClass .long) (by decide +kernel))
  refine ⟨(fun c => [c0, c1, c2, c3, c4].getD c c0, fun c => [i0, i1, i2, i3, i4].getD c i0), fun j => [a0, a1, a2].getD j a0, ⟨?_, ?_⟩, ?_, ?_, ?_, ?_, ?_, ?_⟩
  · intro c q hq
    rcases c with _ | _ | _ | _ | _ | c
    · cases hq; exact k0
    · cases hq; exact k1
    · cases hq; exact k2
    · cases hq; exact k3
    · cases hq; exact k4
    · cases hq
  · intro k q hq
    rcases k with _ | _ | _ | k
    · cases hq; exact ⟨fun n z => ⟨fun k h => (by cases h), ka0, f2, m0, f3⟩, f1⟩
    · cases hq; exact ⟨fun n z => ⟨fun k h => (by cases h), ka1, g2, m1, g3⟩, g1⟩
    · cases hq; exact ⟨fun n z => ⟨fun k h => (by cases h), ka2, h2, m2, h3⟩, h1⟩
    · cases hq
  · exact fun q hq => va_Nw.of rfl (hts _ (lq_nf q hq))
  · exact fun q hq => va_Nw.of rfl (hts _ (lq_nm q hq))
  · intro q hq
    obtain ⟨a, c, cell, k, q1, -⟩ := Cond.exactly_spec (hn _ (lq_ex q hq))
    exact ⟨a, vk_R.of (hts _ (lq_st q hq)) q1⟩
  · exact fun q hq => va_Nc.of (hn _ (lq_nc q hq))
  · exact fun q hq => va_Nw.of rfl (hts _ (lq_ca q hq))
  · exact fun q hq => va_Nw.of rfl (hts _ (lq_de q hq))
