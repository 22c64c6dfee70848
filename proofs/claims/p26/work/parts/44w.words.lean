/-! the law's words are the tables' words -/
theorem in_wsL_law0_r1 : ∀ w ∈ wsL_law0_r1, w ∈ lw_tbl := by decide +kernel
theorem in_wsL_law0_r2 : ∀ w ∈ wsL_law0_r2, w ∈ lw_tbl := by decide +kernel
theorem in_wsL_law0_r3 : ∀ w ∈ wsL_law0_r3, w ∈ lw_tbl := by decide +kernel
theorem in_wsL_law0_r4_0 : ∀ w ∈ ([Cond.code yL_some cL_some 2 (some .int), Cond.methodLink RL 151 yL_rigs, Cond.static yL_rigs] : List Cond), w ∈ lw_tbl := by decide +kernel
set_option maxRecDepth 100000 in
theorem in_wsL_law0_r4_1 : ∀ w ∈ ([Cond.code yL_rigs cL_rigs 14 (some .boolean)] : List Cond), w ∈ lw_tbl := fun w hw => by rw [List.mem_singleton.mp hw]; exact List.mem_append_right _ (List.mem_append_left _ ((List.mem_of_getElem? (i := 160) rfl)))
theorem in_wsL_law0_r4_2 : ∀ w ∈ ([Cond.methodLink RL 101 yL_hangs, Cond.static yL_hangs, Cond.codeWith yL_hangs cL_hangs 6 (some .int) [(0, 23, 24, 36), (0, 23, 29, 38), (0, 23, 34, 40)], Cond.classLink RL 36 "java/lang/IndexOutOfBoundsException", Cond.classLink RL 38 "java/lang/IllegalArgumentException", Cond.classLink RL 40 "java/lang/IllegalStateException", Cond.methodLink RL 27 yX3_bar, Cond.instanceMethod yX3_bar, Cond.selects RX3 yX3_bar yX3_bar, Cond.code yX3_bar cX3_bar 4 (some .int), Cond.classLink RX3 45 "java/lang/IndexOutOfBoundsException", Cond.initialized "java/lang/IndexOutOfBoundsException", Cond.classLink RX3 59 "java/lang/IllegalStateException", Cond.initialized "java/lang/IllegalStateException", Cond.methodLink RX3 52 yX3_checkRange, Cond.static yX3_checkRange, Cond.code yX3_checkRange cX3_checkRange 3 none, Cond.classLink RX3 191 "java/lang/IllegalArgumentException", Cond.initialized "java/lang/IllegalArgumentException", Cond.instanceMethod yX1_addBar] : List Cond), w ∈ lw_tbl := by decide +kernel
theorem in_wsL_law0_r4 : ∀ w ∈ wsL_law0_r4, w ∈ lw_tbl := by
  show ∀ w ∈ ([Cond.code yL_some cL_some 2 (some .int), Cond.methodLink RL 151 yL_rigs, Cond.static yL_rigs] : List Cond) ++ (([Cond.code yL_rigs cL_rigs 14 (some .boolean)] : List Cond) ++ (([Cond.methodLink RL 101 yL_hangs, Cond.static yL_hangs, Cond.codeWith yL_hangs cL_hangs 6 (some .int) [(0, 23, 24, 36), (0, 23, 29, 38), (0, 23, 34, 40)], Cond.classLink RL 36 "java/lang/IndexOutOfBoundsException", Cond.classLink RL 38 "java/lang/IllegalArgumentException", Cond.classLink RL 40 "java/lang/IllegalStateException", Cond.methodLink RL 27 yX3_bar, Cond.instanceMethod yX3_bar, Cond.selects RX3 yX3_bar yX3_bar, Cond.code yX3_bar cX3_bar 4 (some .int), Cond.classLink RX3 45 "java/lang/IndexOutOfBoundsException", Cond.initialized "java/lang/IndexOutOfBoundsException", Cond.classLink RX3 59 "java/lang/IllegalStateException", Cond.initialized "java/lang/IllegalStateException", Cond.methodLink RX3 52 yX3_checkRange, Cond.static yX3_checkRange, Cond.code yX3_checkRange cX3_checkRange 3 none, Cond.classLink RX3 191 "java/lang/IllegalArgumentException", Cond.initialized "java/lang/IllegalArgumentException", Cond.instanceMethod yX1_addBar] : List Cond))), w ∈ lw_tbl
  exact List.forall_mem_append.mpr ⟨in_wsL_law0_r4_0, List.forall_mem_append.mpr ⟨in_wsL_law0_r4_1, in_wsL_law0_r4_2⟩⟩
theorem in_wsL_law0_r5 : ∀ w ∈ wsL_law0_r5, w ∈ lw_tbl := by decide +kernel
theorem in_wsL_law0_r6 : ∀ w ∈ wsL_law0_r6, w ∈ lw_tbl := by decide +kernel
theorem in_wsL_law0_r7 : ∀ w ∈ wsL_law0_r7, w ∈ lw_tbl := by decide +kernel
theorem in_wsL_law0_r8 : ∀ w ∈ wsL_law0_r8, w ∈ lw_tbl := by decide +kernel
theorem in_wsL_law0_r9 : ∀ w ∈ wsL_law0_r9, w ∈ lw_tbl := by decide +kernel
theorem in_wsL_law0_r10 : ∀ w ∈ wsL_law0_r10, w ∈ lw_tbl := by decide +kernel
theorem in_wsL_law0_r11 : ∀ w ∈ wsL_law0_r11, w ∈ lw_tbl := by decide +kernel
theorem in_wsL_law0_r12 : ∀ w ∈ wsL_law0_r12, w ∈ lw_tbl := by decide +kernel
theorem in_wsL_law0_r13_0 : ∀ w ∈ ([Cond.methodLink RX2 56 yX2_cell, Cond.methodLink RL 155 yL_plays, Cond.static yL_plays] : List Cond), w ∈ lw_tbl := by decide +kernel
set_option maxRecDepth 100000 in
theorem in_wsL_law0_r13_1 : ∀ w ∈ ([Cond.code yL_plays cL_plays 15 (some .boolean)] : List Cond), w ∈ lw_tbl := fun w hw => by rw [List.mem_singleton.mp hw]; exact List.mem_append_right _ (List.mem_append_right _ (List.mem_append_right _ ((List.mem_of_getElem? (i := 14) rfl))))
theorem in_wsL_law0_r13_2 : ∀ w ∈ ([Cond.methodLink RL 125 yL_begins, Cond.static yL_begins, Cond.code yL_begins cL_begins 7 (some .int), Cond.methodLink RL 129 yL_goes, Cond.static yL_goes, Cond.codeWith yL_goes cL_goes 2 (some .int) [(0, 4, 5, 40)], Cond.methodLink RL 61 yX3_go, Cond.instanceMethod yX3_go, Cond.selects RX3 yX3_go yX3_go, Cond.code yX3_go cX3_go 1 (some .int), Cond.instanceMethod yX2_beginNext, Cond.selects RX2 yX2_beginNext yX2_beginNext, Cond.code yX2_beginNext cX2_beginNext 3 (some .int), Cond.methodLink RX2 52 yX2_begin, Cond.instanceMethod yX2_begin, Cond.selects RX2 yX2_begin yX2_begin, Cond.code yX2_begin cX2_begin 4 none, Cond.methodLink RX2 60 yX2_wantedLevel, Cond.methodLink RL 133 yL_level, Cond.static yL_level] : List Cond), w ∈ lw_tbl := by decide +kernel
theorem in_wsL_law0_r13 : ∀ w ∈ wsL_law0_r13, w ∈ lw_tbl := by
  show ∀ w ∈ ([Cond.methodLink RX2 56 yX2_cell, Cond.methodLink RL 155 yL_plays, Cond.static yL_plays] : List Cond) ++ (([Cond.code yL_plays cL_plays 15 (some .boolean)] : List Cond) ++ (([Cond.methodLink RL 125 yL_begins, Cond.static yL_begins, Cond.code yL_begins cL_begins 7 (some .int), Cond.methodLink RL 129 yL_goes, Cond.static yL_goes, Cond.codeWith yL_goes cL_goes 2 (some .int) [(0, 4, 5, 40)], Cond.methodLink RL 61 yX3_go, Cond.instanceMethod yX3_go, Cond.selects RX3 yX3_go yX3_go, Cond.code yX3_go cX3_go 1 (some .int), Cond.instanceMethod yX2_beginNext, Cond.selects RX2 yX2_beginNext yX2_beginNext, Cond.code yX2_beginNext cX2_beginNext 3 (some .int), Cond.methodLink RX2 52 yX2_begin, Cond.instanceMethod yX2_begin, Cond.selects RX2 yX2_begin yX2_begin, Cond.code yX2_begin cX2_begin 4 none, Cond.methodLink RX2 60 yX2_wantedLevel, Cond.methodLink RL 133 yL_level, Cond.static yL_level] : List Cond))), w ∈ lw_tbl
  exact List.forall_mem_append.mpr ⟨in_wsL_law0_r13_0, List.forall_mem_append.mpr ⟨in_wsL_law0_r13_1, in_wsL_law0_r13_2⟩⟩
theorem in_wsL_law0_r14 : ∀ w ∈ wsL_law0_r14, w ∈ lw_tbl := by decide +kernel
theorem in_wsL_law0_r15_0 : ∀ w ∈ ([Cond.selects RX3 yX3_gap yX3_gap, Cond.code yX3_gap cX3_gap 2 (some .int), Cond.instanceMethod yX0_lowestGap, Cond.selects RX0 yX0_lowestGap yX0_lowestGap, Cond.code yX0_lowestGap cX0_lowestGap 4 (some .int), Cond.methodLink RL 140 yX3_rewind, Cond.instanceMethod yX3_rewind, Cond.selects RX3 yX3_rewind yX3_rewind, Cond.code yX3_rewind cX3_rewind 1 (some .int), Cond.instanceMethod yX2_reset, Cond.selects RX2 yX2_reset yX2_reset, Cond.code yX2_reset cX2_reset 2 (some .int), Cond.methodLink RL 159 yL_asks, Cond.static yL_asks] : List Cond), w ∈ lw_tbl := by decide +kernel
set_option maxRecDepth 100000 in
theorem in_wsL_law0_r15_1 : ∀ w ∈ ([Cond.code yL_asks cL_asks 15 (some .boolean)] : List Cond), w ∈ lw_tbl := fun w hw => by rw [List.mem_singleton.mp hw]; exact List.mem_append_right _ (List.mem_append_right _ (List.mem_append_right _ ((List.mem_of_getElem? (i := 78) rfl))))
theorem in_wsL_law0_r15_2 : ∀ w ∈ ([Cond.methodLink RL 143 yX3_burnt, Cond.instanceMethod yX3_burnt, Cond.selects RX3 yX3_burnt yX3_burnt, Cond.code yX3_burnt cX3_burnt 3 (some .int)] : List Cond), w ∈ lw_tbl := by decide +kernel
theorem in_wsL_law0_r15 : ∀ w ∈ wsL_law0_r15, w ∈ lw_tbl := by
  show ∀ w ∈ ([Cond.selects RX3 yX3_gap yX3_gap, Cond.code yX3_gap cX3_gap 2 (some .int), Cond.instanceMethod yX0_lowestGap, Cond.selects RX0 yX0_lowestGap yX0_lowestGap, Cond.code yX0_lowestGap cX0_lowestGap 4 (some .int), Cond.methodLink RL 140 yX3_rewind, Cond.instanceMethod yX3_rewind, Cond.selects RX3 yX3_rewind yX3_rewind, Cond.code yX3_rewind cX3_rewind 1 (some .int), Cond.instanceMethod yX2_reset, Cond.selects RX2 yX2_reset yX2_reset, Cond.code yX2_reset cX2_reset 2 (some .int), Cond.methodLink RL 159 yL_asks, Cond.static yL_asks] : List Cond) ++ (([Cond.code yL_asks cL_asks 15 (some .boolean)] : List Cond) ++ (([Cond.methodLink RL 143 yX3_burnt, Cond.instanceMethod yX3_burnt, Cond.selects RX3 yX3_burnt yX3_burnt, Cond.code yX3_burnt cX3_burnt 3 (some .int)] : List Cond))), w ∈ lw_tbl
  exact List.forall_mem_append.mpr ⟨in_wsL_law0_r15_0, List.forall_mem_append.mpr ⟨in_wsL_law0_r15_1, in_wsL_law0_r15_2⟩⟩
theorem in_wsX00 : ∀ w ∈ wsX00, w ∈ lw_tbl := by decide +kernel
theorem in_wsX10 : ∀ w ∈ wsX10, w ∈ lw_tbl := by decide +kernel
theorem in_wsX20 : ∀ w ∈ wsX20, w ∈ lw_tbl := by decide +kernel
theorem in_wsX30 : ∀ w ∈ wsX30, w ∈ lw_tbl := by decide +kernel
set_option maxRecDepth 20000 in
theorem wsL_law_in0 : ∀ w ∈ wsL_law0, w ∈ lw_tbl := List.forall_mem_append.mpr ⟨List.forall_mem_append.mpr ⟨List.forall_mem_append.mpr ⟨List.forall_mem_append.mpr ⟨List.forall_mem_append.mpr ⟨List.forall_mem_append.mpr ⟨in_wsL_law0_r1, List.forall_mem_append.mpr ⟨in_wsL_law0_r2, List.forall_mem_append.mpr ⟨in_wsL_law0_r3, List.forall_mem_append.mpr ⟨in_wsL_law0_r4, List.forall_mem_append.mpr ⟨in_wsL_law0_r5, List.forall_mem_append.mpr ⟨in_wsL_law0_r6, List.forall_mem_append.mpr ⟨in_wsL_law0_r7, List.forall_mem_append.mpr ⟨in_wsL_law0_r8, List.forall_mem_append.mpr ⟨in_wsL_law0_r9, List.forall_mem_append.mpr ⟨in_wsL_law0_r10, List.forall_mem_append.mpr ⟨in_wsL_law0_r11, List.forall_mem_append.mpr ⟨in_wsL_law0_r12, List.forall_mem_append.mpr ⟨in_wsL_law0_r13, List.forall_mem_append.mpr ⟨in_wsL_law0_r14, in_wsL_law0_r15⟩⟩⟩⟩⟩⟩⟩⟩⟩⟩⟩⟩⟩⟩, in_wsX30⟩, in_wsX10⟩, in_wsX00⟩, in_wsX20⟩, (fun w h => absurd h List.not_mem_nil)⟩
theorem wsL_law_x0 : ∀ w ∈ (vx_atS RX3 49 "java/lang/IndexOutOfBoundsException" ["java/lang/RuntimeException", "java/lang/Exception"]).filter goodWord, w ∈ lw_tbl := by decide +kernel
theorem wsL_law_x1 : ∀ w ∈ (vx_atS RX3 63 "java/lang/IllegalStateException" ["java/lang/RuntimeException", "java/lang/Exception"]).filter goodWord, w ∈ lw_tbl := by decide +kernel
theorem wsL_law_x2 : ∀ w ∈ (vx_atS RX3 195 "java/lang/IllegalArgumentException" ["java/lang/RuntimeException", "java/lang/Exception"]).filter goodWord, w ∈ lw_tbl := by decide +kernel
theorem wsL_law_in : ∀ w ∈ wsL_law, w ∈ lw_tbl := fun w h => (List.mem_append.mp h).elim (fun h => (List.mem_append.mp h).elim (fun h => (List.mem_append.mp h).elim (fun h => wsL_law_in0 w h) (fun h => wsL_law_x0 w h)) (fun h => wsL_law_x1 w h)) (fun h => wsL_law_x2 w h)
theorem lq_nf : ∀ q ∈ qNF, Cond.fieldLinkNest "PlotPatch" q.1 q.2.1 q.2.2.1 q.2.2.2 "PlotPatch" ∈ lw_tbl := by decide +kernel
theorem lq_nm : ∀ q ∈ qNM, Cond.methodLinkNest "PlotPatch" q.1 q.2 "PlotPatch" ∈ lw_tbl := by decide +kernel
theorem lq_st : ∀ q ∈ qST, Cond.stringRef "PlotPatch" q.1 q.2 ∈ lw_tbl := by decide +kernel
theorem lq_ca : ∀ q ∈ qCA, Cond.castable q q ∈ lw_tbl := by decide +kernel
theorem lq_de : ∀ q ∈ qDE, Cond.declares (Bundle.initS q) ∈ lw_tbl := by decide +kernel
theorem lq_nc : ∀ q ∈ qNC, Cond.not (Cond.castable q.1 q.2) ∈ flatC (Jvm.Cond.and given_1 narrow_1) := by decide +kernel
theorem lq_ex : ∀ q ∈ qST, Cond.exactly (Term.string "PlotPatch" q.1) "java/lang/String" ∈ flatC (Jvm.Cond.and given_1 narrow_1) := by decide +kernel
theorem lq_u0 : ∀ w ∈ u_ws RX0 TX0 4, w ∈ lw_tbl := by decide +kernel
theorem lq_u1 : ∀ w ∈ u_ws RX1 TX1 8, w ∈ lw_tbl := by decide +kernel
theorem lq_u2 : ∀ w ∈ u_ws RX2 TX2 11, w ∈ lw_tbl := by decide +kernel
theorem lq_u3 : ∀ w ∈ u_ws RX3 TX3 7, w ∈ lw_tbl := by decide +kernel
theorem qE_start {args : Array Value} {s : State} (hts : ∀ w ∈ lw_tbl, w.before args s = true) (hn : ∀ c ∈ flatC (Jvm.Cond.and given_1 narrow_1), c.before args s = true) : ∃ (D : va_G) (ct : Nat → ClassId), qE D ct s := by
  obtain ⟨c0, i0, k0⟩ := u_known (C := RX0) (T := TX0) (N := 4) (n := 4) hts lq_u0 (hts (.instantiable RX0 4) (by decide +kernel))
  obtain ⟨c1, i1, k1⟩ := u_known (C := RX1) (T := TX1) (N := 8) (n := 8) hts lq_u1 (hts (.instantiable RX1 8) (by decide +kernel))
  obtain ⟨c2, i2, k2⟩ := u_known (C := RX2) (T := TX2) (N := 11) (n := 11) hts lq_u2 (hts (.instantiable RX2 11) (by decide +kernel))
  obtain ⟨c3, i3, k3⟩ := u_known (C := RX3) (T := TX3) (N := 7) (n := 7) hts lq_u3 (hts (.instantiable RX3 7) (by decide +kernel))
  obtain ⟨a0, ka0, m0, f1, f2, f3⟩ := Cond.arrayClass_spec (hts (.arrayClass .int) (by decide +kernel))
  obtain ⟨a1, ka1, m1, g1, g2, g3⟩ := Cond.arrayClass_spec (hts (.arrayClass .boolean) (by decide +kernel))
  refine ⟨(fun c => [c0, c1, c2, c3].getD c c0, fun c => [i0, i1, i2, i3].getD c i0), fun j => [a0, a1].getD j a0, ⟨?_, ?_⟩, ?_, ?_, ?_, ?_, ?_, ?_⟩
  · intro c q hq
    rcases c with _ | _ | _ | _ | c
    · cases hq; exact k0
    · cases hq; exact k1
    · cases hq; exact k2
    · cases hq; exact k3
    · cases hq
  · intro k q hq
    rcases k with _ | _ | k
    · cases hq; exact ⟨fun n z => ⟨fun k h => (by cases h), ka0, f2, m0, f3⟩, f1⟩
    · cases hq; exact ⟨fun n z => ⟨fun k h => (by cases h), ka1, g2, m1, g3⟩, g1⟩
    · cases hq
  · exact fun q hq => va_Nw.of rfl (hts _ (lq_nf q hq))
  · exact fun q hq => va_Nw.of rfl (hts _ (lq_nm q hq))
  · intro q hq
    obtain ⟨a, c, cell, k, q1, -⟩ := Cond.exactly_spec (hn _ (lq_ex q hq))
    exact ⟨a, vk_R.of (hts _ (lq_st q hq)) q1⟩
  · exact fun q hq => va_Nc.of (hn _ (lq_nc q hq))
  · exact fun q hq => va_Nw.of rfl (hts _ (lq_ca q hq))
  · exact fun q hq => va_Nw.of rfl (hts _ (lq_de q hq))

