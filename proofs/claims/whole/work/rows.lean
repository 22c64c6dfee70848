section
-- ===== PART A: goes FIRST, ahead of the names: the tables' words, and 'selects' of the private methods out of them =====
/-- a private method of a class that the tables say can be made, by its rows of tables_1 -/
def lw_okq (q : MethodName × Nat) : Prop := (q.1.cls ≠ "java/lang/invoke/MethodHandle" ∧ q.1.cls ≠ "java/lang/invoke/VarHandle") ∧ Cond.instantiable q.1.cls q.2 ∈ tables_1 ∧ Cond.privateMethod q.1 ∈ tables_1 ∧ Cond.instanceMethod q.1 ∈ tables_1
theorem lw_p0 : lw_okq (⟨"PlotPatch$Rig", "changeHouse", "()I"⟩, 8) := ⟨⟨by decide +kernel, by decide +kernel⟩, List.mem_of_getElem? (i := 23) (by decide +kernel), List.mem_of_getElem? (i := 157) (by decide +kernel), List.mem_of_getElem? (i := 158) (by decide +kernel)⟩
theorem lw_p1 : lw_okq (⟨"PlotPatch$Rig", "hangAgain", "(II)Z"⟩, 8) := ⟨⟨by decide +kernel, by decide +kernel⟩, List.mem_of_getElem? (i := 23) (by decide +kernel), List.mem_of_getElem? (i := 161) (by decide +kernel), List.mem_of_getElem? (i := 162) (by decide +kernel)⟩
theorem lw_p2 : lw_okq (⟨"PlotPatch$Rig", "hasBar", "(I)Z"⟩, 8) := ⟨⟨by decide +kernel, by decide +kernel⟩, List.mem_of_getElem? (i := 23) (by decide +kernel), List.mem_of_getElem? (i := 165) (by decide +kernel), List.mem_of_getElem? (i := 166) (by decide +kernel)⟩
theorem lw_p3 : lw_okq (⟨"PlotPatch$Rig", "bears", "(II)Z"⟩, 8) := ⟨⟨by decide +kernel, by decide +kernel⟩, List.mem_of_getElem? (i := 23) (by decide +kernel), List.mem_of_getElem? (i := 169) (by decide +kernel), List.mem_of_getElem? (i := 170) (by decide +kernel)⟩
theorem lw_p4 : lw_okq (⟨"PlotPatch$Rig", "weightOn", "(I)I"⟩, 8) := ⟨⟨by decide +kernel, by decide +kernel⟩, List.mem_of_getElem? (i := 23) (by decide +kernel), List.mem_of_getElem? (i := 173) (by decide +kernel), List.mem_of_getElem? (i := 174) (by decide +kernel)⟩
theorem lw_p5 : lw_okq (⟨"PlotPatch$Rig", "nearestPlace", "(III)I"⟩, 8) := ⟨⟨by decide +kernel, by decide +kernel⟩, List.mem_of_getElem? (i := 23) (by decide +kernel), List.mem_of_getElem? (i := 180) (by decide +kernel), List.mem_of_getElem? (i := 181) (by decide +kernel)⟩
theorem lw_p6 : lw_okq (⟨"PlotPatch$Rig", "hasPlace", "(II)Z"⟩, 8) := ⟨⟨by decide +kernel, by decide +kernel⟩, List.mem_of_getElem? (i := 23) (by decide +kernel), List.mem_of_getElem? (i := 184) (by decide +kernel), List.mem_of_getElem? (i := 185) (by decide +kernel)⟩
theorem lw_p7 : lw_okq (⟨"PlotPatch$Rig", "isClear", "(III)Z"⟩, 8) := ⟨⟨by decide +kernel, by decide +kernel⟩, List.mem_of_getElem? (i := 23) (by decide +kernel), List.mem_of_getElem? (i := 188) (by decide +kernel), List.mem_of_getElem? (i := 189) (by decide +kernel)⟩
theorem lw_p8 : lw_okq (⟨"PlotPatch$Rig", "put", "(III)V"⟩, 8) := ⟨⟨by decide +kernel, by decide +kernel⟩, List.mem_of_getElem? (i := 23) (by decide +kernel), List.mem_of_getElem? (i := 195) (by decide +kernel), List.mem_of_getElem? (i := 196) (by decide +kernel)⟩
theorem lw_p9 : lw_okq (⟨"PlotPatch$Show", "reset", "()I"⟩, 11) := ⟨⟨by decide +kernel, by decide +kernel⟩, List.mem_of_getElem? (i := 87) (by decide +kernel), List.mem_of_getElem? (i := 203) (by decide +kernel), List.mem_of_getElem? (i := 204) (by decide +kernel)⟩
theorem lw_p10 : lw_okq (⟨"java/lang/Throwable", "fillInStackTrace", "(I)Ljava/lang/Throwable;"⟩, 6) := ⟨⟨by decide +kernel, by decide +kernel⟩, List.mem_of_getElem? (i := 259) (by decide +kernel), List.mem_of_getElem? (i := 257) (by decide +kernel), List.mem_of_getElem? (i := 258) (by decide +kernel)⟩
theorem lw_p11 : lw_okq (⟨"PlotPatch$Rig", "addBar", "(III)I"⟩, 8) := ⟨⟨by decide +kernel, by decide +kernel⟩, List.mem_of_getElem? (i := 23) (by decide +kernel), List.mem_of_getElem? (i := 324) (by decide +kernel), List.mem_of_getElem? (i := 325) (by decide +kernel)⟩
theorem lw_p12 : lw_okq (⟨"PlotPatch", "checkLamp", "(I)V"⟩, 7) := ⟨⟨by decide +kernel, by decide +kernel⟩, List.mem_of_getElem? (i := 15) (by decide +kernel), List.mem_of_getElem? (i := 352) (by decide +kernel), List.mem_of_getElem? (i := 353) (by decide +kernel)⟩
theorem lw_p13 : lw_okq (⟨"PlotPatch", "checkBar", "(I)V"⟩, 7) := ⟨⟨by decide +kernel, by decide +kernel⟩, List.mem_of_getElem? (i := 15) (by decide +kernel), List.mem_of_getElem? (i := 357) (by decide +kernel), List.mem_of_getElem? (i := 358) (by decide +kernel)⟩
theorem lw_p14 : lw_okq (⟨"PlotPatch$Rig", "hangs", "(I)Z"⟩, 8) := ⟨⟨by decide +kernel, by decide +kernel⟩, List.mem_of_getElem? (i := 23) (by decide +kernel), List.mem_of_getElem? (i := 377) (by decide +kernel), List.mem_of_getElem? (i := 378) (by decide +kernel)⟩
theorem lw_p15 : lw_okq (⟨"PlotPatch$Rig", "ranked", "(II)I"⟩, 8) := ⟨⟨by decide +kernel, by decide +kernel⟩, List.mem_of_getElem? (i := 23) (by decide +kernel), List.mem_of_getElem? (i := 388) (by decide +kernel), List.mem_of_getElem? (i := 389) (by decide +kernel)⟩
def lw_privs_1 : List (MethodName × Nat) := [(⟨"PlotPatch$Rig", "changeHouse", "()I"⟩, 8), (⟨"PlotPatch$Rig", "hangAgain", "(II)Z"⟩, 8), (⟨"PlotPatch$Rig", "hasBar", "(I)Z"⟩, 8), (⟨"PlotPatch$Rig", "bears", "(II)Z"⟩, 8), (⟨"PlotPatch$Rig", "weightOn", "(I)I"⟩, 8), (⟨"PlotPatch$Rig", "nearestPlace", "(III)I"⟩, 8), (⟨"PlotPatch$Rig", "hasPlace", "(II)Z"⟩, 8), (⟨"PlotPatch$Rig", "isClear", "(III)Z"⟩, 8), (⟨"PlotPatch$Rig", "put", "(III)V"⟩, 8), (⟨"PlotPatch$Show", "reset", "()I"⟩, 11), (⟨"java/lang/Throwable", "fillInStackTrace", "(I)Ljava/lang/Throwable;"⟩, 6), (⟨"PlotPatch$Rig", "addBar", "(III)I"⟩, 8), (⟨"PlotPatch", "checkLamp", "(I)V"⟩, 7), (⟨"PlotPatch", "checkBar", "(I)V"⟩, 7), (⟨"PlotPatch$Rig", "hangs", "(I)Z"⟩, 8), (⟨"PlotPatch$Rig", "ranked", "(II)I"⟩, 8)]
theorem lw_r1 : ∀ q ∈ lw_privs_1, lw_okq q := List.forall_mem_cons.mpr ⟨lw_p0, List.forall_mem_cons.mpr ⟨lw_p1, List.forall_mem_cons.mpr ⟨lw_p2, List.forall_mem_cons.mpr ⟨lw_p3, List.forall_mem_cons.mpr ⟨lw_p4, List.forall_mem_cons.mpr ⟨lw_p5, List.forall_mem_cons.mpr ⟨lw_p6, List.forall_mem_cons.mpr ⟨lw_p7, List.forall_mem_cons.mpr ⟨lw_p8, List.forall_mem_cons.mpr ⟨lw_p9, List.forall_mem_cons.mpr ⟨lw_p10, List.forall_mem_cons.mpr ⟨lw_p11, List.forall_mem_cons.mpr ⟨lw_p12, List.forall_mem_cons.mpr ⟨lw_p13, List.forall_mem_cons.mpr ⟨lw_p14, List.forall_mem_cons.mpr ⟨lw_p15, fun _ h => absurd h List.not_mem_nil⟩⟩⟩⟩⟩⟩⟩⟩⟩⟩⟩⟩⟩⟩⟩⟩
theorem lw_p16 : lw_okq (⟨"PlotPatch$Rig", "countBelow", "(II)I"⟩, 8) := ⟨⟨by decide +kernel, by decide +kernel⟩, List.mem_of_getElem? (i := 23) (by decide +kernel), List.mem_of_getElem? (i := 392) (by decide +kernel), List.mem_of_getElem? (i := 393) (by decide +kernel)⟩
theorem lw_p17 : lw_okq (⟨"PlotPatch$Board", "countDoubles", "()I"⟩, 4) := ⟨⟨by decide +kernel, by decide +kernel⟩, List.mem_of_getElem? (i := 63) (by decide +kernel), List.mem_of_getElem? (i := 411) (by decide +kernel), List.mem_of_getElem? (i := 412) (by decide +kernel)⟩
theorem lw_p18 : lw_okq (⟨"PlotPatch$Board", "countHolders", "(I)I"⟩, 4) := ⟨⟨by decide +kernel, by decide +kernel⟩, List.mem_of_getElem? (i := 63) (by decide +kernel), List.mem_of_getElem? (i := 415) (by decide +kernel), List.mem_of_getElem? (i := 416) (by decide +kernel)⟩
theorem lw_p19 : lw_okq (⟨"PlotPatch$Board", "lowestGap", "(I)I"⟩, 4) := ⟨⟨by decide +kernel, by decide +kernel⟩, List.mem_of_getElem? (i := 63) (by decide +kernel), List.mem_of_getElem? (i := 426) (by decide +kernel), List.mem_of_getElem? (i := 427) (by decide +kernel)⟩
theorem lw_p20 : lw_okq (⟨"PlotPatch", "shownLevel", "(I)I"⟩, 7) := ⟨⟨by decide +kernel, by decide +kernel⟩, List.mem_of_getElem? (i := 15) (by decide +kernel), List.mem_of_getElem? (i := 448) (by decide +kernel), List.mem_of_getElem? (i := 449) (by decide +kernel)⟩
theorem lw_p21 : lw_okq (⟨"PlotPatch$Show", "wantedLevel", "(I)I"⟩, 11) := ⟨⟨by decide +kernel, by decide +kernel⟩, List.mem_of_getElem? (i := 87) (by decide +kernel), List.mem_of_getElem? (i := 452) (by decide +kernel), List.mem_of_getElem? (i := 453) (by decide +kernel)⟩
theorem lw_p22 : lw_okq (⟨"PlotPatch$Show", "addCue", "(III)I"⟩, 11) := ⟨⟨by decide +kernel, by decide +kernel⟩, List.mem_of_getElem? (i := 87) (by decide +kernel), List.mem_of_getElem? (i := 470) (by decide +kernel), List.mem_of_getElem? (i := 471) (by decide +kernel)⟩
theorem lw_p23 : lw_okq (⟨"PlotPatch$Show", "beginNext", "()I"⟩, 11) := ⟨⟨by decide +kernel, by decide +kernel⟩, List.mem_of_getElem? (i := 87) (by decide +kernel), List.mem_of_getElem? (i := 492) (by decide +kernel), List.mem_of_getElem? (i := 493) (by decide +kernel)⟩
theorem lw_p24 : lw_okq (⟨"PlotPatch$Show", "begin", "(I)V"⟩, 11) := ⟨⟨by decide +kernel, by decide +kernel⟩, List.mem_of_getElem? (i := 87) (by decide +kernel), List.mem_of_getElem? (i := 496) (by decide +kernel), List.mem_of_getElem? (i := 497) (by decide +kernel)⟩
theorem lw_p25 : lw_okq (⟨"PlotPatch$Show", "advance", "()I"⟩, 11) := ⟨⟨by decide +kernel, by decide +kernel⟩, List.mem_of_getElem? (i := 87) (by decide +kernel), List.mem_of_getElem? (i := 510) (by decide +kernel), List.mem_of_getElem? (i := 511) (by decide +kernel)⟩
theorem lw_p26 : lw_okq (⟨"PlotPatch", "burnColours", "()V"⟩, 7) := ⟨⟨by decide +kernel, by decide +kernel⟩, List.mem_of_getElem? (i := 15) (by decide +kernel), List.mem_of_getElem? (i := 515) (by decide +kernel), List.mem_of_getElem? (i := 516) (by decide +kernel)⟩
theorem lw_p27 : lw_okq (⟨"PlotPatch$Show", "handOver", "(II)I"⟩, 11) := ⟨⟨by decide +kernel, by decide +kernel⟩, List.mem_of_getElem? (i := 87) (by decide +kernel), List.mem_of_getElem? (i := 556) (by decide +kernel), List.mem_of_getElem? (i := 557) (by decide +kernel)⟩
theorem lw_p28 : lw_okq (⟨"PlotPatchModel", "mayAll", "(ZZZ)Z"⟩, 28) := ⟨⟨by decide +kernel, by decide +kernel⟩, List.mem_of_getElem? (i := 567) (by decide +kernel), List.mem_of_getElem? (i := 669) (by decide +kernel), List.mem_of_getElem? (i := 670) (by decide +kernel)⟩
theorem lw_p29 : lw_okq (⟨"PlotPatchModel", "mayBoth", "(ZZ)Z"⟩, 28) := ⟨⟨by decide +kernel, by decide +kernel⟩, List.mem_of_getElem? (i := 567) (by decide +kernel), List.mem_of_getElem? (i := 677) (by decide +kernel), List.mem_of_getElem? (i := 678) (by decide +kernel)⟩
theorem lw_p30 : lw_okq (⟨"PlotPatchModel", "isLamp", "(I)Z"⟩, 28) := ⟨⟨by decide +kernel, by decide +kernel⟩, List.mem_of_getElem? (i := 567) (by decide +kernel), List.mem_of_getElem? (i := 685) (by decide +kernel), List.mem_of_getElem? (i := 686) (by decide +kernel)⟩
theorem lw_p31 : lw_okq (⟨"PlotPatchModel", "isBar", "(I)Z"⟩, 28) := ⟨⟨by decide +kernel, by decide +kernel⟩, List.mem_of_getElem? (i := 567) (by decide +kernel), List.mem_of_getElem? (i := 689) (by decide +kernel), List.mem_of_getElem? (i := 690) (by decide +kernel)⟩
def lw_privs_2 : List (MethodName × Nat) := [(⟨"PlotPatch$Rig", "countBelow", "(II)I"⟩, 8), (⟨"PlotPatch$Board", "countDoubles", "()I"⟩, 4), (⟨"PlotPatch$Board", "countHolders", "(I)I"⟩, 4), (⟨"PlotPatch$Board", "lowestGap", "(I)I"⟩, 4), (⟨"PlotPatch", "shownLevel", "(I)I"⟩, 7), (⟨"PlotPatch$Show", "wantedLevel", "(I)I"⟩, 11), (⟨"PlotPatch$Show", "addCue", "(III)I"⟩, 11), (⟨"PlotPatch$Show", "beginNext", "()I"⟩, 11), (⟨"PlotPatch$Show", "begin", "(I)V"⟩, 11), (⟨"PlotPatch$Show", "advance", "()I"⟩, 11), (⟨"PlotPatch", "burnColours", "()V"⟩, 7), (⟨"PlotPatch$Show", "handOver", "(II)I"⟩, 11), (⟨"PlotPatchModel", "mayAll", "(ZZZ)Z"⟩, 28), (⟨"PlotPatchModel", "mayBoth", "(ZZ)Z"⟩, 28), (⟨"PlotPatchModel", "isLamp", "(I)Z"⟩, 28), (⟨"PlotPatchModel", "isBar", "(I)Z"⟩, 28)]
theorem lw_r2 : ∀ q ∈ lw_privs_2, lw_okq q := List.forall_mem_cons.mpr ⟨lw_p16, List.forall_mem_cons.mpr ⟨lw_p17, List.forall_mem_cons.mpr ⟨lw_p18, List.forall_mem_cons.mpr ⟨lw_p19, List.forall_mem_cons.mpr ⟨lw_p20, List.forall_mem_cons.mpr ⟨lw_p21, List.forall_mem_cons.mpr ⟨lw_p22, List.forall_mem_cons.mpr ⟨lw_p23, List.forall_mem_cons.mpr ⟨lw_p24, List.forall_mem_cons.mpr ⟨lw_p25, List.forall_mem_cons.mpr ⟨lw_p26, List.forall_mem_cons.mpr ⟨lw_p27, List.forall_mem_cons.mpr ⟨lw_p28, List.forall_mem_cons.mpr ⟨lw_p29, List.forall_mem_cons.mpr ⟨lw_p30, List.forall_mem_cons.mpr ⟨lw_p31, fun _ h => absurd h List.not_mem_nil⟩⟩⟩⟩⟩⟩⟩⟩⟩⟩⟩⟩⟩⟩⟩⟩
theorem lw_p32 : lw_okq (⟨"PlotPatchModel", "canHang", "(III)Z"⟩, 28) := ⟨⟨by decide +kernel, by decide +kernel⟩, List.mem_of_getElem? (i := 567) (by decide +kernel), List.mem_of_getElem? (i := 693) (by decide +kernel), List.mem_of_getElem? (i := 694) (by decide +kernel)⟩
theorem lw_p33 : lw_okq (⟨"PlotPatchModel", "weightOn", "(II)I"⟩, 28) := ⟨⟨by decide +kernel, by decide +kernel⟩, List.mem_of_getElem? (i := 567) (by decide +kernel), List.mem_of_getElem? (i := 697) (by decide +kernel), List.mem_of_getElem? (i := 698) (by decide +kernel)⟩
theorem lw_p34 : lw_okq (⟨"PlotPatchModel", "may", "(Z)Z"⟩, 28) := ⟨⟨by decide +kernel, by decide +kernel⟩, List.mem_of_getElem? (i := 567) (by decide +kernel), List.mem_of_getElem? (i := 708) (by decide +kernel), List.mem_of_getElem? (i := 709) (by decide +kernel)⟩
theorem lw_p35 : lw_okq (⟨"PlotPatchModel", "ranked", "(II)I"⟩, 28) := ⟨⟨by decide +kernel, by decide +kernel⟩, List.mem_of_getElem? (i := 567) (by decide +kernel), List.mem_of_getElem? (i := 716) (by decide +kernel), List.mem_of_getElem? (i := 717) (by decide +kernel)⟩
theorem lw_p36 : lw_okq (⟨"PlotPatchModel", "lampsAt", "(I)I"⟩, 28) := ⟨⟨by decide +kernel, by decide +kernel⟩, List.mem_of_getElem? (i := 567) (by decide +kernel), List.mem_of_getElem? (i := 735) (by decide +kernel), List.mem_of_getElem? (i := 736) (by decide +kernel)⟩
theorem lw_p37 : lw_okq (⟨"PlotPatchModel", "levelOf", "(I)I"⟩, 28) := ⟨⟨by decide +kernel, by decide +kernel⟩, List.mem_of_getElem? (i := 567) (by decide +kernel), List.mem_of_getElem? (i := 754) (by decide +kernel), List.mem_of_getElem? (i := 755) (by decide +kernel)⟩
theorem lw_p38 : lw_okq (⟨"PlotPatchModel", "wantedOf", "(I)I"⟩, 28) := ⟨⟨by decide +kernel, by decide +kernel⟩, List.mem_of_getElem? (i := 567) (by decide +kernel), List.mem_of_getElem? (i := 758) (by decide +kernel), List.mem_of_getElem? (i := 759) (by decide +kernel)⟩
theorem lw_p39 : lw_okq (⟨"PlotPatchModel", "isCue", "(I)Z"⟩, 28) := ⟨⟨by decide +kernel, by decide +kernel⟩, List.mem_of_getElem? (i := 567) (by decide +kernel), List.mem_of_getElem? (i := 773) (by decide +kernel), List.mem_of_getElem? (i := 774) (by decide +kernel)⟩
theorem lw_p40 : lw_okq (⟨"PlotPatchModel", "begin", "()I"⟩, 28) := ⟨⟨by decide +kernel, by decide +kernel⟩, List.mem_of_getElem? (i := 567) (by decide +kernel), List.mem_of_getElem? (i := 781) (by decide +kernel), List.mem_of_getElem? (i := 782) (by decide +kernel)⟩
def lw_privs_3 : List (MethodName × Nat) := [(⟨"PlotPatchModel", "canHang", "(III)Z"⟩, 28), (⟨"PlotPatchModel", "weightOn", "(II)I"⟩, 28), (⟨"PlotPatchModel", "may", "(Z)Z"⟩, 28), (⟨"PlotPatchModel", "ranked", "(II)I"⟩, 28), (⟨"PlotPatchModel", "lampsAt", "(I)I"⟩, 28), (⟨"PlotPatchModel", "levelOf", "(I)I"⟩, 28), (⟨"PlotPatchModel", "wantedOf", "(I)I"⟩, 28), (⟨"PlotPatchModel", "isCue", "(I)Z"⟩, 28), (⟨"PlotPatchModel", "begin", "()I"⟩, 28)]
theorem lw_r3 : ∀ q ∈ lw_privs_3, lw_okq q := List.forall_mem_cons.mpr ⟨lw_p32, List.forall_mem_cons.mpr ⟨lw_p33, List.forall_mem_cons.mpr ⟨lw_p34, List.forall_mem_cons.mpr ⟨lw_p35, List.forall_mem_cons.mpr ⟨lw_p36, List.forall_mem_cons.mpr ⟨lw_p37, List.forall_mem_cons.mpr ⟨lw_p38, List.forall_mem_cons.mpr ⟨lw_p39, List.forall_mem_cons.mpr ⟨lw_p40, fun _ h => absurd h List.not_mem_nil⟩⟩⟩⟩⟩⟩⟩⟩⟩
def lw_privs : List (MethodName × Nat) := lw_privs_1 ++ (lw_privs_2 ++ (lw_privs_3))
def lw_tbl : List Cond := k2_sels lw_privs ++ tables_1
theorem lw_privs_ok : ∀ q ∈ lw_privs, lw_okq q := by
  show ∀ q ∈ lw_privs_1 ++ (lw_privs_2 ++ (lw_privs_3)), lw_okq q
  exact List.forall_mem_append.mpr ⟨lw_r1, List.forall_mem_append.mpr ⟨lw_r2, lw_r3⟩⟩
end
section
/-! ===== BEGIN words of one list among another's, by their places ===== -/
theorem goodIn_r {big : List Cond} (ws : List Cond) (ps : List Nat) (hp : ws = ps.filterMap (fun i => big[i]?)) (h : ws.all goodWord = true) : GoodIn big ws := by
  intro w hw
  have h1 := List.all_eq_true.mp h w hw
  rw [hp] at hw
  obtain ⟨i, -, hi⟩ := List.mem_filterMap.mp hw
  have hm : w ∈ big := by first | exact List.mem_of_getElem? hi | exact List.getElem?_mem hi
  exact ⟨hm, good_of_word h1⟩
theorem goodIn_app {big a b : List Cond} (ha : GoodIn big a) (hb : GoodIn big b) : GoodIn big (a ++ b) := fun w h => (List.mem_append.mp h).elim (ha w) (hb w)
theorem goodIn_ca {big a b : List Cond} {c : Cond} (ha : GoodIn big (c :: a)) (hb : GoodIn big b) : GoodIn big (c :: (a ++ b)) := fun w h => (List.mem_cons.mp h).elim (fun e => ha w (List.mem_cons.mpr (Or.inl e))) (fun h => (List.mem_append.mp h).elim (fun h => ha w (List.mem_cons.mpr (Or.inr h))) (hb w))
theorem goodIn_sub {big ws : List Cond} (hm : ∀ w ∈ ws, w ∈ big) (h : ws.all goodWord = true) : GoodIn big ws := fun w hw => ⟨hm w hw, good_of_word (List.all_eq_true.mp h w hw)⟩
/-! ===== END ===== -/

/-! ===== BEGIN exceptions that leave a method, and their catching by the caller (launches without stack traces) ===== -/
section VXA
/-! The laws vx_back, vx_callV, vx_callS, vx_callSW, vx_throw0, vx_throwS follow proofs of the library, with one case more: JvmDerived/Free/Laws.lean (Back.of_free), Shelf42/LK1.lean (callV, callS), Shelf/KitTraced.lean (throwNew0V, throwNewS). -/
/-- where a method has thrown q: the class by its name, the cell, what was written, the world -/
def vx_T (XC : String → State → State → Prop) (st : State) (q : Addr) (t : State) (mc ms : Nat) (free : Addr → Prop) : Prop :=
  ∃ (E : String) (ce : Cell) (L : List Loc), XC E st t ∧ t.heap[q]? = some ce ∧ ce.vm = .none ∧ st.vm.findClass E = some ce.cls ∧ st.WarmedH t.vm ∧ st.sameButNew ({ t with vm := st.vm } : State) L mc ms ∧ ∀ z ∈ L, free z.base
def vx_Q (Qc : Array Value → State → Outcome → State → Prop) (XC : String → State → State → Prop) (mc ms : Nat) (free : Addr → Prop) : Array Value → State → Outcome → State → Prop := fun a st o t =>
  (Qc a st o t ∧ ∃ L, FrameEnd st o t L mc ms ∧ ∀ q ∈ L, free q.base) ∨ ∃ q, o = .threw q ∧ vx_T XC st q t mc ms free
/-- a callee that returns or throws -/
def vx_Met (l : Launch) (y : MethodName) (ws : List Cond) (rm : Room) (Pc : Array Value → State → Prop) (Qc : Array Value → State → Outcome → State → Prop) (XC : String → State → State → Prop) (mc ms : Nat) (free : Addr → Prop) : Prop :=
  MetFree l y (headSpec ws rm) Pc (fun _ _ _ _ _ => True) (vx_Q Qc XC mc ms free)
def vx_Post (XC : String → State → State → Prop) (mc ms : Nat) (free : Addr → Prop) : Pt → Array Value → Addr → Pt → Prop := fun A a q B =>
  ∃ (g : JFrame) (mk : MethodId) (t : State) (L : List Loc) (E : String) (ce : Cell), B.U.heap = t.heap ∧ B.U.vm = t.vm ∧ XC E (A.U.calling g mk a) t ∧ t.heap[q]? = some ce ∧ ce.vm = .none ∧ A.U.vm.findClass E = some ce.cls ∧ B.locs = A.locs ++ L ∧ (∀ z ∈ L, free z.base) ∧ B.cells = A.cells + mc ∧ B.slots = A.slots + ms
def vx_Back (l : Launch) (R : Room) (p : Program) (e : Env) (below : List Frame) (s : State) (sargs : Array Value) (y : MethodName) (len W9 : Nat)
    (Pre : Pt → Array Value → Prop) (Post : Pt → Array Value → Option Value → Pt → Prop) (PostX : Pt → Array Value → Addr → Pt → Prop) : Prop :=
  ∀ (m : MethodId) (meth : Method) (c : Code) (A : Pt) (g : JFrame) (ig : Instr) (mk : MethodId) (a : Array Value),
    Stand p l e R s m sargs below meth c A.U A.locs A.cells A.slots → g.method = m → g.locals.size = c.maxLocals → decode c.code g.pc = .ok (ig, len) →
    2 * g.monitorRoom + (g.stack.map fun v => v.category).sum ≤ W9 → A.U.methodNamed? y = some mk → Pre A a →
    (∃ (v : Option Value) (B : Pt), Stand p l e R s m sargs below meth c B.U B.locs B.cells B.slots ∧ Post A a v B ∧
      Steps p.tables e below (doInvoke e (A.U.setTop g) [] mk a).1 (B.U.setTop { g with pc := g.pc + len, stack := v.toList ++ g.stack })) ∨
    (∃ (q : Addr) (B : Pt), Stand p l e R s m sargs below meth c B.U B.locs B.cells B.slots ∧ PostX A a q B ∧
      Steps p.tables e below (doInvoke e (A.U.setTop g) [] mk a).1 ((B.U.setTop g).pushFrame (.throwing q)))
section Payer
variable {l : Launch} {R : Room} {p : Program} {e : Env} {below : List Frame} {s : State} {sargs : Array Value} {y : MethodName} {len W9 : Nat}
theorem vx_back {ws : List Cond} {rm : Room} {Pc : Array Value → State → Prop} {Qc : Array Value → State → Outcome → State → Prop} {XC : String → State → State → Prop} {mc ms : Nat} {free : Addr → Prop} {bytes : ByteArray} {maxL : Nat} {ret : Option FieldType}
    (hM : vx_Met l y ws rm Pc Qc XC mc ms free) (hblind : FrameBlind Pc) (hrc : rm.cells = mc) (hrs : rm.slots = ms)
    (hframes : rm.frames + 1 ≤ R.frames) (hlocals : W9 + (maxL + 11) + rm.locals ≤ R.locals)
    (hws : ∀ w ∈ ws, ∀ a' U, s.WarmedH U.vm → w.before a' U = true) (hcode : Cond.code y bytes maxL ret ∈ ws) (hinit : ∀ a' U, s.WarmedH U.vm → (Cond.initialized y.cls).before a' U = true) :
    vx_Back l R p e below s sargs y len W9 (PreOf R mc ms Pc) (PostOf Qc mc ms free) (vx_Post XC mc ms free) := by
  intro m meth c A g ig mk a X hg hsize hdg hW hn hp
  have h1 : (headSpec ws rm).pre.before a A.U = true := atoms_intro fun w hw => hws w hw _ _ X.warmed
  have h2 : (Cond.code y bytes maxL ret).before a A.U = true := hws _ hcode _ _ X.warmed
  have h3 : (Cond.initialized y.cls).before a A.U = true := hinit _ _ X.warmed
  have h4 : A.cells + (headSpec ws rm).room.cells ≤ R.cells := by rw [show (headSpec ws rm).room.cells = mc from hrc]; exact hp.1
  have h5 : A.slots + (headSpec ws rm).room.slots ≤ R.slots := by rw [show (headSpec ws rm).room.slots = ms from hrs]; exact hp.2.1
  have hPc : Pc a (A.U.calling g mk a) := hblind _ _ _ _ hp.2.2
  obtain ⟨U, Ls, c0, s0⟩ := A
  dsimp only [Pt.U, Pt.locs, Pt.cells, Pt.slots] at h1 h2 h3 h4 h5 X hn hPc ⊢
  obtain ⟨methY, cY, hmY, hcY, -, hlY, -, -, -, -⟩ := Cond.code_spec hn h2
  obtain ⟨kY, hkY, -⟩ := className_of_methodNamed hn
  have hinitY : kY.init = .initialized := Cond.initialized_spec (findClass_of_methodNamed hn) hkY h3
  have h : At U g.method c below := by rw [hg]; exact X.here
  have hlocals9 : W9 + (maxL + 11) + (headSpec ws rm).room.locals ≤ R.locals := hlocals
  have happ : (headSpec ws rm).appliesLoose y e.platform (U.calling g mk a) = true :=
    Spec.appliesLoose_calling (g := g) h hdg hn hkY hinitY
      (X.room_calling (g := g) (R' := (headSpec ws rm).room) hsize hmY hcY hframes (by rw [hlY]; omega) h4 h5) h1
  obtain ⟨mid, hmid⟩ := h.above
  have hfr : (U.setTop g).frames = (.java g :: mid) ++ below := by rw [State.frames_setTop' g h.top, hmid]; rfl
  obtain ⟨o, s₂, hsteps, -, hend, hq⟩ := Steps.callFree hM p X.admits X.cas X.clock (acts := []) hfr happ hPc trivial
  have hq' : vx_Q Qc XC mc ms free a (U.calling g mk a) o s₂ := hq
  rw [State.frames_setTop' g h.top] at hend
  obtain ⟨g₀, hg0⟩ := Option.isSome_iff_exists.mp h.top
  obtain ⟨r, hr⟩ := State.topJava?_eq_some.mp hg0
  have hr' : (({ U with heap := s₂.heap, slotsUsed := s₂.slotsUsed } : State).setVm s₂.vm).frames = .java g₀ :: r := hr
  rcases hq' with ⟨hqc, L, hfe, hL⟩ | ⟨q, rfl, E, ce, L, hx, hce, hcv, hcl, hW₂, hsm, hL⟩
  · obtain ⟨⟨v, rfl⟩, hW₂, e2, q2, q3, q4, q5, q6⟩ := id hfe
    have e3 : s₂ = ({ (U.calling g mk a).setFrames s₂.frames with heap := s₂.heap, slotsUsed := s₂.slotsUsed } : State).setVm s₂.vm := by
      have : s₂ = ({ s₂ with vm := (U.calling g mk a).vm } : State).setVm s₂.vm := rfl
      rw [e2] at this
      exact this
    obtain ⟨c₂, i₂, len₂, hc₂, hd₂, hf₂⟩ := hend
    have hW' : U.WarmedH s₂.vm := hW₂
    have hcc : c₂ = c := by
      have h1 : s₂.code? g.method = U.code? g.method := by
        rw [State.code?_eq, State.code?_eq, hW'.alike.method?]
      exact Option.some.inj (hc₂.symm.trans (h1.trans h.code))
    subst hcc
    have hlen : len₂ = len := by rw [hdg] at hd₂; cases hd₂; rfl
    subst hlen
    have hs₂ : s₂ = (({ U with heap := s₂.heap, slotsUsed := s₂.slotsUsed } : State).setVm s₂.vm).setTop { g with pc := g.pc + len₂, stack := v.toList ++ g.stack } := by
      refine e3.trans ?_
      rw [hf₂, State.calling_eq h.top, State.setFrames_setFrames, State.setTop_of_frames _ hr', hr]
      rfl
    have hsame : U.sameButNew ({ U with heap := s₂.heap, slotsUsed := s₂.slotsUsed } : State) L mc ms := by
      refine ⟨?_, q2, q3, q4, q5, q6⟩
      obtain ⟨t, ht, -⟩ := State.frames_cons hr
      show ({ U with heap := s₂.heap, slotsUsed := s₂.slotsUsed } : State) = { U.setFrames U.frames with heap := s₂.heap, slotsUsed := s₂.slotsUsed }
      rw [State.setFrames_self ht]
    subst hg
    refine Or.inl ⟨v, ⟨(({ U with heap := s₂.heap, slotsUsed := s₂.slotsUsed } : State).setVm s₂.vm), Ls ++ L, c0 + mc, s0 + ms⟩,
      ⟨X.admits, X.cas, X.clock, X.frames, X.room, X.hears, X.method, X.code, (X.here.setHeapUsed s₂.heap s₂.slotsUsed).setVm hW'.alike, X.tail, State.WarmedH.trans X.warmed hW', X.limits, X.bytes, X.same.trans (hsame.setVm s.vm)⟩,
      ⟨g, mk, s₂, L, rfl, rfl, hqc, rfl, hL, rfl, rfl⟩, ?_⟩
    show Steps p.tables e below _ ((({ U with heap := s₂.heap, slotsUsed := s₂.slotsUsed } : State).setVm s₂.vm).setTop { g with pc := g.pc + len₂, stack := v.toList ++ g.stack })
    rw [← hs₂]
    exact hsteps
  · obtain ⟨e2, q2, q3, q4, q5, q6⟩ := id hsm
    have e3 : s₂ = ({ (U.calling g mk a).setFrames s₂.frames with heap := s₂.heap, slotsUsed := s₂.slotsUsed } : State).setVm s₂.vm := by
      have : s₂ = ({ s₂ with vm := (U.calling g mk a).vm } : State).setVm s₂.vm := rfl
      rw [e2] at this
      exact this
    have hf₂ : s₂.frames = .throwing q :: .java g :: U.frames.tail := hend
    have hW' : U.WarmedH s₂.vm := hW₂
    have hs₂ : s₂ = ((({ U with heap := s₂.heap, slotsUsed := s₂.slotsUsed } : State).setVm s₂.vm).setTop g).pushFrame (.throwing q) := by
      refine e3.trans ?_
      rw [hf₂, State.calling_eq h.top, State.setFrames_setFrames, State.pushFrame, State.frames_setTop _ hr', State.setTop_of_frames _ hr', State.setFrames_setFrames, hr]
      rfl
    have hsame : U.sameButNew ({ U with heap := s₂.heap, slotsUsed := s₂.slotsUsed } : State) L mc ms := by
      refine ⟨?_, q2, q3, q4, q5, q6⟩
      obtain ⟨t, ht, -⟩ := State.frames_cons hr
      show ({ U with heap := s₂.heap, slotsUsed := s₂.slotsUsed } : State) = { U.setFrames U.frames with heap := s₂.heap, slotsUsed := s₂.slotsUsed }
      rw [State.setFrames_self ht]
    subst hg
    refine Or.inr ⟨q, ⟨(({ U with heap := s₂.heap, slotsUsed := s₂.slotsUsed } : State).setVm s₂.vm), Ls ++ L, c0 + mc, s0 + ms⟩,
      ⟨X.admits, X.cas, X.clock, X.frames, X.room, X.hears, X.method, X.code, (X.here.setHeapUsed s₂.heap s₂.slotsUsed).setVm hW'.alike, X.tail, State.WarmedH.trans X.warmed hW', X.limits, X.bytes, X.same.trans (hsame.setVm s.vm)⟩,
      ⟨g, mk, s₂, L, E, ce, rfl, rfl, hx, hce, hcv, hcl, rfl, hL, rfl, rfl⟩, ?_⟩
    show Steps p.tables e below _ (((({ U with heap := s₂.heap, slotsUsed := s₂.slotsUsed } : State).setVm s₂.vm).setTop g).pushFrame (.throwing q))
    rw [← hs₂]
    exact hsteps
end Payer
section Calls
variable {p : Program} {l : Launch} {e : Env} {R : Room} {s : State} {m : MethodId} {args : Array Value} {below : List Frame} {meth : Method} {c : Code} {T : State} {locs : List Loc} {cells slots : Nat}
theorem vx_callV (X : Stand p l e R s m args below meth c T locs cells slots) (hexec : p.tables.exec = Jvm.exec) {own C : String} {index : Nat} {y : MethodName} {bytes : ByteArray} {maxL : Nat} {ret : Option FieldType}
    (hown : s.vm.findClass own = some m.cls) (hlink : (Cond.methodLink own index y).before args s = true) (hinst : (Cond.instanceMethod y).before args s = true) (hsel : (Cond.selects C y y).before args s = true)
    (hcode : (Cond.code y bytes maxL ret).before args s = true) (hy : y.cls ≠ "java/lang/invoke/MethodHandle" ∧ y.cls ≠ "java/lang/invoke/VarHandle")
    {W9 : Nat} {Pre : Pt → Array Value → Prop} {Post : Pt → Array Value → Option Value → Pt → Prop} {PostX : Pt → Array Value → Addr → Pt → Prop} (hK : vx_Back l R p e below s args y 3 W9 Pre Post PostX)
    {b : Addr} {cellB : Cell} (hcell : T.heap[b]? = some cellB) (hobj : cellB.vm.isStatics = false) (hcls : s.vm.findClass C = some cellB.cls)
    {g : JFrame} (hg : g.method = m) (hsize : g.locals.size = c.maxLocals) {argsL rest : List Value} (hlen : ∀ sig, parseMethodDescriptor y.desc = some sig → argsL.length = sig.parameters.length)
    (hstack : g.stack = argsL.reverse ++ .ref b :: rest) (hW : 2 * g.monitorRoom + (rest.map fun v => v.category).sum ≤ W9) (hdg : decode c.code g.pc = .ok (.invokevirtual index, 3))
    (hpre : ∀ vm₁, s.WarmedH vm₁ → Pre ⟨T.setVm vm₁, locs, cells, slots⟩ (Value.ref b :: argsL).toArray) :
    (∃ (v : Option Value) (vm₁ : Vm) (B : Pt), s.WarmedH vm₁ ∧ Stand p l e R s m args below meth c B.U B.locs B.cells B.slots ∧ Post ⟨T.setVm vm₁, locs, cells, slots⟩ (Value.ref b :: argsL).toArray v B ∧
      ∀ target, Steps p.tables e below (B.U.setTop { g with pc := g.pc + 3, stack := v.toList ++ rest }) target → Steps p.tables e below (T.setTop g) target) ∨
    (∃ (q : Addr) (vm₁ : Vm) (B : Pt), s.WarmedH vm₁ ∧ Stand p l e R s m args below meth c B.U B.locs B.cells B.slots ∧ PostX ⟨T.setVm vm₁, locs, cells, slots⟩ (Value.ref b :: argsL).toArray q B ∧
      Steps p.tables e below (T.setTop g) ((B.U.setTop { g with stack := rest }).pushFrame (.throwing q))) := by
  obtain ⟨mk, methM, hnamed, hmethM, hstM, habM⟩ := Cond.instanceMethod_spec hinst
  obtain ⟨methM', cM, hmethM', -, -, -, -, -, -, hsigM⟩ := Cond.code_spec hnamed hcode
  cases hmethM.symm.trans hmethM'
  obtain ⟨c2, r2, m2, q1, q2, q3, q4, kP, hkP, hkPi⟩ := Cond.selects_spec hsel
  cases hcls.symm.trans q1
  cases (State.methodFound?_of_named hnamed hy).symm.trans q2
  cases hnamed.symm.trans q3
  have hselP : selectMethod e.platform s.vm cellB.cls mk = .method mk := by rw [Launch.admits_selectMethod X.admits]; exact q4
  obtain ⟨vm₁, X₁, hstep₁⟩ := X.invokevirtual hexec hown hlink hnamed hmethM hstM hkP hkPi hy (a := b) (cell := cellB) hcell
    (fun z h => by rw [h] at hobj; cases hobj) hselP hmethM habM hkP hkPi (g := g) hg (argsL := argsL) (rest := rest) (hlen _ hsigM) hstack hdg
  rcases hK m meth c ⟨T.setVm vm₁, locs, cells, slots⟩ { g with stack := rest } (.invokevirtual index) mk (Value.ref b :: argsL).toArray X₁ hg hsize hdg hW (X₁.named hnamed) (hpre vm₁ X₁.warmed) with ⟨v, B, X', hpost, hsteps⟩ | ⟨q, B, X', hpost, hsteps⟩
  · exact Or.inl ⟨v, vm₁, B, X₁.warmed, X', hpost, fun target h => hstep₁ _ fun acts => by rw [doInvoke_state]; exact hsteps.trans h⟩
  · exact Or.inr ⟨q, vm₁, B, X₁.warmed, X', hpost, hstep₁ _ fun acts => by rw [doInvoke_state]; exact hsteps⟩
theorem vx_callS (X : Stand p l e R s m args below meth c T locs cells slots) (hexec : p.tables.exec = Jvm.exec) {own : String} {index : Nat} {y : MethodName} {bytes : ByteArray} {maxL : Nat} {ret : Option FieldType}
    (hown : s.vm.findClass own = some m.cls) (hlink : (Cond.methodLink own index y).before args s = true) (hstat : (Cond.static y).before args s = true) (hinit : (Cond.initialized y.cls).before args s = true)
    (hcode : (Cond.code y bytes maxL ret).before args s = true) (hy : y.cls ≠ "java/lang/invoke/MethodHandle" ∧ y.cls ≠ "java/lang/invoke/VarHandle")
    {W9 : Nat} {Pre : Pt → Array Value → Prop} {Post : Pt → Array Value → Option Value → Pt → Prop} {PostX : Pt → Array Value → Addr → Pt → Prop} (hK : vx_Back l R p e below s args y 3 W9 Pre Post PostX)
    {g : JFrame} (hg : g.method = m) (hsize : g.locals.size = c.maxLocals) {argsL rest : List Value} (hlen : ∀ sig, parseMethodDescriptor y.desc = some sig → argsL.length = sig.parameters.length)
    (hstack : g.stack = argsL.reverse ++ rest) (hW : 2 * g.monitorRoom + (rest.map fun v => v.category).sum ≤ W9) (hdg : decode c.code g.pc = .ok (.invokestatic index, 3))
    (hpre : ∀ vm₁, s.WarmedH vm₁ → Pre ⟨T.setVm vm₁, locs, cells, slots⟩ argsL.toArray) :
    (∃ (v : Option Value) (vm₁ : Vm) (B : Pt), s.WarmedH vm₁ ∧ Stand p l e R s m args below meth c B.U B.locs B.cells B.slots ∧ Post ⟨T.setVm vm₁, locs, cells, slots⟩ argsL.toArray v B ∧
      ∀ target, Steps p.tables e below (B.U.setTop { g with pc := g.pc + 3, stack := v.toList ++ rest }) target → Steps p.tables e below (T.setTop g) target) ∨
    (∃ (q : Addr) (vm₁ : Vm) (B : Pt), s.WarmedH vm₁ ∧ Stand p l e R s m args below meth c B.U B.locs B.cells B.slots ∧ PostX ⟨T.setVm vm₁, locs, cells, slots⟩ argsL.toArray q B ∧
      Steps p.tables e below (T.setTop g) ((B.U.setTop { g with stack := rest }).pushFrame (.throwing q))) := by
  obtain ⟨mk, hnamed⟩ := Cond.code_named hcode
  obtain ⟨methM, cM, hmethM, -, -, -, -, -, -, hsigM⟩ := Cond.code_spec hnamed hcode
  have hstatic : methM.isStatic = true := Cond.static_spec hnamed hmethM hstat
  obtain ⟨kP, hkP, -⟩ := className_of_methodNamed hnamed
  have hinitP : kP.init = .initialized := Cond.initialized_spec (findClass_of_methodNamed hnamed) hkP hinit
  obtain ⟨vm₁, X₁, hstep₁⟩ := X.invokestatic hexec hown hlink hnamed hmethM hstatic hkP hinitP hy (g := g) hg (argsL := argsL) (rest := rest) (hlen _ hsigM) hstack hdg
  rcases hK m meth c ⟨T.setVm vm₁, locs, cells, slots⟩ { g with stack := rest } (.invokestatic index) mk argsL.toArray X₁ hg hsize hdg hW (X₁.named hnamed) (hpre vm₁ X₁.warmed) with ⟨v, B, X', hpost, hsteps⟩ | ⟨q, B, X', hpost, hsteps⟩
  · exact Or.inl ⟨v, vm₁, B, X₁.warmed, X', hpost, fun target h => hstep₁ _ fun acts => by rw [doInvoke_state]; exact hsteps.trans h⟩
  · exact Or.inr ⟨q, vm₁, B, X₁.warmed, X', hpost, hstep₁ _ fun acts => by rw [doInvoke_state]; exact hsteps⟩
end Calls
theorem vx_cls {s : State} {T : State} {vm₁ : Vm} {E : String} {k : ClassId} (hW : s.WarmedH vm₁) (h : (T.setVm vm₁).vm.findClass E = some k) : s.vm.findClass E = some k := by
  have h1 : vm₁.findClass E = some k := h
  rw [hW.alike.findClass] at h1
  exact h1
/-- the method's frame g, with q thrown over it -/
def vx_W (p : Program) (l : Launch) (e : Env) (R : Room) (s : State) (m : MethodId) (args : Array Value) (below : List Frame) (meth : Method) (c : Code) (H : Heap) (locs : List Loc) (cells slots : Nat) (Q : State → Prop) (g : JFrame) (q : Addr) : Prop :=
  ∀ T : State, T.heap = H → Stand p l e R s m args below meth c T locs cells slots → ∃ t, Steps p.tables e below ((T.setTop g).pushFrame (.throwing q)) t ∧ Q t
def vx_Run (p : Program) (l : Launch) (e : Env) (R : Room) (s : State) (m : MethodId) (args : Array Value) (below : List Frame) (meth : Method) (c : Code) (H : Heap) (locs : List Loc) (cells slots mc ms : Nat) (g : JFrame) (rest : List Value) (Qa : State → Outcome → State → Prop) (XC : String → State → State → Prop) (free : Addr → Prop) : Prop :=
  ∀ T : State, T.heap = H → Stand p l e R s m args below meth c T locs cells slots →
    (∃ (v : Option Value) (st₀ t T' : State) (L : List Loc), st₀.heap = H ∧ Stand p l e R s m args below meth c T' (locs ++ L) (cells + mc) (slots + ms) ∧ (∀ q ∈ L, free q.base) ∧ T'.heap = t.heap ∧ T'.vm = t.vm ∧ Qa st₀ (.returned v) t ∧
      Goes p e below T g T' { g with pc := g.pc + 3, stack := v.toList ++ rest }) ∨
    (∃ (q : Addr) (st₀ t T' : State) (L : List Loc) (E : String) (ce : Cell), st₀.heap = H ∧ Stand p l e R s m args below meth c T' (locs ++ L) (cells + mc) (slots + ms) ∧ (∀ z ∈ L, free z.base) ∧ T'.heap = t.heap ∧ T'.vm = t.vm ∧ XC E st₀ t ∧ t.heap[q]? = some ce ∧ ce.vm = .none ∧ s.vm.findClass E = some ce.cls ∧
      Steps p.tables e below (T.setTop g) ((T'.setTop { g with stack := rest }).pushFrame (.throwing q)))
def vx_X {S : Type} (px : S → Prop) (B : String → S → State → Prop) (A : Nat → Prop) : String → State → State → Prop := fun E st t => ∃ u : S, px u ∧ B E u t ∧ va_F A st t
section Runs
variable {p : Program} {l : Launch} {e : Env} {R : Room} {s : State} {m : MethodId} {args : Array Value} {below : List Frame} {meth : Method} {c : Code} {H : Heap} {locs : List Loc} {cells slots : Nat}
variable {y : MethodName} {bytes cc : ByteArray} {maxL nL mc ms n index : Nat} {ret : Option FieldType} {ws : List Cond} {rm : Room} {Pc : Array Value → State → Prop} {Qc : Array Value → State → Outcome → State → Prop} {XC : String → State → State → Prop} {free : Addr → Prop} {Ts : List Cond} {own C : String} {b : Addr} {As rest : List Value} {g : JFrame}
theorem vx_callBack (cb : CallB R s args own index y bytes maxL ret ws rm mc ms n) (hM : vx_Met l y ws rm Pc Qc XC mc ms free) (hbl : FrameBlind Pc) : vx_Back l R p e below s args y 3 8 (PreOf R mc ms Pc) (PostOf Qc mc ms free) (vx_Post XC mc ms free) := by
  obtain ⟨hrc, hrs, hfr, hlo, hws, hcw, -, hini, -⟩ := cb
  exact vx_back (bytes := bytes) (maxL := maxL) (ret := ret) hM hbl hrc hrs hfr hlo hws hcw (fun a' U hW => word_at hW (Or.inl (by first | rfl | simp [Cond.onTables, Cond.keeps, Cond.steady])) hini)
theorem vx_runV (S : CallFix p m c cc nL s args Ts own) (hM : vx_Met l y ws rm Pc Qc XC mc ms free) (cw : CallW R s args own C index y bytes maxL ret ws rm mc ms n) (hp : PreV s H C b Pc As)
    (hg : g.method = m) (hn : As.length = n) (hsize : g.locals.size = nL) (hstack : g.stack = As.reverse ++ .ref b :: rest) (hW : 2 * g.monitorRoom + (rest.map fun v => v.category).sum ≤ 8) (hdg : decode cc g.pc = .ok (.invokevirtual index, 3)) (hf : cells + mc ≤ R.cells ∧ slots + ms ≤ R.slots) :
    vx_Run p l e R s m args below meth c H locs cells slots mc ms g rest (Qc (Value.ref b :: As).toArray) XC free := by
  have hK : vx_Back l R p e below s args y 3 8 (PreOf R mc ms Pc) (PostOf Qc mc ms free) (vx_Post XC mc ms free) := vx_callBack cw.1 hM hp.1
  obtain ⟨⟨-, -, -, -, -, -, hcode, -, hy, hlen, hl⟩, hin, hse⟩ := cw
  obtain ⟨hx, hb, hml, ho, -⟩ := S
  obtain ⟨-, ⟨cellB, hcB, hoB, hclB⟩, hPc⟩ := hp
  intro T hT X
  rcases vx_callV X hx (C := C) (bytes := bytes) (maxL := maxL) (ret := ret) ho hl hin hse hcode hy hK (by rw [hT]; exact hcB) hoB hclB hg (hsize.trans hml.symm) (argsL := As) (rest := rest) (fun sig h => hn.trans (hlen sig h)) hstack hW (by rw [hb]; exact hdg)
    (fun vm₁ hW₁ => ⟨hf.1, hf.2, hPc (T.setVm vm₁) hT hW₁⟩) with ⟨v, vm₁, ⟨U', l2, c2, s2⟩, hW₁, X', ⟨g', mk, t, L, e1, e2, hq, h1, hL, h2, h3⟩, st⟩ | ⟨q, vm₁, ⟨U', l2, c2, s2⟩, hW₁, X', ⟨g', mk, t, L, E, ce, e1, e2, hq, hce, hcv, hcl, h1, hL, h2, h3⟩, st⟩
  · dsimp only [Pt.U, Pt.locs, Pt.cells, Pt.slots] at X' e1 e2 h1 h2 h3 st
    subst h1; subst h2; subst h3
    exact Or.inl ⟨v, (T.setVm vm₁).calling g' mk (Value.ref b :: As).toArray, t, U', L, hT, X', hL, e1, e2, hq, st⟩
  · dsimp only [Pt.U, Pt.locs, Pt.cells, Pt.slots] at X' e1 e2 h1 h2 h3 st hcl
    subst h1; subst h2; subst h3
    exact Or.inr ⟨q, (T.setVm vm₁).calling g' mk (Value.ref b :: As).toArray, t, U', L, E, ce, hT, X', hL, e1, e2, hq, hce, hcv, vx_cls hW₁ hcl, st⟩
theorem vx_runS (S : CallFix p m c cc nL s args Ts own) (hM : vx_Met l y ws rm Pc Qc XC mc ms free) (cw : CallB R s args own index y bytes maxL ret ws rm mc ms n ∧ (Cond.static y).before args s = true) (hp : PreS s H Pc As)
    (hg : g.method = m) (hn : As.length = n) (hsize : g.locals.size = nL) (hstack : g.stack = As.reverse ++ rest) (hW : 2 * g.monitorRoom + (rest.map fun v => v.category).sum ≤ 8) (hdg : decode cc g.pc = .ok (.invokestatic index, 3)) (hf : cells + mc ≤ R.cells ∧ slots + ms ≤ R.slots) :
    vx_Run p l e R s m args below meth c H locs cells slots mc ms g rest (Qc As.toArray) XC free := by
  have hK : vx_Back l R p e below s args y 3 8 (PreOf R mc ms Pc) (PostOf Qc mc ms free) (vx_Post XC mc ms free) := vx_callBack cw.1 hM hp.1
  obtain ⟨⟨-, -, -, -, -, -, hcode, hini, hy, hlen, hl⟩, hstt⟩ := cw
  obtain ⟨hx, hb, hml, ho, -⟩ := S
  intro T hT X
  rcases vx_callS X hx (bytes := bytes) (maxL := maxL) (ret := ret) ho hl hstt hini hcode hy hK hg (hsize.trans hml.symm) (argsL := As) (rest := rest) (fun sig h => hn.trans (hlen sig h)) hstack hW (by rw [hb]; exact hdg)
    (fun vm₁ hW₁ => ⟨hf.1, hf.2, hp.2 (T.setVm vm₁) hT hW₁⟩) with ⟨v, vm₁, ⟨U', l2, c2, s2⟩, hW₁, X', ⟨g', mk, t, L, e1, e2, hq, h1, hL, h2, h3⟩, st⟩ | ⟨q, vm₁, ⟨U', l2, c2, s2⟩, hW₁, X', ⟨g', mk, t, L, E, ce, e1, e2, hq, hce, hcv, hcl, h1, hL, h2, h3⟩, st⟩
  · dsimp only [Pt.U, Pt.locs, Pt.cells, Pt.slots] at X' e1 e2 h1 h2 h3 st
    subst h1; subst h2; subst h3
    exact Or.inl ⟨v, (T.setVm vm₁).calling g' mk As.toArray, t, U', L, hT, X', hL, e1, e2, hq, st⟩
  · dsimp only [Pt.U, Pt.locs, Pt.cells, Pt.slots] at X' e1 e2 h1 h2 h3 st hcl
    subst h1; subst h2; subst h3
    exact Or.inr ⟨q, (T.setVm vm₁).calling g' mk As.toArray, t, U', L, E, ce, hT, X', hL, e1, e2, hq, hce, hcv, vx_cls hW₁ hcl, st⟩
end Runs
section Rows
variable {p : Program} {l : Launch} {e : Env} {R : Room} {s : State} {m : MethodId} {args : Array Value} {below : List Frame} {meth : Method} {c : Code} {H : Heap} {locs : List Loc} {cells slots : Nat} {Q : State → Prop}
variable {mc ms : Nat} {free : Addr → Prop} {A0 A1 : Nat → Prop} {H0 : Heap} {a : Array Value} {pc : Nat} {ls : Array Slot} {st0 rest : List Value}
theorem vx_keep {st₀ t T' : State} {L : List Loc} (h0 : st₀.heap = H) (e1 : T'.heap = t.heap) (hS : va_S A0 H0 H locs) (hA : ∀ q, q < H.size → A1 q → A0 q) (hf : ∀ q, free q → A0 q) (hL : ∀ q ∈ L, free q.base) (hF : va_F A1 st₀ t) :
    H.size ≤ T'.heap.size ∧ (∀ q : Nat, q < H.size → ¬ A1 q → T'.heap[q]? = H[q]?) ∧ va_S A0 H0 T'.heap (locs ++ L) := by
  obtain ⟨hz, hk⟩ := hF
  rw [h0] at hz hk
  exact ⟨by rw [e1]; exact hz, fun q h1 h2 => by rw [e1]; exact hk q h1 h2,
    ⟨Nat.le_trans hS.1 (by rw [e1]; exact hz), fun q h1 h2 => by rw [e1, hk q (Nat.lt_of_lt_of_le h1 hS.1) (fun z => h2 (hA q (Nat.lt_of_lt_of_le h1 hS.1) z))]; exact hS.2.1 q h1 h2, fun q hq => by
      rcases List.mem_append.mp hq with h | h
      · exact hS.2.2 q h
      · exact hf _ (hL q h)⟩⟩
theorem vx_calli {S SX : Type} {post : Int32 → S → Prop} {px : SX → Prop} {B : S → State → Prop} {BX : String → SX → State → Prop} {AX : Nat → Prop} (hr : vx_Run p l e R s m args below meth c H locs cells slots mc ms (F0 m pc ls st0) rest (va_Qi post B A1 a) (vx_X px BX AX) free) (hS : va_S A0 H0 H locs) (hA : ∀ q, q < H.size → A1 q → A0 q) (hf : ∀ q, free q → A0 q) (hAX : ∀ q, q < H.size → AX q → A0 q)
    (kx : ∀ (E : String) (ce : Cell) (q9 : Addr) (u : SX) (t : State) (H1 : Heap) (locs1 : List Loc), t.heap = H1 → s.vm.Alike t.vm → px u → BX E u t → H.size ≤ H1.size → (∀ q : Nat, q < H.size → ¬ AX q → H1[q]? = H[q]?) → va_S A0 H0 H1 locs1 → H1[q9]? = some ce → ce.vm = .none → s.vm.findClass E = some ce.cls → vx_W p l e R s m args below meth c H1 locs1 (cells + mc) (slots + ms) Q (F0 m pc ls rest) q9)
    (kk : ∀ (r : Int32) (u : S) (t : State) (H1 : Heap) (locs1 : List Loc), t.heap = H1 → s.vm.Alike t.vm → post r u → B u t → H.size ≤ H1.size → (∀ q : Nat, q < H.size → ¬ A1 q → H1[q]? = H[q]?) → va_S A0 H0 H1 locs1 → W p l e R s m args below meth c H1 locs1 (cells + mc) (slots + ms) Q (F0 m (pc + 3) ls (.int r :: rest))) : W p l e R s m args below meth c H locs cells slots Q (F0 m pc ls st0) := by
  intro T hT X
  rcases hr T hT X with ⟨v, st₀, t, T', L, h0, X', hL, e1, e2, ⟨⟨r, u, hv, hp, hb⟩, hF⟩, st⟩ | ⟨q, st₀, t, T', L, E, ce, h0, X', hL, e1, e2, ⟨u, hp, hb, hF⟩, hce, hcv, hcl, st⟩
  · cases hv
    obtain ⟨k1, k2, k3⟩ := vx_keep h0 e1 hS hA hf hL hF
    obtain ⟨t2, a1, b1⟩ := kk r u t T'.heap (locs ++ L) e1.symm (by rw [← e2]; exact X'.warmed.alike) hp hb k1 k2 k3 T' rfl X'
    exact ⟨t2, st t2 a1, b1⟩
  · obtain ⟨k1, k2, k3⟩ := vx_keep h0 e1 hS hAX hf hL hF
    obtain ⟨t2, a1, b1⟩ := kx E ce q u t T'.heap (locs ++ L) e1.symm (by rw [← e2]; exact X'.warmed.alike) hp hb k1 k2 k3 (by rw [e1]; exact hce) hcv hcl T' rfl X'
    exact ⟨t2, st.trans a1, b1⟩
theorem vx_calll {S SX : Type} {post : Int64 → S → Prop} {px : SX → Prop} {B : S → State → Prop} {BX : String → SX → State → Prop} {AX : Nat → Prop} (hr : vx_Run p l e R s m args below meth c H locs cells slots mc ms (F0 m pc ls st0) rest (va_Ql post B A1 a) (vx_X px BX AX) free) (hS : va_S A0 H0 H locs) (hA : ∀ q, q < H.size → A1 q → A0 q) (hf : ∀ q, free q → A0 q) (hAX : ∀ q, q < H.size → AX q → A0 q)
    (kx : ∀ (E : String) (ce : Cell) (q9 : Addr) (u : SX) (t : State) (H1 : Heap) (locs1 : List Loc), t.heap = H1 → s.vm.Alike t.vm → px u → BX E u t → H.size ≤ H1.size → (∀ q : Nat, q < H.size → ¬ AX q → H1[q]? = H[q]?) → va_S A0 H0 H1 locs1 → H1[q9]? = some ce → ce.vm = .none → s.vm.findClass E = some ce.cls → vx_W p l e R s m args below meth c H1 locs1 (cells + mc) (slots + ms) Q (F0 m pc ls rest) q9)
    (kk : ∀ (r : Int64) (u : S) (t : State) (H1 : Heap) (locs1 : List Loc), t.heap = H1 → s.vm.Alike t.vm → post r u → B u t → H.size ≤ H1.size → (∀ q : Nat, q < H.size → ¬ A1 q → H1[q]? = H[q]?) → va_S A0 H0 H1 locs1 → W p l e R s m args below meth c H1 locs1 (cells + mc) (slots + ms) Q (F0 m (pc + 3) ls (.long r :: rest))) : W p l e R s m args below meth c H locs cells slots Q (F0 m pc ls st0) := by
  intro T hT X
  rcases hr T hT X with ⟨v, st₀, t, T', L, h0, X', hL, e1, e2, ⟨⟨r, u, hv, hp, hb⟩, hF⟩, st⟩ | ⟨q, st₀, t, T', L, E, ce, h0, X', hL, e1, e2, ⟨u, hp, hb, hF⟩, hce, hcv, hcl, st⟩
  · cases hv
    obtain ⟨k1, k2, k3⟩ := vx_keep h0 e1 hS hA hf hL hF
    obtain ⟨t2, a1, b1⟩ := kk r u t T'.heap (locs ++ L) e1.symm (by rw [← e2]; exact X'.warmed.alike) hp hb k1 k2 k3 T' rfl X'
    exact ⟨t2, st t2 a1, b1⟩
  · obtain ⟨k1, k2, k3⟩ := vx_keep h0 e1 hS hAX hf hL hF
    obtain ⟨t2, a1, b1⟩ := kx E ce q u t T'.heap (locs ++ L) e1.symm (by rw [← e2]; exact X'.warmed.alike) hp hb k1 k2 k3 (by rw [e1]; exact hce) hcv hcl T' rfl X'
    exact ⟨t2, st.trans a1, b1⟩
theorem vx_callf {S SX : Type} {post : UInt32 → S → Prop} {px : SX → Prop} {B : S → State → Prop} {BX : String → SX → State → Prop} {AX : Nat → Prop} (hr : vx_Run p l e R s m args below meth c H locs cells slots mc ms (F0 m pc ls st0) rest (va_Qf post B A1 a) (vx_X px BX AX) free) (hS : va_S A0 H0 H locs) (hA : ∀ q, q < H.size → A1 q → A0 q) (hf : ∀ q, free q → A0 q) (hAX : ∀ q, q < H.size → AX q → A0 q)
    (kx : ∀ (E : String) (ce : Cell) (q9 : Addr) (u : SX) (t : State) (H1 : Heap) (locs1 : List Loc), t.heap = H1 → s.vm.Alike t.vm → px u → BX E u t → H.size ≤ H1.size → (∀ q : Nat, q < H.size → ¬ AX q → H1[q]? = H[q]?) → va_S A0 H0 H1 locs1 → H1[q9]? = some ce → ce.vm = .none → s.vm.findClass E = some ce.cls → vx_W p l e R s m args below meth c H1 locs1 (cells + mc) (slots + ms) Q (F0 m pc ls rest) q9)
    (kk : ∀ (r : UInt32) (u : S) (t : State) (H1 : Heap) (locs1 : List Loc), t.heap = H1 → s.vm.Alike t.vm → post r u → B u t → H.size ≤ H1.size → (∀ q : Nat, q < H.size → ¬ A1 q → H1[q]? = H[q]?) → va_S A0 H0 H1 locs1 → W p l e R s m args below meth c H1 locs1 (cells + mc) (slots + ms) Q (F0 m (pc + 3) ls (.float r :: rest))) : W p l e R s m args below meth c H locs cells slots Q (F0 m pc ls st0) := by
  intro T hT X
  rcases hr T hT X with ⟨v, st₀, t, T', L, h0, X', hL, e1, e2, ⟨⟨r, u, hv, hp, hb⟩, hF⟩, st⟩ | ⟨q, st₀, t, T', L, E, ce, h0, X', hL, e1, e2, ⟨u, hp, hb, hF⟩, hce, hcv, hcl, st⟩
  · cases hv
    obtain ⟨k1, k2, k3⟩ := vx_keep h0 e1 hS hA hf hL hF
    obtain ⟨t2, a1, b1⟩ := kk r u t T'.heap (locs ++ L) e1.symm (by rw [← e2]; exact X'.warmed.alike) hp hb k1 k2 k3 T' rfl X'
    exact ⟨t2, st t2 a1, b1⟩
  · obtain ⟨k1, k2, k3⟩ := vx_keep h0 e1 hS hAX hf hL hF
    obtain ⟨t2, a1, b1⟩ := kx E ce q u t T'.heap (locs ++ L) e1.symm (by rw [← e2]; exact X'.warmed.alike) hp hb k1 k2 k3 (by rw [e1]; exact hce) hcv hcl T' rfl X'
    exact ⟨t2, st.trans a1, b1⟩
theorem vx_calld {S SX : Type} {post : UInt64 → S → Prop} {px : SX → Prop} {B : S → State → Prop} {BX : String → SX → State → Prop} {AX : Nat → Prop} (hr : vx_Run p l e R s m args below meth c H locs cells slots mc ms (F0 m pc ls st0) rest (va_Qd post B A1 a) (vx_X px BX AX) free) (hS : va_S A0 H0 H locs) (hA : ∀ q, q < H.size → A1 q → A0 q) (hf : ∀ q, free q → A0 q) (hAX : ∀ q, q < H.size → AX q → A0 q)
    (kx : ∀ (E : String) (ce : Cell) (q9 : Addr) (u : SX) (t : State) (H1 : Heap) (locs1 : List Loc), t.heap = H1 → s.vm.Alike t.vm → px u → BX E u t → H.size ≤ H1.size → (∀ q : Nat, q < H.size → ¬ AX q → H1[q]? = H[q]?) → va_S A0 H0 H1 locs1 → H1[q9]? = some ce → ce.vm = .none → s.vm.findClass E = some ce.cls → vx_W p l e R s m args below meth c H1 locs1 (cells + mc) (slots + ms) Q (F0 m pc ls rest) q9)
    (kk : ∀ (r : UInt64) (u : S) (t : State) (H1 : Heap) (locs1 : List Loc), t.heap = H1 → s.vm.Alike t.vm → post r u → B u t → H.size ≤ H1.size → (∀ q : Nat, q < H.size → ¬ A1 q → H1[q]? = H[q]?) → va_S A0 H0 H1 locs1 → W p l e R s m args below meth c H1 locs1 (cells + mc) (slots + ms) Q (F0 m (pc + 3) ls (.double r :: rest))) : W p l e R s m args below meth c H locs cells slots Q (F0 m pc ls st0) := by
  intro T hT X
  rcases hr T hT X with ⟨v, st₀, t, T', L, h0, X', hL, e1, e2, ⟨⟨r, u, hv, hp, hb⟩, hF⟩, st⟩ | ⟨q, st₀, t, T', L, E, ce, h0, X', hL, e1, e2, ⟨u, hp, hb, hF⟩, hce, hcv, hcl, st⟩
  · cases hv
    obtain ⟨k1, k2, k3⟩ := vx_keep h0 e1 hS hA hf hL hF
    obtain ⟨t2, a1, b1⟩ := kk r u t T'.heap (locs ++ L) e1.symm (by rw [← e2]; exact X'.warmed.alike) hp hb k1 k2 k3 T' rfl X'
    exact ⟨t2, st t2 a1, b1⟩
  · obtain ⟨k1, k2, k3⟩ := vx_keep h0 e1 hS hAX hf hL hF
    obtain ⟨t2, a1, b1⟩ := kx E ce q u t T'.heap (locs ++ L) e1.symm (by rw [← e2]; exact X'.warmed.alike) hp hb k1 k2 k3 (by rw [e1]; exact hce) hcv hcl T' rfl X'
    exact ⟨t2, st.trans a1, b1⟩
theorem vx_callv {S SX : Type} {post : S → Prop} {px : SX → Prop} {B : S → State → Prop} {BX : String → SX → State → Prop} {AX : Nat → Prop} (hr : vx_Run p l e R s m args below meth c H locs cells slots mc ms (F0 m pc ls st0) rest (va_Qv post B A1 a) (vx_X px BX AX) free) (hS : va_S A0 H0 H locs) (hA : ∀ q, q < H.size → A1 q → A0 q) (hf : ∀ q, free q → A0 q) (hAX : ∀ q, q < H.size → AX q → A0 q)
    (kx : ∀ (E : String) (ce : Cell) (q9 : Addr) (u : SX) (t : State) (H1 : Heap) (locs1 : List Loc), t.heap = H1 → s.vm.Alike t.vm → px u → BX E u t → H.size ≤ H1.size → (∀ q : Nat, q < H.size → ¬ AX q → H1[q]? = H[q]?) → va_S A0 H0 H1 locs1 → H1[q9]? = some ce → ce.vm = .none → s.vm.findClass E = some ce.cls → vx_W p l e R s m args below meth c H1 locs1 (cells + mc) (slots + ms) Q (F0 m pc ls rest) q9)
    (kk : ∀ (u : S) (t : State) (H1 : Heap) (locs1 : List Loc), t.heap = H1 → s.vm.Alike t.vm → post u → B u t → H.size ≤ H1.size → (∀ q : Nat, q < H.size → ¬ A1 q → H1[q]? = H[q]?) → va_S A0 H0 H1 locs1 → W p l e R s m args below meth c H1 locs1 (cells + mc) (slots + ms) Q (F0 m (pc + 3) ls (rest))) : W p l e R s m args below meth c H locs cells slots Q (F0 m pc ls st0) := by
  intro T hT X
  rcases hr T hT X with ⟨v, st₀, t, T', L, h0, X', hL, e1, e2, ⟨⟨u, hv, hp, hb⟩, hF⟩, st⟩ | ⟨q, st₀, t, T', L, E, ce, h0, X', hL, e1, e2, ⟨u, hp, hb, hF⟩, hce, hcv, hcl, st⟩
  · cases hv
    obtain ⟨k1, k2, k3⟩ := vx_keep h0 e1 hS hA hf hL hF
    obtain ⟨t2, a1, b1⟩ := kk u t T'.heap (locs ++ L) e1.symm (by rw [← e2]; exact X'.warmed.alike) hp hb k1 k2 k3 T' rfl X'
    exact ⟨t2, st t2 a1, b1⟩
  · obtain ⟨k1, k2, k3⟩ := vx_keep h0 e1 hS hAX hf hL hF
    obtain ⟨t2, a1, b1⟩ := kx E ce q u t T'.heap (locs ++ L) e1.symm (by rw [← e2]; exact X'.warmed.alike) hp hb k1 k2 k3 (by rw [e1]; exact hce) hcv hcl T' rfl X'
    exact ⟨t2, st.trans a1, b1⟩
/-- caught by the row x of this method's table; the rows ahead don't take it -/
theorem vx_catch {own name : String} {E : String} {ce : Cell} {q : Addr} (hown : s.vm.findClass own = some m.cls) (pre : List ExceptionTableEntry) (x : ExceptionTableEntry) (suf : List ExceptionTableEntry) (hsplit : c.exceptionTable.toList = pre ++ x :: suf)
    (hpass : ∀ z ∈ pre, covers z pc = false ∨ (z.catchType ≠ 0 ∧ ∃ nm : String, (Cond.classLink own z.catchType nm).before args s = true ∧ va_Nc E nm s)) (hx : covers x pc = true) (h0 : x.catchType ≠ 0)
    (hlink : (Cond.classLink own x.catchType name).before args s = true) (hcast : (Cond.castable E name).before args s = true) (hcell : H[q]? = some ce) (hv : ce.vm = .none) (hcl : s.vm.findClass E = some ce.cls)
    (kk : W p l e R s m args below meth c H locs cells slots Q (F0 m x.handlerPc ls [.ref q])) : vx_W p l e R s m args below meth c H locs cells slots Q (F0 m pc ls rest) q := by
  intro T hT X
  have hpl : e.platform.magicAccessors = ({} : Platform).magicAccessors := by rw [X.admits.platform]
  obtain ⟨c3, c4, hc3, hc4, hasg⟩ := Cond.castable_spec hcast
  cases Option.some.inj (hc3.symm.trans hcl)
  obtain ⟨c5, hc5, hcl5⟩ := Cond.classLink_spec hown hlink e.platform hpl
  cases Option.some.inj (hc4.symm.trans hc5)
  obtain ⟨vm', X', st⟩ := X.thenCaughtThrough q (g := F0 m pc ls rest) rfl (Steps.refl _) (by rw [hT]; exact hcell) (by rw [hv]; rfl) (by obtain ⟨k9, h9, -⟩ := Vm.findClass_spec hcl; exact ⟨k9, h9⟩) pre x suf hsplit
    (fun z hz => by
      rcases hpass z hz with h | ⟨hz0, nm, hl1, hn1⟩
      · exact Or.inl h
      · obtain ⟨c6, hc6, hcl6⟩ := Cond.classLink_spec hown hl1 e.platform hpl
        obtain ⟨a8, b8, h1, h2, h3⟩ := hn1
        cases Option.some.inj (h1.symm.trans hcl)
        cases Option.some.inj (h2.symm.trans hc6)
        exact Or.inr ⟨hz0, _, hcl6, h3⟩) hx (Or.inr ⟨h0, c4, hcl5, hasg⟩)
  obtain ⟨t, a1, b1⟩ := kk (T.setVm vm') hT X'
  exact ⟨t, st.trans a1, b1⟩
end Rows
section Ends
variable {p : Program} {l : Launch} {e : Env} {R : Room} {s : State} {m : MethodId} {args : Array Value} {below : List Frame} {meth : Method} {c : Code} {H : Heap} {locs : List Loc} {cells slots : Nat} {Q : State → Prop}
variable {mc ms : Nat} {free : Addr → Prop} {A0 A1 : Nat → Prop} {H0 : Heap} {a : Array Value} {ls : Array Slot} {st0 rest : List Value}
variable {Qc : Array Value → State → Outcome → State → Prop} {XC : String → State → State → Prop}
/-- what a body that may throw owes at its end -/
def vx_MQ (below : List Frame) (Qc : Array Value → State → Outcome → State → Prop) (XC : String → State → State → Prop) (a : Array Value) (s : State) (mc ms : Nat) (free : Addr → Prop) : State → Prop := fun t =>
  ∃ o, t.status = .running ∧ Ended t below o ∧ vx_Q Qc XC mc ms free a s o t
theorem vx_ret {g : JFrame} {mc ms : Nat} (k : W p l e R s m args below meth c H locs cells slots (MQ below Qc args s mc ms free) g) : W p l e R s m args below meth c H locs cells slots (vx_MQ below Qc XC args s mc ms free) g := by
  intro T hT X
  obtain ⟨t, a1, o, b1, b2, b3, b4⟩ := k T hT X
  exact ⟨t, a1, o, b1, b2, Or.inl ⟨b3, b4⟩⟩
/-- not caught here: it goes on to the caller -/
theorem vx_widen {g : JFrame} {q : Addr} {k n : Nat} (h1 : cells ≤ k) (h2 : slots ≤ n) (kk : vx_W p l e R s m args below meth c H locs k n Q g q) : vx_W p l e R s m args below meth c H locs cells slots Q g q := fun T hT X => kk T hT (stand_widen X h1 h2)
theorem vx_out {pc : Nat} {E : String} {ce : Cell} {q : Addr} {mc ms : Nat} (hout : ∀ x ∈ c.exceptionTable.toList, covers x pc = false) (hlocks : meth.locks = false) (hcell : H[q]? = some ce) (hv : ce.vm = .none) (hcl : s.vm.findClass E = some ce.cls)
    (hx : ∀ t : State, t.heap = H → s.vm.Alike t.vm → XC E s t) (hf : ∀ z ∈ locs, free z.base) (hc : cells ≤ mc) (hs : slots ≤ ms) :
    vx_W p l e R s m args below meth c H locs cells slots (vx_MQ below Qc XC args s mc ms free) (F0 m pc ls rest) q := by
  intro T hT X
  obtain ⟨st1, hrun, hend, hW, hsm⟩ := X.leaveThrown q (g := F0 m pc ls rest) rfl rfl rfl hout hlocks
  have hcell9 : (T.setFrames (.throwing q :: below)).heap[q]? = some ce := by
    show T.heap[q]? = some ce
    rw [hT]; exact hcell
  exact ⟨_, st1, .threw q, hrun, hend, Or.inr ⟨q, rfl, E, ce, locs, hx _ hT hW.alike, hcell9, hv, hcl, hW, hsm.mono hc hs, hf⟩⟩
theorem vx_frame {U : State} {k n : Nat} (h : s.sameButNew ({ U with vm := s.vm } : State) locs k n) : s.heap.size ≤ U.heap.size ∧ ∀ q : Nat, q < s.heap.size → (∀ z ∈ locs, z.base ≠ q) → U.heap[q]? = s.heap[q]? := by
  obtain ⟨-, h2, -, -, -, h6⟩ := h
  refine ⟨h2, fun q hq hz => ?_⟩
  obtain ⟨c9, e1, e2, e3, e4⟩ := h6 q _ (Array.getElem?_eq_getElem hq)
  have hs : c9.slots = (s.heap[q]).slots := Array.ext_getElem? fun i => e4 i fun hm => hz _ hm rfl
  have h9 : c9 = s.heap[q] := by
    rw [hs] at e2
    exact e2
  have e5 : U.heap[q]? = some c9 := e1
  rw [e5, h9, Array.getElem?_eq_getElem hq]
/-- the words of a throw but the four that speak of the heap -/
def vx_no (w : Cond) : Bool := decide (w ≠ .isRef (.static Bundle.tN "UNASSIGNED_STACK" Bundle.steD)) && decide (w ≠ .isRef (.static Bundle.tN "SUPPRESSED_SENTINEL" Bundle.listD)) && decide (w ≠ .laysStatic Bundle.tN "UNASSIGNED_STACK" Bundle.steD) && decide (w ≠ .laysStatic Bundle.tN "SUPPRESSED_SENTINEL" Bundle.listD)
def vx_at0 (own : String) (ic : Nat) (X : String) (names : List String) : List Cond := (Bundle.ownAtoms0 own ic X names).filter vx_no
def vx_atS (own : String) (ic : Nat) (X : String) (names : List String) : List Cond := (Bundle.ownAtoms own ic X names).filter vx_no
/-- a word that the tables alone decide, or a good one -/
def vx_ot (w : Cond) : Bool := w.onTables || goodWord w
theorem vx_ot_at {args a' : Array Value} {s U : State} {w : Cond} (hW : s.WarmedH U.vm) (hvm : s.vm = U.vm) (hg : vx_ot w = true) (h : w.before args s = true) : w.before a' U = true := by
  simp only [vx_ot, Bool.or_eq_true] at hg
  rcases hg with hg | hg
  · exact va_tabs hg hvm h
  · exact word_at hW (good_of_word hg) h
/-- a list's words: the good ones out of the method's own list, the others by premises of their own -/
theorem vx_hat {args : Array Value} {s : State} {L B : List Cond} (h1 : ∀ w ∈ L.filter goodWord, w.before args s = true) (h2 : ∀ w ∈ L.filter (fun w => !goodWord w), w ∈ B) (h3 : ∀ w ∈ B, w.before args s = true) : ∀ w ∈ L, w.before args s = true := by
  intro w hw
  by_cases g : goodWord w = true
  · exact h1 w (List.mem_filter.mpr ⟨hw, g⟩)
  · refine h3 w (h2 w (List.mem_filter.mpr ⟨hw, ?_⟩))
    show (!goodWord w) = true
    cases hgw : goodWord w
    · rfl
    · exact absurd hgw g
theorem vx_c {args : Array Value} {s : State} {w : Cond} {B : List Cond} (h : w.before args s = true) (t : ∀ w ∈ B, w.before args s = true) : ∀ w' ∈ w :: B, w'.before args s = true := fun w' h' => (List.mem_cons.mp h').elim (fun e => by rw [e]; exact h) (t w')
theorem vx_n {args : Array Value} {s : State} : ∀ w ∈ ([] : List Cond), w.before args s = true := fun _ h => nomatch h
theorem vx_own {args : Array Value} {s : State} {L : List Cond} (h1 : ∀ w ∈ L.filter vx_no, w.before args s = true)
    (hU : (Cond.isRef (.static Bundle.tN "UNASSIGNED_STACK" Bundle.steD)).before args s = true) (hN : (Cond.isRef (.static Bundle.tN "SUPPRESSED_SENTINEL" Bundle.listD)).before args s = true)
    (lU : (Cond.laysStatic Bundle.tN "UNASSIGNED_STACK" Bundle.steD).before args s = true) (lN : (Cond.laysStatic Bundle.tN "SUPPRESSED_SENTINEL" Bundle.listD).before args s = true) : ∀ w ∈ L, w.before args s = true := by
  intro w hw
  by_cases e1 : w = .isRef (.static Bundle.tN "UNASSIGNED_STACK" Bundle.steD)
  · rw [e1]; exact hU
  · by_cases e2 : w = .isRef (.static Bundle.tN "SUPPRESSED_SENTINEL" Bundle.listD)
    · rw [e2]; exact hN
    · by_cases e3 : w = .laysStatic Bundle.tN "UNASSIGNED_STACK" Bundle.steD
      · rw [e3]; exact lU
      · by_cases e4 : w = .laysStatic Bundle.tN "SUPPRESSED_SENTINEL" Bundle.listD
        · rw [e4]; exact lN
        · exact h1 w (List.mem_filter.mpr ⟨hw, by unfold vx_no; rw [decide_eq_true e1, decide_eq_true e2, decide_eq_true e3, decide_eq_true e4]; rfl⟩)
/-- where a static field lies, its class's statics cell in H -/
def vx_L (C n d : String) (A : Nat → Prop) (U : State) (H : Heap) : Prop := ∃ (c : ClassId) (k : Class) (i : Nat) (f : Field) (a : Nat) (cell : Cell), U.vm.findClass C = some c ∧ U.fieldFound? C n d = some (c, k, i, f) ∧ f.isStatic = true ∧ k.statics = some a ∧ H[a]? = some cell ∧ cell.vm.isStatics = true ∧ cell.cls = c ∧ f.slot < cell.slots.size ∧ k.staticTypes[f.slot]? = some f.type ∧ ¬ A a
theorem vx_L.moved {C n d : String} {A : Nat → Prop} {u U : State} {H : Heap} (hvm : u.vm.Alike U.vm) (h : vx_L C n d A u H) : vx_L C n d A U H := by
  obtain ⟨c, k, i, f, a, cell, h1, h2, h3, h4, h5, h6, h7, h8, h9, h10⟩ := h
  obtain ⟨k', hi', he⟩ := State.fieldFound?_setVm hvm h2
  exact ⟨c, k', i, f, a, cell, by rw [hvm.findClass]; exact h1, hi', h3, by rw [he]; exact h4, h5, h6, h7, h8, by rw [he]; exact h9, h10⟩
theorem vx_L.kept {C n d : String} {A : Nat → Prop} {U : State} {H H1 : Heap} (h : vx_L C n d A U H) (hq : ∀ a : Nat, a < H.size → ¬ A a → H1[a]? = H[a]?) : vx_L C n d A U H1 := by
  obtain ⟨c, k, i, f, a, cell, h1, h2, h3, h4, h5, h6, h7, h8, h9, h10⟩ := h
  exact ⟨c, k, i, f, a, cell, h1, h2, h3, h4, by rw [hq a (Array.getElem?_eq_some_iff.mp h5).1 h10]; exact h5, h6, h7, h8, h9, h10⟩
theorem vx_L.narrow {C n d : String} {A B : Nat → Prop} {U : State} {H : Heap} (h : vx_L C n d A U H) (hAB : ∀ q, B q → A q) : vx_L C n d B U H := by
  obtain ⟨c, k, i, f, a, cell, h1, h2, h3, h4, h5, h6, h7, h8, h9, h10⟩ := h
  exact ⟨c, k, i, f, a, cell, h1, h2, h3, h4, h5, h6, h7, h8, h9, fun z => h10 (hAB _ z)⟩
theorem vx_L.word {C n d : String} {A : Nat → Prop} {s : State} {args : Array Value} (h : vx_L C n d A s s.heap) : (Cond.laysStatic C n d).before args s = true := by
  obtain ⟨c, k, i, f, a, cell, h1, h2, h3, h4, h5, h6, h7, h8, h9, -⟩ := h
  show (Cond.laysStatic C n d).holds args s none s [] = true
  exact Cond.laysStatic_of h1 h2 h3 h4 h5 h6 h7 h8 h9
/-- .. and what it holds: null or some reference -/
def vx_Zq (C n d : String) (A : Nat → Prop) (U : State) (H : Heap) : Prop := va_Zq C n d A U H ∧ vx_L C n d A U H
theorem vx_Zq.moved {C n d : String} {A : Nat → Prop} {u U : State} {H : Heap} (hvm : u.vm.Alike U.vm) (h : vx_Zq C n d A u H) : vx_Zq C n d A U H := ⟨va_Zq.moved hvm h.1, vx_L.moved hvm h.2⟩
theorem vx_Zq.kept {C n d : String} {A : Nat → Prop} {U : State} {H H1 : Heap} (h : vx_Zq C n d A U H) (hq : ∀ a : Nat, a < H.size → ¬ A a → H1[a]? = H[a]?) : vx_Zq C n d A U H1 := ⟨va_Zq.kept h.1 hq, vx_L.kept h.2 hq⟩
theorem vx_Zq.narrow {C n d : String} {A B : Nat → Prop} {U : State} {H : Heap} (h : vx_Zq C n d A U H) (hAB : ∀ q, B q → A q) : vx_Zq C n d B U H := ⟨va_Zq.narrow h.1 hAB, vx_L.narrow h.2 hAB⟩
theorem vx_Zqof {args : Array Value} {s : State} {C n d : String} {A : Nat → Prop} (hl : (Cond.laysStatic C n d).before args s = true) (hini : (Cond.initialized C).before args s = true) (h : (Cond.isRef (.static C n d)).before args s = true) (hA : ∀ a : Nat, a < s.heap.size → ¬ A a) : vx_Zq C n d A s s.heap := by
  refine ⟨va_Zqof hl hini h hA, ?_⟩
  obtain ⟨c, k, i, f, a, cell, h1, h2, h3, h4, h5, h6, h7, h8, h9⟩ := Cond.laysStatic_spec hl
  exact ⟨c, k, i, f, a, cell, h1, h2, h3, h4, h5, h6, h7, h8, h9, hA a (Array.getElem?_eq_some_iff.mp h5).1⟩
theorem vx_isRef {C n d : String} {v : Value} {A : Nat → Prop} {s : State} {args : Array Value} (h : va_Z C n d v A s s.heap) (hv : v.isRef = true) : (Cond.isRef (.static C n d)).before args s = true := by
  obtain ⟨cf, kf, fi, f, a, cell, h1, h2, h3, h4, h5, h6, h7, -⟩ := h
  have he : (Term.static C n d).eval args s none [] s = some v := by
    simp [Term.eval, State.fieldNamed?, h1, h2, h4, h5, h6, h7]
  simp only [Cond.before, Cond.holds, Cond.value, he]
  cases v <;> simp_all [Value.isRef]
theorem vx_isRefq {C n d : String} {A : Nat → Prop} {s : State} {args : Array Value} (h : va_Zq C n d A s s.heap) : (Cond.isRef (.static C n d)).before args s = true := by
  rcases h with h | ⟨t, h⟩
  · exact vx_isRef h rfl
  · exact vx_isRef h rfl
/-- the same frame, seen from here: as if the method were called anew in this heap -/
theorem vx_rebase {T : State} (X : Stand p l e R s m args below meth c T locs cells slots) {R' : Room} (hf : R'.frames ≤ R.frames) (hl : R'.locals ≤ R.locals) (hc : cells + R'.cells ≤ R.cells) (hs : slots + R'.slots ≤ R.slots) :
    Stand p l e R' ((T.setVm s.vm).setFrames (.invoking m args :: below)) m args below meth c T [] 0 0 := by
  have htop : (T.setVm s.vm).topJava?.isSome := X.here.top
  have hF : ((T.setVm s.vm).setFrames (.invoking m args :: below)).frames = .invoking m args :: below := State.frames_setFrames _ (State.cur_lt_of_top htop)
  obtain ⟨g₀, hg0⟩ := Option.isSome_iff_exists.mp htop
  obtain ⟨r, hr⟩ := State.topJava?_eq_some.mp hg0
  have hl9 : e.platform.stackLimits (T.setVm s.vm).me = e.platform.stackLimits s.me := X.limits
  have hb9 : (T.setVm s.vm).me.stackBytes = s.me.stackBytes := X.bytes
  refine ⟨X.admits, X.cas, X.clock, hF, ?_, X.hears, X.method, X.code, X.here, X.tail, X.warmed, ?_, ?_, ?_⟩
  · have h := X.room
    have hU : ((T.setVm s.vm).setFrames (.invoking m args :: below)).localsInUse = s.localsInUse := by
      rw [State.localsInUse_invoking hF (meth := meth) (c := c) X.method X.code, State.localsInUse_invoking X.frames X.method X.code]
    simp only [State.hasRoom, Bool.and_eq_true, decide_eq_true_eq] at h ⊢
    obtain ⟨⟨⟨⟨h1, h2, h3, h4, h5, h6⟩, h7⟩, h8⟩, h9⟩ := h
    rw [X.frames, List.length_cons] at h2 h3
    have q1 := X.heapSize
    have q2 := X.used
    simp only [hF, hU, List.length_cons, State.stackLimits_setFrames, State.stackBytes_setFrames, hl9, hb9]
    refine ⟨⟨⟨⟨by omega, by omega, by omega, by omega, by omega, h6⟩, ?_⟩, ?_⟩, X.book⟩
    · show T.heap.size + R'.cells ≤ e.platform.maxCells
      omega
    · show T.slotsUsed + R'.slots ≤ e.platform.maxSlots
      omega
  · rw [State.stackLimits_setFrames]; rfl
  · rw [State.stackBytes_setFrames]; rfl
  · refine ⟨?_, Nat.le_refl _, Nat.le_refl _, ?_, ?_, fun a c9 h9 => ⟨c9, h9, rfl, rfl, fun _ _ => rfl⟩⟩
    · obtain ⟨t, ht, -⟩ := State.frames_cons hr
      show T.setVm s.vm = { ((T.setVm s.vm).setFrames (.invoking m args :: below)).setFrames (T.setVm s.vm).frames with heap := T.heap, slotsUsed := T.slotsUsed }
      rw [State.setFrames_setFrames, State.setFrames_self ht]
      rfl
    · show T.slotsUsed = T.slotsUsed + ((T.heap.toList.drop T.heap.size).map (·.slots.size)).sum
      rw [List.drop_eq_nil_of_le (Nat.le_of_eq Array.length_toList)]
      rfl
    · show ((T.heap.toList.drop T.heap.size).map (·.slots.size)).sum ≤ 0
      rw [List.drop_eq_nil_of_le (Nat.le_of_eq Array.length_toList)]
      exact Nat.le_refl _
/-- 'throw new E()': new; dup; invokespecial; athrow -/
theorem vx_throw0 {cc : ByteArray} {pc : Nat} (hexec : p.tables.exec = Jvm.exec) (hb : c.code = cc) (hl : l.stackTraces = false) {own cls : String} {names : List String} {ik ic mc ms : Nat} {A : Nat → Prop}
    (hown : s.vm.findClass own = some m.cls) (hcls : Bundle.fit cls = true) (hnames : ∀ n ∈ names, Bundle.fit n = true)
    (hk : (Cond.classLink own ik cls).before args s = true) (hini : (Cond.initialized cls).before args s = true) (hat : ∀ w ∈ vx_at0 own ic cls names, w.before args s = true)
    (hgood : ∀ w ∈ Cond.classLink own ik cls :: Cond.initialized cls :: vx_at0 own ic cls names, vx_ot w = true)
    (hU : vx_Zq Bundle.tN "UNASSIGNED_STACK" Bundle.steD A s s.heap) (hN : vx_Zq Bundle.tN "SUPPRESSED_SENTINEL" Bundle.listD A s s.heap) (hS : va_S A s.heap H locs) (hsize : ls.size = c.maxLocals)
    (d0 : decode cc pc = .ok (.new ik, 3)) (d3 : decode cc (pc + 3) = .ok (.dup, 1)) (d4 : decode cc (pc + 4) = .ok (.invokespecial ic, 3)) (d7 : decode cc (pc + 7) = .ok (.athrow, 1))
    (hout : ∀ x ∈ c.exceptionTable.toList, covers x (pc + 7) = false)
    (hRframes : names.length + 3 < R.frames) (hRlocals : (rest.map fun v => v.category).sum + (13 * (names.length + 1) + 42) ≤ R.locals) (hRcells : cells + 1 ≤ R.cells) (hRslots : slots + 6 ≤ R.slots) (hlocks : meth.locks = false)
    (hx : ∀ t : State, s.vm.Alike t.vm → H.size ≤ t.heap.size → (∀ q : Nat, q < H.size → t.heap[q]? = H[q]?) → XC cls s t)
    (hf : ∀ z ∈ locs, free z.base) (hc : cells + 1 ≤ mc) (hs : slots + 6 ≤ ms) :
    W p l e R s m args below meth c H locs cells slots (vx_MQ below Qc XC args s mc ms free) (F0 m pc ls rest) := by
  intro T hT X
  have htr : e.platform.stackTraces = false := (show e.platform.stackTraces = l.stackTraces by rw [X.admits.platform]).trans hl
  have Y := vx_rebase X (R' := { frames := R.frames, locals := R.locals, cells := 1, slots := 6 }) (Nat.le_refl _) (Nat.le_refl _) hRcells hRslots
  obtain ⟨s', hA⟩ : ∃ z, z = (T.setVm s.vm).setFrames (.invoking m args :: below) := ⟨_, rfl⟩
  rw [← hA] at Y
  have hvm : s'.vm = s.vm := by rw [hA]; rfl
  have hhp : s'.heap = H := by rw [hA]; exact hT
  have hW0 : s.WarmedH s'.vm := by rw [hvm]; exact State.WarmedH.refl s
  have hat' : ∀ w ∈ vx_at0 own ic cls names, w.before args s' = true := fun w hw => vx_ot_at hW0 hvm.symm (hgood w (List.mem_cons_of_mem _ (List.mem_cons_of_mem _ hw))) (hat w hw)
  have hk' : (Cond.classLink own ik cls).before args s' = true := vx_ot_at hW0 hvm.symm (hgood _ List.mem_cons_self) hk
  have hini' : (Cond.initialized cls).before args s' = true := vx_ot_at hW0 hvm.symm (hgood _ (List.mem_cons_of_mem _ List.mem_cons_self)) hini
  have hU' : vx_Zq Bundle.tN "UNASSIGNED_STACK" Bundle.steD A s' s'.heap := by rw [hhp]; exact vx_Zq.moved hW0.alike (hU.kept hS.2.1)
  have hN' : vx_Zq Bundle.tN "SUPPRESSED_SENTINEL" Bundle.listD A s' s'.heap := by rw [hhp]; exact vx_Zq.moved hW0.alike (hN.kept hS.2.1)
  have h : ∀ w ∈ Bundle.ownAtoms0 own ic cls names, w.before args s' = true := vx_own hat' (vx_isRefq hU'.1) (vx_isRefq hN'.1) hU'.2.word hN'.2.word
  have hown' : s'.vm.findClass own = some m.cls := by rw [hvm]; exact hown
  have hins : (Cond.instantiable cls 6).before args s' = true := h _ (by simp [Bundle.ownAtoms0])
  obtain ⟨vm₁, cX, kX, hfX, hkX, -, -, X₁, st1⟩ := Y.newCold hexec (own := own) (C := cls) (index := ik) (n := 6) hown' hk' hins hini'
    (g := F0 m pc ls rest) rfl (by rw [hb]; exact d0) (Nat.le_refl _) (Nat.le_refl _)
  generalize hT1 : (T.setVm vm₁).pushCell { cls := cX, slots := kX.instanceTypes.map defaultValue, vm := .none } = T1 at X₁ st1
  have hcat : (Value.ref T.heap.size).category = 1 := rfl
  have hcellA : T1.heap[T.heap.size]? = some (freshCell cX kX) := by rw [← hT1]; exact State.heap_pushCell_size _ _
  have d3' : decode c.code (pc + 3) = .ok (.dup, 1) := by rw [hb]; exact d3
  obtain ⟨U, hsteps, hrun, hend, hW, hsame, ce, hce, hO⟩ := X₁.ctorThrow0 hexec htr (own := own) (cls := cls) (names := names) (ic := ic) hown' hcls hnames h (fun x hx => nomatch hx) hfX hkX hcellA (by rw [hhp, hT]; exact Nat.le_refl _)
    (g := { method := m, pc := pc + 4, locals := ls, stack := .ref T.heap.size :: .ref T.heap.size :: rest, locked := none }) rfl hsize rfl rfl (rest := rest) rfl
    (by rw [hb]; exact d4) (by rw [hb]; exact d7) hout hRframes (by simp only [List.map_cons, List.sum_cons, hcat]; omega) hlocks
  obtain ⟨f1, f2⟩ := vx_frame hsame
  rw [hhp] at f1 f2
  have hWs : s.WarmedH U.vm := State.WarmedH.trans hW0 hW
  have hcl : s.vm.findClass cls = some ce.cls := by
    have h9 := hO.cls
    rw [hvm] at h9
    exact h9
  have hall : s.sameButNew ({ U with vm := s.vm } : State) locs mc ms := by
    subst hA
    obtain ⟨e1, e2⟩ := hsame
    rw [State.setFrames_setFrames] at e1
    have h2 : (T.setVm s.vm).sameButNew ({ U with vm := s.vm } : State) [] (0 + 1) (0 + 6) := ⟨e1, e2⟩
    have h3 := X.same.trans h2
    rw [List.append_nil] at h3
    exact h3.mono hc hs
  refine ⟨U, ?_, .threw T.heap.size, hrun, hend, Or.inr ⟨T.heap.size, rfl, cls, ce, locs, hx U hWs.alike f1 (fun q hq => f2 q hq (fun z hz => nomatch hz)), hce, hO.vm, hcl, hWs, hall, hf⟩⟩
  refine st1 _ ?_
  show Steps p.tables e below (T1.setTop { method := m, pc := pc + 3, locals := ls, stack := .ref T.heap.size :: rest, locked := none }) _
  jvm_step X₁.here [X₁.here.top, hexec, d3', Value.category]
  exact hsteps
/-- 'throw new E("text")': new; dup; ldc; invokespecial; athrow -/
theorem vx_throwS {cc : ByteArray} {pc : Nat} (hexec : p.tables.exec = Jvm.exec) (hb : c.code = cc) (hl : l.stackTraces = false) {own cls text : String} {names : List String} {ik is ic mc ms sa : Nat} {A : Nat → Prop}
    (hown : s.vm.findClass own = some m.cls) (hcls : Bundle.fit cls = true) (hnames : ∀ n ∈ names, Bundle.fit n = true)
    (hk : (Cond.classLink own ik cls).before args s = true) (hini : (Cond.initialized cls).before args s = true) (hstr : vk_R own is text sa s) (hat : ∀ w ∈ vx_atS own ic cls names, w.before args s = true)
    (hgood : ∀ w ∈ Cond.classLink own ik cls :: Cond.initialized cls :: vx_atS own ic cls names, vx_ot w = true)
    (hU : vx_Zq Bundle.tN "UNASSIGNED_STACK" Bundle.steD A s s.heap) (hN : vx_Zq Bundle.tN "SUPPRESSED_SENTINEL" Bundle.listD A s s.heap) (hS : va_S A s.heap H locs) (hsize : ls.size = c.maxLocals)
    (d0 : decode cc pc = .ok (.new ik, 3)) (d3 : decode cc (pc + 3) = .ok (.dup, 1)) (d4 : decode cc (pc + 4) = .ok (.ldc is, 2)) (d6 : decode cc (pc + 6) = .ok (.invokespecial ic, 3)) (d9 : decode cc (pc + 9) = .ok (.athrow, 1))
    (hout : ∀ x ∈ c.exceptionTable.toList, covers x (pc + 9) = false)
    (hRframes : names.length + 3 < R.frames) (hRlocals : (rest.map fun v => v.category).sum + (13 * (names.length + 1) + 43) ≤ R.locals) (hRcells : cells + 1 ≤ R.cells) (hRslots : slots + 6 ≤ R.slots) (hlocks : meth.locks = false)
    (hx : ∀ t : State, s.vm.Alike t.vm → H.size ≤ t.heap.size → (∀ q : Nat, q < H.size → t.heap[q]? = H[q]?) → XC cls s t)
    (hf : ∀ z ∈ locs, free z.base) (hc : cells + 1 ≤ mc) (hs : slots + 6 ≤ ms) :
    W p l e R s m args below meth c H locs cells slots (vx_MQ below Qc XC args s mc ms free) (F0 m pc ls rest) := by
  intro T hT X
  have htr : e.platform.stackTraces = false := (show e.platform.stackTraces = l.stackTraces by rw [X.admits.platform]).trans hl
  have Y := vx_rebase X (R' := { frames := R.frames, locals := R.locals, cells := 1, slots := 6 }) (Nat.le_refl _) (Nat.le_refl _) hRcells hRslots
  obtain ⟨s', hA⟩ : ∃ z, z = (T.setVm s.vm).setFrames (.invoking m args :: below) := ⟨_, rfl⟩
  rw [← hA] at Y
  have hvm : s'.vm = s.vm := by rw [hA]; rfl
  have hhp : s'.heap = H := by rw [hA]; exact hT
  have hW0 : s.WarmedH s'.vm := by rw [hvm]; exact State.WarmedH.refl s
  have hat' : ∀ w ∈ vx_atS own ic cls names, w.before args s' = true := fun w hw => vx_ot_at hW0 hvm.symm (hgood w (List.mem_cons_of_mem _ (List.mem_cons_of_mem _ hw))) (hat w hw)
  have hk' : (Cond.classLink own ik cls).before args s' = true := vx_ot_at hW0 hvm.symm (hgood _ List.mem_cons_self) hk
  have hini' : (Cond.initialized cls).before args s' = true := vx_ot_at hW0 hvm.symm (hgood _ (List.mem_cons_of_mem _ List.mem_cons_self)) hini
  have hU' : vx_Zq Bundle.tN "UNASSIGNED_STACK" Bundle.steD A s' s'.heap := by rw [hhp]; exact vx_Zq.moved hW0.alike (hU.kept hS.2.1)
  have hN' : vx_Zq Bundle.tN "SUPPRESSED_SENTINEL" Bundle.listD A s' s'.heap := by rw [hhp]; exact vx_Zq.moved hW0.alike (hN.kept hS.2.1)
  have h : ∀ w ∈ Bundle.ownAtoms own ic cls names, w.before args s' = true := vx_own hat' (vx_isRefq hU'.1) (vx_isRefq hN'.1) hU'.2.word hN'.2.word
  have hown' : s'.vm.findClass own = some m.cls := by rw [hvm]; exact hown
  have hins : (Cond.instantiable cls 6).before args s' = true := h _ (by simp [Bundle.ownAtoms])
  obtain ⟨vm₁, cX, kX, hfX, hkX, -, -, X₁, st1⟩ := Y.newCold hexec (own := own) (C := cls) (index := ik) (n := 6) hown' hk' hins hini'
    (g := F0 m pc ls rest) rfl (by rw [hb]; exact d0) (Nat.le_refl _) (Nat.le_refl _)
  generalize hT1 : (T.setVm vm₁).pushCell { cls := cX, slots := kX.instanceTypes.map defaultValue, vm := .none } = T1 at X₁ st1
  have hcat : (Value.ref T.heap.size).category = 1 := rfl
  have hcellA : T1.heap[T.heap.size]? = some (freshCell cX kX) := by rw [← hT1]; exact State.heap_pushCell_size _ _
  have d3' : decode c.code (pc + 3) = .ok (.dup, 1) := by rw [hb]; exact d3
  have d4' : decode c.code (pc + 4) = .ok (.ldc is, 2) := by rw [hb]; exact d4
  have hstr' : vk_R own is text sa s' := vk_R.warm hW0 hstr
  obtain ⟨U, hsteps, hrun, hend, hW, hsame, ce, hce, hO⟩ := X₁.ctorThrowS hexec htr (own := own) (cls := cls) (names := names) (ic := ic) hown' hcls hnames h (fun x hx => nomatch hx) hfX hkX hcellA (by rw [hhp, hT]; exact Nat.le_refl _) (msg := .ref sa) rfl
    (g := { method := m, pc := pc + 6, locals := ls, stack := .ref sa :: .ref T.heap.size :: .ref T.heap.size :: rest, locked := none }) rfl hsize rfl rfl (rest := rest) rfl
    (by rw [hb]; exact d6) (by rw [hb]; exact d9) hout hRframes (by simp only [List.map_cons, List.sum_cons, hcat]; omega) hlocks
  obtain ⟨f1, f2⟩ := vx_frame hsame
  rw [hhp] at f1 f2
  have hWs : s.WarmedH U.vm := State.WarmedH.trans hW0 hW
  have hcl : s.vm.findClass cls = some ce.cls := by
    have h9 := hO.cls
    rw [hvm] at h9
    exact h9
  have hall : s.sameButNew ({ U with vm := s.vm } : State) locs mc ms := by
    subst hA
    obtain ⟨e1, e2⟩ := hsame
    rw [State.setFrames_setFrames] at e1
    have h2 : (T.setVm s.vm).sameButNew ({ U with vm := s.vm } : State) [] (0 + 1) (0 + 6) := ⟨e1, e2⟩
    have h3 := X.same.trans h2
    rw [List.append_nil] at h3
    exact h3.mono hc hs
  refine ⟨U, ?_, .threw T.heap.size, hrun, hend, Or.inr ⟨T.heap.size, rfl, cls, ce, locs, hx U hWs.alike f1 (fun q hq => f2 q hq (fun z hz => nomatch hz)), hce, hO.vm, hcl, hWs, hall, hf⟩⟩
  refine st1 _ ?_
  show Steps p.tables e below (T1.setTop { method := m, pc := pc + 3, locals := ls, stack := .ref T.heap.size :: rest, locked := none }) _
  jvm_step X₁.here [X₁.here.top, hexec, d3', Value.category]
  exact X₁.ldcString hexec (own := own) (text := text) (index := is) (a := sa) hown' hstr'.1 hstr'.2
    (g := { method := m, pc := pc + 4, locals := ls, stack := .ref T.heap.size :: .ref T.heap.size :: rest, locked := none }) rfl d4' _ hsteps
/-- 'throw new E("text")', the text by a wide index -/
theorem vx_throwSW {cc : ByteArray} {pc : Nat} (hexec : p.tables.exec = Jvm.exec) (hb : c.code = cc) (hl : l.stackTraces = false) {own cls text : String} {names : List String} {ik is ic mc ms sa : Nat} {A : Nat → Prop}
    (hown : s.vm.findClass own = some m.cls) (hcls : Bundle.fit cls = true) (hnames : ∀ n ∈ names, Bundle.fit n = true)
    (hk : (Cond.classLink own ik cls).before args s = true) (hini : (Cond.initialized cls).before args s = true) (hstr : vk_R own is text sa s) (hat : ∀ w ∈ vx_atS own ic cls names, w.before args s = true)
    (hgood : ∀ w ∈ Cond.classLink own ik cls :: Cond.initialized cls :: vx_atS own ic cls names, vx_ot w = true)
    (hU : vx_Zq Bundle.tN "UNASSIGNED_STACK" Bundle.steD A s s.heap) (hN : vx_Zq Bundle.tN "SUPPRESSED_SENTINEL" Bundle.listD A s s.heap) (hS : va_S A s.heap H locs) (hsize : ls.size = c.maxLocals)
    (d0 : decode cc pc = .ok (.new ik, 3)) (d3 : decode cc (pc + 3) = .ok (.dup, 1)) (d4 : decode cc (pc + 4) = .ok (.ldc_w is, 3)) (d7 : decode cc (pc + 7) = .ok (.invokespecial ic, 3)) (d10 : decode cc (pc + 10) = .ok (.athrow, 1))
    (hout : ∀ x ∈ c.exceptionTable.toList, covers x (pc + 10) = false)
    (hRframes : names.length + 3 < R.frames) (hRlocals : (rest.map fun v => v.category).sum + (13 * (names.length + 1) + 43) ≤ R.locals) (hRcells : cells + 1 ≤ R.cells) (hRslots : slots + 6 ≤ R.slots) (hlocks : meth.locks = false)
    (hx : ∀ t : State, s.vm.Alike t.vm → H.size ≤ t.heap.size → (∀ q : Nat, q < H.size → t.heap[q]? = H[q]?) → XC cls s t)
    (hf : ∀ z ∈ locs, free z.base) (hc : cells + 1 ≤ mc) (hs : slots + 6 ≤ ms) :
    W p l e R s m args below meth c H locs cells slots (vx_MQ below Qc XC args s mc ms free) (F0 m pc ls rest) := by
  intro T hT X
  have htr : e.platform.stackTraces = false := (show e.platform.stackTraces = l.stackTraces by rw [X.admits.platform]).trans hl
  have Y := vx_rebase X (R' := { frames := R.frames, locals := R.locals, cells := 1, slots := 6 }) (Nat.le_refl _) (Nat.le_refl _) hRcells hRslots
  obtain ⟨s', hA⟩ : ∃ z, z = (T.setVm s.vm).setFrames (.invoking m args :: below) := ⟨_, rfl⟩
  rw [← hA] at Y
  have hvm : s'.vm = s.vm := by rw [hA]; rfl
  have hhp : s'.heap = H := by rw [hA]; exact hT
  have hW0 : s.WarmedH s'.vm := by rw [hvm]; exact State.WarmedH.refl s
  have hat' : ∀ w ∈ vx_atS own ic cls names, w.before args s' = true := fun w hw => vx_ot_at hW0 hvm.symm (hgood w (List.mem_cons_of_mem _ (List.mem_cons_of_mem _ hw))) (hat w hw)
  have hk' : (Cond.classLink own ik cls).before args s' = true := vx_ot_at hW0 hvm.symm (hgood _ List.mem_cons_self) hk
  have hini' : (Cond.initialized cls).before args s' = true := vx_ot_at hW0 hvm.symm (hgood _ (List.mem_cons_of_mem _ List.mem_cons_self)) hini
  have hU' : vx_Zq Bundle.tN "UNASSIGNED_STACK" Bundle.steD A s' s'.heap := by rw [hhp]; exact vx_Zq.moved hW0.alike (hU.kept hS.2.1)
  have hN' : vx_Zq Bundle.tN "SUPPRESSED_SENTINEL" Bundle.listD A s' s'.heap := by rw [hhp]; exact vx_Zq.moved hW0.alike (hN.kept hS.2.1)
  have h : ∀ w ∈ Bundle.ownAtoms own ic cls names, w.before args s' = true := vx_own hat' (vx_isRefq hU'.1) (vx_isRefq hN'.1) hU'.2.word hN'.2.word
  have hown' : s'.vm.findClass own = some m.cls := by rw [hvm]; exact hown
  have hins : (Cond.instantiable cls 6).before args s' = true := h _ (by simp [Bundle.ownAtoms])
  obtain ⟨vm₁, cX, kX, hfX, hkX, -, -, X₁, st1⟩ := Y.newCold hexec (own := own) (C := cls) (index := ik) (n := 6) hown' hk' hins hini'
    (g := F0 m pc ls rest) rfl (by rw [hb]; exact d0) (Nat.le_refl _) (Nat.le_refl _)
  generalize hT1 : (T.setVm vm₁).pushCell { cls := cX, slots := kX.instanceTypes.map defaultValue, vm := .none } = T1 at X₁ st1
  have hcat : (Value.ref T.heap.size).category = 1 := rfl
  have hcellA : T1.heap[T.heap.size]? = some (freshCell cX kX) := by rw [← hT1]; exact State.heap_pushCell_size _ _
  have d3' : decode c.code (pc + 3) = .ok (.dup, 1) := by rw [hb]; exact d3
  have d4' : decode c.code (pc + 4) = .ok (.ldc_w is, 3) := by rw [hb]; exact d4
  have hstr' : vk_R own is text sa s' := vk_R.warm hW0 hstr
  obtain ⟨U, hsteps, hrun, hend, hW, hsame, ce, hce, hO⟩ := X₁.ctorThrowS hexec htr (own := own) (cls := cls) (names := names) (ic := ic) hown' hcls hnames h (fun x hx => nomatch hx) hfX hkX hcellA (by rw [hhp, hT]; exact Nat.le_refl _) (msg := .ref sa) rfl
    (g := { method := m, pc := pc + 7, locals := ls, stack := .ref sa :: .ref T.heap.size :: .ref T.heap.size :: rest, locked := none }) rfl hsize rfl rfl (rest := rest) rfl
    (by rw [hb]; exact d7) (by rw [hb]; exact d10) hout hRframes (by simp only [List.map_cons, List.sum_cons, hcat]; omega) hlocks
  obtain ⟨f1, f2⟩ := vx_frame hsame
  rw [hhp] at f1 f2
  have hWs : s.WarmedH U.vm := State.WarmedH.trans hW0 hW
  have hcl : s.vm.findClass cls = some ce.cls := by
    have h9 := hO.cls
    rw [hvm] at h9
    exact h9
  have hall : s.sameButNew ({ U with vm := s.vm } : State) locs mc ms := by
    subst hA
    obtain ⟨e1, e2⟩ := hsame
    rw [State.setFrames_setFrames] at e1
    have h2 : (T.setVm s.vm).sameButNew ({ U with vm := s.vm } : State) [] (0 + 1) (0 + 6) := ⟨e1, e2⟩
    have h3 := X.same.trans h2
    rw [List.append_nil] at h3
    exact h3.mono hc hs
  refine ⟨U, ?_, .threw T.heap.size, hrun, hend, Or.inr ⟨T.heap.size, rfl, cls, ce, locs, hx U hWs.alike f1 (fun q hq => f2 q hq (fun z hz => nomatch hz)), hce, hO.vm, hcl, hWs, hall, hf⟩⟩
  refine st1 _ ?_
  show Steps p.tables e below (T1.setTop { method := m, pc := pc + 3, locals := ls, stack := .ref T.heap.size :: rest, locked := none }) _
  jvm_step X₁.here [X₁.here.top, hexec, d3', Value.category]
  exact X₁.ldcStringW hexec (own := own) (text := text) (index := is) (a := sa) hown' hstr'.1 hstr'.2
    (g := { method := m, pc := pc + 4, locals := ls, stack := .ref T.heap.size :: .ref T.heap.size :: rest, locked := none }) rfl d4' _ hsteps
end Ends
section Bodies
variable {l : Launch}
theorem vx_ofW {y : MethodName} {ws ws' : List Cond} {rm : Room} {Pc : Array Value → State → Prop} {Qc : Array Value → State → Outcome → State → Prop} {XC : String → State → State → Prop} {mc ms : Nat} {free : Addr → Prop} {cc : ByteArray} {maxL : Nat} {ret : Option FieldType}
    (hy : plainName y.cls = true) (hw : ws = Cond.code y cc maxL ret :: ws')
    (body : ∀ p e s m args below meth c s₁, BodyLoose p l y (headSpec ws rm) cc maxL ret e s m args below meth c s₁ → c.maxLocals = maxL → (∀ x ∈ c.exceptionTable.toList, False) → Pc args s →
      W p l e (headSpec ws rm).room s m args below meth c s.heap [] 0 0 (vx_MQ below Qc XC args s mc ms free) (entryFrame m args maxL)) : vx_Met l y ws rm Pc Qc XC mc ms free := by
  refine MetFree.of_bodyS (code := cc) (maxLocals := maxL) (ret := ret) hy ?_ ?_
  · intro args s m h hn
    obtain ⟨meth, c, h1, h2, h3, h4, h5, h6, -, -⟩ := Cond.code_spec hn (atoms_spec (ws := ws) h _ (by rw [hw]; exact List.mem_cons_self))
    exact ⟨meth, c, h1, h2, h3, h4, h5, h6⟩
  · intro p e s m args below meth c s₁ B hml hP _
    have hh0 : s₁.heap = s.heap := by rw [B.state]; rfl
    have ht : ∀ x ∈ c.exceptionTable.toList, False := by
      obtain ⟨meth9, c9, h1, h2, -, -, -, -, h7, -⟩ := Cond.code_spec B.named (atoms_spec (ws := ws) B.pre _ (by rw [hw]; exact List.mem_cons_self))
      cases Option.some.inj (h1.symm.trans B.method)
      cases Option.some.inj (h2.symm.trans (Stand.of_body B).code)
      intro x hx
      rw [Array.isEmpty_iff.mp h7] at hx
      cases hx
    obtain ⟨t, a1, o, b1, b2, b3⟩ := body p e s m args below meth c s₁ B hml ht hP s₁ hh0 (Stand.of_body B)
    exact ⟨t, o, a1, b1, b2, b3⟩
/-- the table of a body with handlers -/
theorem vx_table {p : Program} {x y : MethodName} {S : Spec} {cc bytes : ByteArray} {maxL maxL' : Nat} {ret ret' : Option FieldType} {e : Env} {s s₁ : State} {m : MethodId} {args : Array Value} {below : List Frame} {meth : Method} {c : Code} {hh : List (Nat × Nat × Nat × Nat)}
    (B : BodyLoose p l y S cc maxL ret e s m args below meth c s₁) (h : (Cond.codeWith y bytes maxL' ret' hh).before args s = true) : c.exceptionTable.toList = tableOf hh := by
  obtain ⟨m9, meth9, c9, hn9, h1, h2, -, -, h6, -⟩ := Cond.codeWith_spec h
  cases Option.some.inj (hn9.symm.trans B.named)
  cases Option.some.inj (h1.symm.trans B.method)
  cases Option.some.inj (h2.symm.trans (Stand.of_body B).code)
  rw [← h6, table_eq]
end Bodies
end VXA
/-! ===== END ===== -/
/-! ===== BEGIN a static call of a method with an exception table ===== -/
section VXS
variable {p : Program} {l : Launch} {e : Env} {R : Room} {s : State} {m : MethodId} {args : Array Value} {below : List Frame} {meth : Method} {c : Code} {T : State} {H : Heap} {locs : List Loc} {cells slots : Nat}
abbrev vx_CSW (R : Room) (s : State) (args : Array Value) (own : String) (index : Nat) (y : MethodName) (bytes : ByteArray) (maxL : Nat) (ret : Option FieldType) (hh : List (Nat × Nat × Nat × Nat)) (ws : List Cond) (rm : Room) (mc ms n : Nat) : Prop :=
  (rm.cells = mc ∧ rm.slots = ms ∧ rm.frames + 1 ≤ R.frames ∧ 8 + (maxL + 11) + rm.locals ≤ R.locals ∧ (∀ w ∈ ws, ∀ (a' : Array Value) (U : State), s.WarmedH U.vm → w.before a' U = true) ∧ Cond.codeWith y bytes maxL ret hh ∈ ws) ∧
  (Cond.codeWith y bytes maxL ret hh).before args s = true ∧ (Cond.initialized y.cls).before args s = true ∧ (y.cls ≠ "java/lang/invoke/MethodHandle" ∧ y.cls ≠ "java/lang/invoke/VarHandle") ∧
  (∀ sig, parseMethodDescriptor y.desc = some sig → n = sig.parameters.length) ∧ (Cond.methodLink own index y).before args s = true ∧ (Cond.static y).before args s = true
theorem vx_cwSW {own : String} {index maxL mc ms : Nat} {y : MethodName} {bytes : ByteArray} {ret : Option FieldType} {hh : List (Nat × Nat × Nat × Nat)} {Ts ws ws' : List Cond} {rm : Room} (n : Nat) (ht : ∀ w ∈ Ts, w.before args s = true) (hT : GoodIn Ts (va_wsS own index y ws)) (hw : ws = Cond.codeWith y bytes maxL ret hh :: ws') (hrc : rm.cells = mc) (hrs : rm.slots = ms)
    (hd : y.cls ≠ "java/lang/invoke/MethodHandle" ∧ y.cls ≠ "java/lang/invoke/VarHandle" ∧ (parseMethodDescriptor y.desc).map (fun d => d.parameters.length) = some n) (hR : rm.frames + 1 ≤ R.frames ∧ 8 + (maxL + 11) + rm.locals ≤ R.locals) :
    vx_CSW R s args own index y bytes maxL ret hh ws rm mc ms n := by
  have ok : ∀ w ∈ va_wsS own index y ws, w.before args s = true := fun w h => ht w (hT w h).1
  have hG : GoodIn Ts ws := fun w h => hT w (by unfold va_wsS; exact List.mem_append_right _ h)
  have hc : Cond.codeWith y bytes maxL ret hh ∈ ws := by rw [hw]; exact List.mem_cons_self
  refine ⟨⟨hrc, hrs, hR.1, hR.2, pay_in ht hG, hc⟩, ht _ (hG _ hc).1, ok _ (by simp [va_wsS]), ⟨hd.1, hd.2.1⟩, fun sig h => ?_, ok _ (by simp [va_wsS]), ok _ (by simp [va_wsS])⟩
  have h2 := hd.2.2
  rw [h] at h2
  exact (Option.some.inj h2).symm
theorem vx_callSW (X : Stand p l e R s m args below meth c T locs cells slots) (hexec : p.tables.exec = Jvm.exec) {own : String} {index : Nat} {y : MethodName} {bytes : ByteArray} {maxL : Nat} {ret : Option FieldType} {hh : List (Nat × Nat × Nat × Nat)}
    (hown : s.vm.findClass own = some m.cls) (hlink : (Cond.methodLink own index y).before args s = true) (hstat : (Cond.static y).before args s = true) (hinit : (Cond.initialized y.cls).before args s = true)
    (hcode : (Cond.codeWith y bytes maxL ret hh).before args s = true) (hy : y.cls ≠ "java/lang/invoke/MethodHandle" ∧ y.cls ≠ "java/lang/invoke/VarHandle")
    {W9 : Nat} {Pre : Pt → Array Value → Prop} {Post : Pt → Array Value → Option Value → Pt → Prop} (hK : Back l R p e below s args y 3 W9 Pre Post)
    {g : JFrame} (hg : g.method = m) (hsize : g.locals.size = c.maxLocals) {argsL rest : List Value} (hlen : ∀ sig, parseMethodDescriptor y.desc = some sig → argsL.length = sig.parameters.length)
    (hstack : g.stack = argsL.reverse ++ rest) (hW : 2 * g.monitorRoom + (rest.map fun v => v.category).sum ≤ W9) (hdg : decode c.code g.pc = .ok (.invokestatic index, 3))
    (hpre : ∀ vm₁, s.WarmedH vm₁ → Pre ⟨T.setVm vm₁, locs, cells, slots⟩ argsL.toArray) :
    ∃ (v : Option Value) (vm₁ : Vm) (B : Pt), s.WarmedH vm₁ ∧ Stand p l e R s m args below meth c B.U B.locs B.cells B.slots ∧ Post ⟨T.setVm vm₁, locs, cells, slots⟩ argsL.toArray v B ∧
      ∀ target, Steps p.tables e below (B.U.setTop { g with pc := g.pc + 3, stack := v.toList ++ rest }) target → Steps p.tables e below (T.setTop g) target := by
  obtain ⟨mk, methM, cM, hnamed, hmethM, -, -, -, -, -, -, hsigM⟩ := Cond.codeWith_spec hcode
  have hstatic : methM.isStatic = true := Cond.static_spec hnamed hmethM hstat
  obtain ⟨kP, hkP, -⟩ := className_of_methodNamed hnamed
  have hinitP : kP.init = .initialized := Cond.initialized_spec (findClass_of_methodNamed hnamed) hkP hinit
  obtain ⟨vm₁, X₁, hstep₁⟩ := X.invokestatic hexec hown hlink hnamed hmethM hstatic hkP hinitP hy (g := g) hg (argsL := argsL) (rest := rest) (hlen _ hsigM) hstack hdg
  obtain ⟨v, B, X', hpost, hsteps⟩ := hK m meth c ⟨T.setVm vm₁, locs, cells, slots⟩ { g with stack := rest } (.invokestatic index) mk argsL.toArray X₁ hg hsize hdg hW (X₁.named hnamed) (hpre vm₁ X₁.warmed)
  exact ⟨v, vm₁, B, X₁.warmed, X', hpost, fun target h => hstep₁ _ fun acts => by rw [doInvoke_state]; exact hsteps.trans h⟩
theorem vx_runSW {y : MethodName} {bytes cc : ByteArray} {maxL nL mc ms n index : Nat} {ret : Option FieldType} {hh : List (Nat × Nat × Nat × Nat)} {ws : List Cond} {rm : Room} {Pc : Array Value → State → Prop} {Qc : Array Value → State → Outcome → State → Prop} {free : Addr → Prop} {Ts : List Cond} {own : String} {As rest : List Value} {g : JFrame}
    (S : CallFix p m c cc nL s args Ts own) (hM : Met l y ws rm Pc Qc mc ms free) (cw : vx_CSW R s args own index y bytes maxL ret hh ws rm mc ms n) (hp : PreS s H Pc As)
    (hg : g.method = m) (hn : As.length = n) (hsize : g.locals.size = nL) (hstack : g.stack = As.reverse ++ rest) (hW : 2 * g.monitorRoom + (rest.map fun v => v.category).sum ≤ 8) (hdg : decode cc g.pc = .ok (.invokestatic index, 3)) (hf : cells + mc ≤ R.cells ∧ slots + ms ≤ R.slots) :
    va_Run p l e R s m args below meth c H locs cells slots mc ms g rest (Qc As.toArray) (free) := by
  obtain ⟨⟨hrc, hrs, hfr, hlo, hws, hcw⟩, hcode, hini, hy, hlen, hl, hstt⟩ := cw
  have hK : Back l R p e below s args y 3 8 (PreOf R mc ms Pc) (PostOf Qc mc ms free) := va_backW (hh := hh) (bytes := bytes) (maxL := maxL) (ret := ret) hM hp.1 hrc hrs hfr hlo hws hcw (fun a' U hW => word_at hW (Or.inl (by first | rfl | simp [Cond.onTables, Cond.keeps, Cond.steady])) hini)
  obtain ⟨hx, hb, hml, ho, -⟩ := S
  intro T hT X
  obtain ⟨v, vm₁, ⟨U', l2, c2, s2⟩, hW₁, X', ⟨g', mk, t, L, e1, e2, hq, h1, hL, h2, h3⟩, st⟩ := vx_callSW X hx (hh := hh) (bytes := bytes) (maxL := maxL) (ret := ret) ho hl hstt hini hcode hy hK hg (hsize.trans hml.symm) (argsL := As) (rest := rest) (fun sig h => hn.trans (hlen sig h)) hstack hW (by rw [hb]; exact hdg)
    (fun vm₁ hW₁ => ⟨hf.1, hf.2, hp.2 (T.setVm vm₁) hT hW₁⟩)
  dsimp only [Pt.U, Pt.locs, Pt.cells, Pt.slots] at X' e1 e2 h1 h2 h3 st
  subst h1; subst h2; subst h3
  exact ⟨v, (T.setVm vm₁).calling g' mk As.toArray, t, U', L, hT, X', hL, e1, e2, hq, st⟩
/-- not caught here, past rows that name other classes: it goes on to the caller -/
theorem vx_outP {p : Program} {l : Launch} {e : Env} {R : Room} {s : State} {m : MethodId} {args : Array Value} {below : List Frame} {meth : Method} {c : Code} {H : Heap} {locs : List Loc} {cells slots : Nat} {free : Addr → Prop} {ls : Array Slot} {rest : List Value} {Qc : Array Value → State → Outcome → State → Prop} {XC : String → State → State → Prop}
    {pc : Nat} {own E : String} {ce : Cell} {q : Addr} {mc ms : Nat} (hown : s.vm.findClass own = some m.cls) (hlocks : meth.locks = false)
    (hpass : ∀ z ∈ c.exceptionTable.toList, covers z pc = false ∨ (z.catchType ≠ 0 ∧ ∃ nm : String, (Cond.classLink own z.catchType nm).before args s = true ∧ va_Nc E nm s)) (hcell : H[q]? = some ce) (hv : ce.vm = .none) (hcl : s.vm.findClass E = some ce.cls)
    (hx : ∀ t : State, t.heap = H → s.vm.Alike t.vm → XC E s t) (hf : ∀ z ∈ locs, free z.base) (hc : cells ≤ mc) (hs : slots ≤ ms) :
    vx_W p l e R s m args below meth c H locs cells slots (vx_MQ below Qc XC args s mc ms free) (F0 m pc ls rest) q := by
  intro T hT X
  have hpl : e.platform.magicAccessors = ({} : Platform).magicAccessors := by rw [X.admits.platform]
  obtain ⟨vm', hW', X', st⟩ := X.outThrough hlocks q (g := F0 m pc ls rest) rfl rfl rfl (cell := ce) (by rw [hT]; exact hcell) (by rw [hv]; rfl)
    (by obtain ⟨k9, h9, -⟩ := Vm.findClass_spec hcl; exact ⟨k9, h9⟩) (fun z hz => by
      rcases hpass z hz with h | ⟨hz0, nm, hl1, hn1⟩
      · exact Or.inl h
      · obtain ⟨c6, hc6, hcl6⟩ := Cond.classLink_spec hown hl1 e.platform hpl
        obtain ⟨a8, b8, h1, h2, h3⟩ := hn1
        cases Option.some.inj (h1.symm.trans hcl)
        cases Option.some.inj (h2.symm.trans hc6)
        exact Or.inr ⟨hz0, _, hcl6, h3⟩)
  obtain ⟨g₀, hfr⟩ := X'.frames_eq
  have hcell9 : ((T.setVm vm').setFrames (.throwing q :: below)).heap[q]? = some ce := by
    show T.heap[q]? = some ce
    rw [hT]; exact hcell
  have hend : Ended ((T.setVm vm').setFrames (.throwing q :: below)) below (.threw q) := State.frames_setFrames _ (State.cur_lt_of_frames hfr)
  refine ⟨(T.setVm vm').setFrames (.throwing q :: below), ?_, .threw q, X'.here.running, hend, Or.inr ⟨q, rfl, E, ce, locs, hx _ hT (X'.ends _).1.alike, hcell9, hv, hcl, (X'.ends _).1, (X'.ends _).2.mono hc hs, hf⟩⟩
  rw [X.pushThrowing_eq]
  exact st
/-- a thing of a world lies in the heap -/
theorem vx_lt {D : va_G} {cl : List vw_C} {ws : va_W} {H1 : Heap} (h : va_P D cl ws H1) {k : Nat} {q : Nat × va_E} (hk : ws[k]? = some q) : q.1 < H1.size := (h k q hk).lt
end VXS
/-! ===== END ===== -/
/-! ===== BEGIN methods with a table of their own: called by a name, returning or throwing ===== -/
section VXH
/-! vx_backW, vx_callVX, vx_callSX, vx_callVW, vx_runVW, vx_runVX, vx_runSX, vx_ofWH follow the same proofs as their sisters above (Free/Laws.lean, Shelf42/LK1.lean); vx_outP calls Shelf42/NT130.lean (outThrough). -/
section
variable {l : Launch} {R : Room} {p : Program} {e : Env} {below : List Frame} {s : State} {sargs : Array Value} {y : MethodName} {len W9 : Nat}
theorem vx_backW {ws : List Cond} {rm : Room} {Pc : Array Value → State → Prop} {Qc : Array Value → State → Outcome → State → Prop} {XC : String → State → State → Prop} {mc ms : Nat} {free : Addr → Prop} {bytes : ByteArray} {maxL : Nat} {ret : Option FieldType} {hh : List (Nat × Nat × Nat × Nat)}
    (hM : vx_Met l y ws rm Pc Qc XC mc ms free) (hblind : FrameBlind Pc) (hrc : rm.cells = mc) (hrs : rm.slots = ms)
    (hframes : rm.frames + 1 ≤ R.frames) (hlocals : W9 + (maxL + 11) + rm.locals ≤ R.locals)
    (hws : ∀ w ∈ ws, ∀ a' U, s.WarmedH U.vm → w.before a' U = true) (hcode : Cond.codeWith y bytes maxL ret hh ∈ ws) (hinit : ∀ a' U, s.WarmedH U.vm → (Cond.initialized y.cls).before a' U = true) :
    vx_Back l R p e below s sargs y len W9 (PreOf R mc ms Pc) (PostOf Qc mc ms free) (vx_Post XC mc ms free) := by
  intro m meth c A g ig mk a X hg hsize hdg hW hn hp
  have h1 : (headSpec ws rm).pre.before a A.U = true := atoms_intro fun w hw => hws w hw _ _ X.warmed
  have h2 : (Cond.codeWith y bytes maxL ret hh).before a A.U = true := hws _ hcode _ _ X.warmed
  have h3 : (Cond.initialized y.cls).before a A.U = true := hinit _ _ X.warmed
  have h4 : A.cells + (headSpec ws rm).room.cells ≤ R.cells := by rw [show (headSpec ws rm).room.cells = mc from hrc]; exact hp.1
  have h5 : A.slots + (headSpec ws rm).room.slots ≤ R.slots := by rw [show (headSpec ws rm).room.slots = ms from hrs]; exact hp.2.1
  have hPc : Pc a (A.U.calling g mk a) := hblind _ _ _ _ hp.2.2
  obtain ⟨U, Ls, c0, s0⟩ := A
  dsimp only [Pt.U, Pt.locs, Pt.cells, Pt.slots] at h1 h2 h3 h4 h5 X hn hPc ⊢
  obtain ⟨m9, methY, cY, hn9, hmY, hcY, -, hlY, -⟩ := Cond.codeWith_spec h2
  cases Option.some.inj (hn9.symm.trans hn)
  obtain ⟨kY, hkY, -⟩ := className_of_methodNamed hn
  have hinitY : kY.init = .initialized := Cond.initialized_spec (findClass_of_methodNamed hn) hkY h3
  have h : At U g.method c below := by rw [hg]; exact X.here
  have hlocals9 : W9 + (maxL + 11) + (headSpec ws rm).room.locals ≤ R.locals := hlocals
  have happ : (headSpec ws rm).appliesLoose y e.platform (U.calling g mk a) = true :=
    Spec.appliesLoose_calling (g := g) h hdg hn hkY hinitY
      (X.room_calling (g := g) (R' := (headSpec ws rm).room) hsize hmY hcY hframes (by rw [hlY]; omega) h4 h5) h1
  obtain ⟨mid, hmid⟩ := h.above
  have hfr : (U.setTop g).frames = (.java g :: mid) ++ below := by rw [State.frames_setTop' g h.top, hmid]; rfl
  obtain ⟨o, s₂, hsteps, -, hend, hq⟩ := Steps.callFree hM p X.admits X.cas X.clock (acts := []) hfr happ hPc trivial
  have hq' : vx_Q Qc XC mc ms free a (U.calling g mk a) o s₂ := hq
  rw [State.frames_setTop' g h.top] at hend
  obtain ⟨g₀, hg0⟩ := Option.isSome_iff_exists.mp h.top
  obtain ⟨r, hr⟩ := State.topJava?_eq_some.mp hg0
  have hr' : (({ U with heap := s₂.heap, slotsUsed := s₂.slotsUsed } : State).setVm s₂.vm).frames = .java g₀ :: r := hr
  rcases hq' with ⟨hqc, L, hfe, hL⟩ | ⟨q, rfl, E, ce, L, hx, hce, hcv, hcl, hW₂, hsm, hL⟩
  · obtain ⟨⟨v, rfl⟩, hW₂, e2, q2, q3, q4, q5, q6⟩ := id hfe
    have e3 : s₂ = ({ (U.calling g mk a).setFrames s₂.frames with heap := s₂.heap, slotsUsed := s₂.slotsUsed } : State).setVm s₂.vm := by
      have : s₂ = ({ s₂ with vm := (U.calling g mk a).vm } : State).setVm s₂.vm := rfl
      rw [e2] at this
      exact this
    obtain ⟨c₂, i₂, len₂, hc₂, hd₂, hf₂⟩ := hend
    have hW' : U.WarmedH s₂.vm := hW₂
    have hcc : c₂ = c := by
      have h1 : s₂.code? g.method = U.code? g.method := by
        rw [State.code?_eq, State.code?_eq, hW'.alike.method?]
      exact Option.some.inj (hc₂.symm.trans (h1.trans h.code))
    subst hcc
    have hlen : len₂ = len := by rw [hdg] at hd₂; cases hd₂; rfl
    subst hlen
    have hs₂ : s₂ = (({ U with heap := s₂.heap, slotsUsed := s₂.slotsUsed } : State).setVm s₂.vm).setTop { g with pc := g.pc + len₂, stack := v.toList ++ g.stack } := by
      refine e3.trans ?_
      rw [hf₂, State.calling_eq h.top, State.setFrames_setFrames, State.setTop_of_frames _ hr', hr]
      rfl
    have hsame : U.sameButNew ({ U with heap := s₂.heap, slotsUsed := s₂.slotsUsed } : State) L mc ms := by
      refine ⟨?_, q2, q3, q4, q5, q6⟩
      obtain ⟨t, ht, -⟩ := State.frames_cons hr
      show ({ U with heap := s₂.heap, slotsUsed := s₂.slotsUsed } : State) = { U.setFrames U.frames with heap := s₂.heap, slotsUsed := s₂.slotsUsed }
      rw [State.setFrames_self ht]
    subst hg
    refine Or.inl ⟨v, ⟨(({ U with heap := s₂.heap, slotsUsed := s₂.slotsUsed } : State).setVm s₂.vm), Ls ++ L, c0 + mc, s0 + ms⟩,
      ⟨X.admits, X.cas, X.clock, X.frames, X.room, X.hears, X.method, X.code, (X.here.setHeapUsed s₂.heap s₂.slotsUsed).setVm hW'.alike, X.tail, State.WarmedH.trans X.warmed hW', X.limits, X.bytes, X.same.trans (hsame.setVm s.vm)⟩,
      ⟨g, mk, s₂, L, rfl, rfl, hqc, rfl, hL, rfl, rfl⟩, ?_⟩
    show Steps p.tables e below _ ((({ U with heap := s₂.heap, slotsUsed := s₂.slotsUsed } : State).setVm s₂.vm).setTop { g with pc := g.pc + len₂, stack := v.toList ++ g.stack })
    rw [← hs₂]
    exact hsteps
  · obtain ⟨e2, q2, q3, q4, q5, q6⟩ := id hsm
    have e3 : s₂ = ({ (U.calling g mk a).setFrames s₂.frames with heap := s₂.heap, slotsUsed := s₂.slotsUsed } : State).setVm s₂.vm := by
      have : s₂ = ({ s₂ with vm := (U.calling g mk a).vm } : State).setVm s₂.vm := rfl
      rw [e2] at this
      exact this
    have hf₂ : s₂.frames = .throwing q :: .java g :: U.frames.tail := hend
    have hW' : U.WarmedH s₂.vm := hW₂
    have hs₂ : s₂ = ((({ U with heap := s₂.heap, slotsUsed := s₂.slotsUsed } : State).setVm s₂.vm).setTop g).pushFrame (.throwing q) := by
      refine e3.trans ?_
      rw [hf₂, State.calling_eq h.top, State.setFrames_setFrames, State.pushFrame, State.frames_setTop _ hr', State.setTop_of_frames _ hr', State.setFrames_setFrames, hr]
      rfl
    have hsame : U.sameButNew ({ U with heap := s₂.heap, slotsUsed := s₂.slotsUsed } : State) L mc ms := by
      refine ⟨?_, q2, q3, q4, q5, q6⟩
      obtain ⟨t, ht, -⟩ := State.frames_cons hr
      show ({ U with heap := s₂.heap, slotsUsed := s₂.slotsUsed } : State) = { U.setFrames U.frames with heap := s₂.heap, slotsUsed := s₂.slotsUsed }
      rw [State.setFrames_self ht]
    subst hg
    refine Or.inr ⟨q, ⟨(({ U with heap := s₂.heap, slotsUsed := s₂.slotsUsed } : State).setVm s₂.vm), Ls ++ L, c0 + mc, s0 + ms⟩,
      ⟨X.admits, X.cas, X.clock, X.frames, X.room, X.hears, X.method, X.code, (X.here.setHeapUsed s₂.heap s₂.slotsUsed).setVm hW'.alike, X.tail, State.WarmedH.trans X.warmed hW', X.limits, X.bytes, X.same.trans (hsame.setVm s.vm)⟩,
      ⟨g, mk, s₂, L, E, ce, rfl, rfl, hx, hce, hcv, hcl, rfl, hL, rfl, rfl⟩, ?_⟩
    show Steps p.tables e below _ (((({ U with heap := s₂.heap, slotsUsed := s₂.slotsUsed } : State).setVm s₂.vm).setTop g).pushFrame (.throwing q))
    rw [← hs₂]
    exact hsteps
end
variable {p : Program} {l : Launch} {e : Env} {R : Room} {s : State} {m : MethodId} {args : Array Value} {below : List Frame} {meth : Method} {c : Code} {T : State} {H : Heap} {locs : List Loc} {cells slots : Nat}
theorem vx_callVX (X : Stand p l e R s m args below meth c T locs cells slots) (hexec : p.tables.exec = Jvm.exec) {own C : String} {index : Nat} {y : MethodName} {bytes : ByteArray} {maxL : Nat} {ret : Option FieldType} {hh : List (Nat × Nat × Nat × Nat)}
    (hown : s.vm.findClass own = some m.cls) (hlink : (Cond.methodLink own index y).before args s = true) (hinst : (Cond.instanceMethod y).before args s = true) (hsel : (Cond.selects C y y).before args s = true)
    (hcode : (Cond.codeWith y bytes maxL ret hh).before args s = true) (hy : y.cls ≠ "java/lang/invoke/MethodHandle" ∧ y.cls ≠ "java/lang/invoke/VarHandle")
    {W9 : Nat} {Pre : Pt → Array Value → Prop} {Post : Pt → Array Value → Option Value → Pt → Prop} {PostX : Pt → Array Value → Addr → Pt → Prop} (hK : vx_Back l R p e below s args y 3 W9 Pre Post PostX)
    {b : Addr} {cellB : Cell} (hcell : T.heap[b]? = some cellB) (hobj : cellB.vm.isStatics = false) (hcls : s.vm.findClass C = some cellB.cls)
    {g : JFrame} (hg : g.method = m) (hsize : g.locals.size = c.maxLocals) {argsL rest : List Value} (hlen : ∀ sig, parseMethodDescriptor y.desc = some sig → argsL.length = sig.parameters.length)
    (hstack : g.stack = argsL.reverse ++ .ref b :: rest) (hW : 2 * g.monitorRoom + (rest.map fun v => v.category).sum ≤ W9) (hdg : decode c.code g.pc = .ok (.invokevirtual index, 3))
    (hpre : ∀ vm₁, s.WarmedH vm₁ → Pre ⟨T.setVm vm₁, locs, cells, slots⟩ (Value.ref b :: argsL).toArray) :
    (∃ (v : Option Value) (vm₁ : Vm) (B : Pt), s.WarmedH vm₁ ∧ Stand p l e R s m args below meth c B.U B.locs B.cells B.slots ∧ Post ⟨T.setVm vm₁, locs, cells, slots⟩ (Value.ref b :: argsL).toArray v B ∧
      ∀ target, Steps p.tables e below (B.U.setTop { g with pc := g.pc + 3, stack := v.toList ++ rest }) target → Steps p.tables e below (T.setTop g) target) ∨
    (∃ (q : Addr) (vm₁ : Vm) (B : Pt), s.WarmedH vm₁ ∧ Stand p l e R s m args below meth c B.U B.locs B.cells B.slots ∧ PostX ⟨T.setVm vm₁, locs, cells, slots⟩ (Value.ref b :: argsL).toArray q B ∧
      Steps p.tables e below (T.setTop g) ((B.U.setTop { g with stack := rest }).pushFrame (.throwing q))) := by
  obtain ⟨mk, methM, hnamed, hmethM, hstM, habM⟩ := Cond.instanceMethod_spec hinst
  obtain ⟨m8, methM', cM, hn8, hmethM', -, -, -, -, -, -, hsigM⟩ := Cond.codeWith_spec hcode
  cases Option.some.inj (hn8.symm.trans hnamed)
  cases hmethM.symm.trans hmethM'
  obtain ⟨c2, r2, m2, q1, q2, q3, q4, kP, hkP, hkPi⟩ := Cond.selects_spec hsel
  cases hcls.symm.trans q1
  cases (State.methodFound?_of_named hnamed hy).symm.trans q2
  cases hnamed.symm.trans q3
  have hselP : selectMethod e.platform s.vm cellB.cls mk = .method mk := by rw [Launch.admits_selectMethod X.admits]; exact q4
  obtain ⟨vm₁, X₁, hstep₁⟩ := X.invokevirtual hexec hown hlink hnamed hmethM hstM hkP hkPi hy (a := b) (cell := cellB) hcell
    (fun z h => by rw [h] at hobj; cases hobj) hselP hmethM habM hkP hkPi (g := g) hg (argsL := argsL) (rest := rest) (hlen _ hsigM) hstack hdg
  rcases hK m meth c ⟨T.setVm vm₁, locs, cells, slots⟩ { g with stack := rest } (.invokevirtual index) mk (Value.ref b :: argsL).toArray X₁ hg hsize hdg hW (X₁.named hnamed) (hpre vm₁ X₁.warmed) with ⟨v, B, X', hpost, hsteps⟩ | ⟨q, B, X', hpost, hsteps⟩
  · exact Or.inl ⟨v, vm₁, B, X₁.warmed, X', hpost, fun target h => hstep₁ _ fun acts => by rw [doInvoke_state]; exact hsteps.trans h⟩
  · exact Or.inr ⟨q, vm₁, B, X₁.warmed, X', hpost, hstep₁ _ fun acts => by rw [doInvoke_state]; exact hsteps⟩
theorem vx_callSX (X : Stand p l e R s m args below meth c T locs cells slots) (hexec : p.tables.exec = Jvm.exec) {own : String} {index : Nat} {y : MethodName} {bytes : ByteArray} {maxL : Nat} {ret : Option FieldType} {hh : List (Nat × Nat × Nat × Nat)}
    (hown : s.vm.findClass own = some m.cls) (hlink : (Cond.methodLink own index y).before args s = true) (hstat : (Cond.static y).before args s = true) (hinit : (Cond.initialized y.cls).before args s = true)
    (hcode : (Cond.codeWith y bytes maxL ret hh).before args s = true) (hy : y.cls ≠ "java/lang/invoke/MethodHandle" ∧ y.cls ≠ "java/lang/invoke/VarHandle")
    {W9 : Nat} {Pre : Pt → Array Value → Prop} {Post : Pt → Array Value → Option Value → Pt → Prop} {PostX : Pt → Array Value → Addr → Pt → Prop} (hK : vx_Back l R p e below s args y 3 W9 Pre Post PostX)
    {g : JFrame} (hg : g.method = m) (hsize : g.locals.size = c.maxLocals) {argsL rest : List Value} (hlen : ∀ sig, parseMethodDescriptor y.desc = some sig → argsL.length = sig.parameters.length)
    (hstack : g.stack = argsL.reverse ++ rest) (hW : 2 * g.monitorRoom + (rest.map fun v => v.category).sum ≤ W9) (hdg : decode c.code g.pc = .ok (.invokestatic index, 3))
    (hpre : ∀ vm₁, s.WarmedH vm₁ → Pre ⟨T.setVm vm₁, locs, cells, slots⟩ argsL.toArray) :
    (∃ (v : Option Value) (vm₁ : Vm) (B : Pt), s.WarmedH vm₁ ∧ Stand p l e R s m args below meth c B.U B.locs B.cells B.slots ∧ Post ⟨T.setVm vm₁, locs, cells, slots⟩ argsL.toArray v B ∧
      ∀ target, Steps p.tables e below (B.U.setTop { g with pc := g.pc + 3, stack := v.toList ++ rest }) target → Steps p.tables e below (T.setTop g) target) ∨
    (∃ (q : Addr) (vm₁ : Vm) (B : Pt), s.WarmedH vm₁ ∧ Stand p l e R s m args below meth c B.U B.locs B.cells B.slots ∧ PostX ⟨T.setVm vm₁, locs, cells, slots⟩ argsL.toArray q B ∧
      Steps p.tables e below (T.setTop g) ((B.U.setTop { g with stack := rest }).pushFrame (.throwing q))) := by
  obtain ⟨mk, methM, cM, hnamed, hmethM, -, -, -, -, -, -, hsigM⟩ := Cond.codeWith_spec hcode
  have hstatic : methM.isStatic = true := Cond.static_spec hnamed hmethM hstat
  obtain ⟨kP, hkP, -⟩ := className_of_methodNamed hnamed
  have hinitP : kP.init = .initialized := Cond.initialized_spec (findClass_of_methodNamed hnamed) hkP hinit
  obtain ⟨vm₁, X₁, hstep₁⟩ := X.invokestatic hexec hown hlink hnamed hmethM hstatic hkP hinitP hy (g := g) hg (argsL := argsL) (rest := rest) (hlen _ hsigM) hstack hdg
  rcases hK m meth c ⟨T.setVm vm₁, locs, cells, slots⟩ { g with stack := rest } (.invokestatic index) mk argsL.toArray X₁ hg hsize hdg hW (X₁.named hnamed) (hpre vm₁ X₁.warmed) with ⟨v, B, X', hpost, hsteps⟩ | ⟨q, B, X', hpost, hsteps⟩
  · exact Or.inl ⟨v, vm₁, B, X₁.warmed, X', hpost, fun target h => hstep₁ _ fun acts => by rw [doInvoke_state]; exact hsteps.trans h⟩
  · exact Or.inr ⟨q, vm₁, B, X₁.warmed, X', hpost, hstep₁ _ fun acts => by rw [doInvoke_state]; exact hsteps⟩
theorem vx_callVW (X : Stand p l e R s m args below meth c T locs cells slots) (hexec : p.tables.exec = Jvm.exec) {own C : String} {index : Nat} {y : MethodName} {bytes : ByteArray} {maxL : Nat} {ret : Option FieldType} {hh : List (Nat × Nat × Nat × Nat)}
    (hown : s.vm.findClass own = some m.cls) (hlink : (Cond.methodLink own index y).before args s = true) (hinst : (Cond.instanceMethod y).before args s = true) (hsel : (Cond.selects C y y).before args s = true)
    (hcode : (Cond.codeWith y bytes maxL ret hh).before args s = true) (hy : y.cls ≠ "java/lang/invoke/MethodHandle" ∧ y.cls ≠ "java/lang/invoke/VarHandle")
    {W9 : Nat} {Pre : Pt → Array Value → Prop} {Post : Pt → Array Value → Option Value → Pt → Prop} (hK : Back l R p e below s args y 3 W9 Pre Post)
    {b : Addr} {cellB : Cell} (hcell : T.heap[b]? = some cellB) (hobj : cellB.vm.isStatics = false) (hcls : s.vm.findClass C = some cellB.cls)
    {g : JFrame} (hg : g.method = m) (hsize : g.locals.size = c.maxLocals) {argsL rest : List Value} (hlen : ∀ sig, parseMethodDescriptor y.desc = some sig → argsL.length = sig.parameters.length)
    (hstack : g.stack = argsL.reverse ++ .ref b :: rest) (hW : 2 * g.monitorRoom + (rest.map fun v => v.category).sum ≤ W9) (hdg : decode c.code g.pc = .ok (.invokevirtual index, 3))
    (hpre : ∀ vm₁, s.WarmedH vm₁ → Pre ⟨T.setVm vm₁, locs, cells, slots⟩ (Value.ref b :: argsL).toArray) :
    ∃ (v : Option Value) (vm₁ : Vm) (B : Pt), s.WarmedH vm₁ ∧ Stand p l e R s m args below meth c B.U B.locs B.cells B.slots ∧ Post ⟨T.setVm vm₁, locs, cells, slots⟩ (Value.ref b :: argsL).toArray v B ∧
      ∀ target, Steps p.tables e below (B.U.setTop { g with pc := g.pc + 3, stack := v.toList ++ rest }) target → Steps p.tables e below (T.setTop g) target := by
  obtain ⟨mk, methM, hnamed, hmethM, hstM, habM⟩ := Cond.instanceMethod_spec hinst
  obtain ⟨m8, methM', cM, hn8, hmethM', -, -, -, -, -, -, hsigM⟩ := Cond.codeWith_spec hcode
  cases Option.some.inj (hn8.symm.trans hnamed)
  cases hmethM.symm.trans hmethM'
  obtain ⟨c2, r2, m2, q1, q2, q3, q4, kP, hkP, hkPi⟩ := Cond.selects_spec hsel
  cases hcls.symm.trans q1
  cases (State.methodFound?_of_named hnamed hy).symm.trans q2
  cases hnamed.symm.trans q3
  have hselP : selectMethod e.platform s.vm cellB.cls mk = .method mk := by rw [Launch.admits_selectMethod X.admits]; exact q4
  obtain ⟨vm₁, X₁, hstep₁⟩ := X.invokevirtual hexec hown hlink hnamed hmethM hstM hkP hkPi hy (a := b) (cell := cellB) hcell
    (fun z h => by rw [h] at hobj; cases hobj) hselP hmethM habM hkP hkPi (g := g) hg (argsL := argsL) (rest := rest) (hlen _ hsigM) hstack hdg
  obtain ⟨v, B, X', hpost, hsteps⟩ := hK m meth c ⟨T.setVm vm₁, locs, cells, slots⟩ { g with stack := rest } (.invokevirtual index) mk (Value.ref b :: argsL).toArray X₁ hg hsize hdg hW (X₁.named hnamed) (hpre vm₁ X₁.warmed)
  exact ⟨v, vm₁, B, X₁.warmed, X', hpost, fun target h => hstep₁ _ fun acts => by rw [doInvoke_state]; exact hsteps.trans h⟩
abbrev vx_CVW (R : Room) (s : State) (args : Array Value) (own C : String) (index : Nat) (y : MethodName) (bytes : ByteArray) (maxL : Nat) (ret : Option FieldType) (hh : List (Nat × Nat × Nat × Nat)) (ws : List Cond) (rm : Room) (mc ms n : Nat) : Prop :=
  (rm.cells = mc ∧ rm.slots = ms ∧ rm.frames + 1 ≤ R.frames ∧ 8 + (maxL + 11) + rm.locals ≤ R.locals ∧ (∀ w ∈ ws, ∀ (a' : Array Value) (U : State), s.WarmedH U.vm → w.before a' U = true) ∧ Cond.codeWith y bytes maxL ret hh ∈ ws) ∧
  (Cond.codeWith y bytes maxL ret hh).before args s = true ∧ (Cond.initialized y.cls).before args s = true ∧ (y.cls ≠ "java/lang/invoke/MethodHandle" ∧ y.cls ≠ "java/lang/invoke/VarHandle") ∧
  (∀ sig, parseMethodDescriptor y.desc = some sig → n = sig.parameters.length) ∧ (Cond.methodLink own index y).before args s = true ∧ (Cond.instanceMethod y).before args s = true ∧ (Cond.selects C y y).before args s = true
theorem vx_cwVW {own C : String} {index maxL mc ms : Nat} {y : MethodName} {bytes : ByteArray} {ret : Option FieldType} {hh : List (Nat × Nat × Nat × Nat)} {Ts ws ws' : List Cond} {rm : Room} (n : Nat) (ht : ∀ w ∈ Ts, w.before args s = true) (hT : GoodIn Ts (wsV own index C y ws)) (hw : ws = Cond.codeWith y bytes maxL ret hh :: ws') (hrc : rm.cells = mc) (hrs : rm.slots = ms)
    (hd : y.cls = C ∧ y.cls ≠ "java/lang/invoke/MethodHandle" ∧ y.cls ≠ "java/lang/invoke/VarHandle" ∧ (parseMethodDescriptor y.desc).map (fun d => d.parameters.length) = some n) (hR : rm.frames + 1 ≤ R.frames ∧ 8 + (maxL + 11) + rm.locals ≤ R.locals) :
    vx_CVW R s args own C index y bytes maxL ret hh ws rm mc ms n := by
  obtain ⟨hC, hd⟩ := hd
  subst hC
  have ok : ∀ w ∈ wsV own index y.cls y ws, w.before args s = true := fun w h => ht w (hT w h).1
  have hG : GoodIn Ts ws := fun w h => hT w (by unfold wsV; exact List.mem_append_right _ h)
  have hc : Cond.codeWith y bytes maxL ret hh ∈ ws := by rw [hw]; exact List.mem_cons_self
  refine ⟨⟨hrc, hrs, hR.1, hR.2, pay_in ht hG, hc⟩, ht _ (hG _ hc).1, ok _ (by simp [wsV]), ⟨hd.1, hd.2.1⟩, fun sig h => ?_, ok _ (by simp [wsV]), ok _ (by simp [wsV]), ok _ (by simp [wsV])⟩
  have h2 := hd.2.2
  rw [h] at h2
  exact (Option.some.inj h2).symm
theorem vx_runVW {y : MethodName} {bytes cc : ByteArray} {maxL nL mc ms n index : Nat} {ret : Option FieldType} {hh : List (Nat × Nat × Nat × Nat)} {ws : List Cond} {rm : Room} {Pc : Array Value → State → Prop} {Qc : Array Value → State → Outcome → State → Prop} {free : Addr → Prop} {Ts : List Cond} {own C : String} {b : Addr} {As rest : List Value} {g : JFrame}
    (S : CallFix p m c cc nL s args Ts own) (hM : Met l y ws rm Pc Qc mc ms free) (cw : vx_CVW R s args own C index y bytes maxL ret hh ws rm mc ms n) (hp : PreV s H C b Pc As)
    (hg : g.method = m) (hn : As.length = n) (hsize : g.locals.size = nL) (hstack : g.stack = As.reverse ++ .ref b :: rest) (hW : 2 * g.monitorRoom + (rest.map fun v => v.category).sum ≤ 8) (hdg : decode cc g.pc = .ok (.invokevirtual index, 3)) (hf : cells + mc ≤ R.cells ∧ slots + ms ≤ R.slots) :
    va_Run p l e R s m args below meth c H locs cells slots mc ms g rest (Qc (Value.ref b :: As).toArray) free := by
  obtain ⟨⟨hrc, hrs, hfr, hlo, hws, hcw⟩, hcode, hini, hy, hlen, hl, hin, hse⟩ := cw
  have hK : Back l R p e below s args y 3 8 (PreOf R mc ms Pc) (PostOf Qc mc ms free) := va_backW (hh := hh) (bytes := bytes) (maxL := maxL) (ret := ret) hM hp.1 hrc hrs hfr hlo hws hcw (fun a' U hW => word_at hW (Or.inl (by first | rfl | simp [Cond.onTables, Cond.keeps, Cond.steady])) hini)
  obtain ⟨hx, hb, hml, ho, -⟩ := S
  obtain ⟨-, ⟨cellB, hcB, hoB, hclB⟩, hPc⟩ := hp
  intro T hT X
  obtain ⟨v, vm₁, ⟨U', l2, c2, s2⟩, hW₁, X', ⟨g', mk, t, L, e1, e2, hq, h1, hL, h2, h3⟩, st⟩ := vx_callVW X hx (C := C) (hh := hh) (bytes := bytes) (maxL := maxL) (ret := ret) ho hl hin hse hcode hy hK (by rw [hT]; exact hcB) hoB hclB hg (hsize.trans hml.symm) (argsL := As) (rest := rest) (fun sig h => hn.trans (hlen sig h)) hstack hW (by rw [hb]; exact hdg)
    (fun vm₁ hW₁ => ⟨hf.1, hf.2, hPc (T.setVm vm₁) hT hW₁⟩)
  dsimp only [Pt.U, Pt.locs, Pt.cells, Pt.slots] at X' e1 e2 h1 h2 h3 st
  subst h1; subst h2; subst h3
  exact ⟨v, (T.setVm vm₁).calling g' mk (Value.ref b :: As).toArray, t, U', L, hT, X', hL, e1, e2, hq, st⟩
section
variable {y : MethodName} {bytes cc : ByteArray} {maxL nL mc ms n index : Nat} {ret : Option FieldType} {ws : List Cond} {rm : Room} {Pc : Array Value → State → Prop} {Qc : Array Value → State → Outcome → State → Prop} {XC : String → State → State → Prop} {free : Addr → Prop} {Ts : List Cond} {own C : String} {b : Addr} {As rest : List Value} {g : JFrame}
theorem vx_runVX {hh : List (Nat × Nat × Nat × Nat)} (S : CallFix p m c cc nL s args Ts own) (hM : vx_Met l y ws rm Pc Qc XC mc ms free) (cw : vx_CVW R s args own C index y bytes maxL ret hh ws rm mc ms n) (hp : PreV s H C b Pc As)
    (hg : g.method = m) (hn : As.length = n) (hsize : g.locals.size = nL) (hstack : g.stack = As.reverse ++ .ref b :: rest) (hW : 2 * g.monitorRoom + (rest.map fun v => v.category).sum ≤ 8) (hdg : decode cc g.pc = .ok (.invokevirtual index, 3)) (hf : cells + mc ≤ R.cells ∧ slots + ms ≤ R.slots) :
    vx_Run p l e R s m args below meth c H locs cells slots mc ms g rest (Qc (Value.ref b :: As).toArray) XC free := by
  obtain ⟨⟨hrc, hrs, hfr, hlo, hws, hcw⟩, hcode, hini, hy, hlen, hl, hin, hse⟩ := cw
  have hK : vx_Back l R p e below s args y 3 8 (PreOf R mc ms Pc) (PostOf Qc mc ms free) (vx_Post XC mc ms free) := vx_backW (hh := hh) (bytes := bytes) (maxL := maxL) (ret := ret) hM hp.1 hrc hrs hfr hlo hws hcw (fun a' U hW => word_at hW (Or.inl (by first | rfl | simp [Cond.onTables, Cond.keeps, Cond.steady])) hini)
  obtain ⟨hx, hb, hml, ho, -⟩ := S
  obtain ⟨-, ⟨cellB, hcB, hoB, hclB⟩, hPc⟩ := hp
  intro T hT X
  rcases vx_callVX X hx (C := C) (hh := hh) (bytes := bytes) (maxL := maxL) (ret := ret) ho hl hin hse hcode hy hK (by rw [hT]; exact hcB) hoB hclB hg (hsize.trans hml.symm) (argsL := As) (rest := rest) (fun sig h => hn.trans (hlen sig h)) hstack hW (by rw [hb]; exact hdg)
    (fun vm₁ hW₁ => ⟨hf.1, hf.2, hPc (T.setVm vm₁) hT hW₁⟩) with ⟨v, vm₁, ⟨U', l2, c2, s2⟩, hW₁, X', ⟨g', mk, t, L, e1, e2, hq, h1, hL, h2, h3⟩, st⟩ | ⟨q, vm₁, ⟨U', l2, c2, s2⟩, hW₁, X', ⟨g', mk, t, L, E, ce, e1, e2, hq, hce, hcv, hcl, h1, hL, h2, h3⟩, st⟩
  · dsimp only [Pt.U, Pt.locs, Pt.cells, Pt.slots] at X' e1 e2 h1 h2 h3 st
    subst h1; subst h2; subst h3
    exact Or.inl ⟨v, (T.setVm vm₁).calling g' mk (Value.ref b :: As).toArray, t, U', L, hT, X', hL, e1, e2, hq, st⟩
  · dsimp only [Pt.U, Pt.locs, Pt.cells, Pt.slots] at X' e1 e2 h1 h2 h3 st hcl
    subst h1; subst h2; subst h3
    exact Or.inr ⟨q, (T.setVm vm₁).calling g' mk (Value.ref b :: As).toArray, t, U', L, E, ce, hT, X', hL, e1, e2, hq, hce, hcv, vx_cls hW₁ hcl, st⟩
theorem vx_runSX {hh : List (Nat × Nat × Nat × Nat)} (S : CallFix p m c cc nL s args Ts own) (hM : vx_Met l y ws rm Pc Qc XC mc ms free) (cw : vx_CSW R s args own index y bytes maxL ret hh ws rm mc ms n) (hp : PreS s H Pc As)
    (hg : g.method = m) (hn : As.length = n) (hsize : g.locals.size = nL) (hstack : g.stack = As.reverse ++ rest) (hW : 2 * g.monitorRoom + (rest.map fun v => v.category).sum ≤ 8) (hdg : decode cc g.pc = .ok (.invokestatic index, 3)) (hf : cells + mc ≤ R.cells ∧ slots + ms ≤ R.slots) :
    vx_Run p l e R s m args below meth c H locs cells slots mc ms g rest (Qc As.toArray) XC free := by
  obtain ⟨⟨hrc, hrs, hfr, hlo, hws, hcw⟩, hcode, hini, hy, hlen, hl, hstt⟩ := cw
  have hK : vx_Back l R p e below s args y 3 8 (PreOf R mc ms Pc) (PostOf Qc mc ms free) (vx_Post XC mc ms free) := vx_backW (hh := hh) (bytes := bytes) (maxL := maxL) (ret := ret) hM hp.1 hrc hrs hfr hlo hws hcw (fun a' U hW => word_at hW (Or.inl (by first | rfl | simp [Cond.onTables, Cond.keeps, Cond.steady])) hini)
  obtain ⟨hx, hb, hml, ho, -⟩ := S
  intro T hT X
  rcases vx_callSX X hx (hh := hh) (bytes := bytes) (maxL := maxL) (ret := ret) ho hl hstt hini hcode hy hK hg (hsize.trans hml.symm) (argsL := As) (rest := rest) (fun sig h => hn.trans (hlen sig h)) hstack hW (by rw [hb]; exact hdg)
    (fun vm₁ hW₁ => ⟨hf.1, hf.2, hp.2 (T.setVm vm₁) hT hW₁⟩) with ⟨v, vm₁, ⟨U', l2, c2, s2⟩, hW₁, X', ⟨g', mk, t, L, e1, e2, hq, h1, hL, h2, h3⟩, st⟩ | ⟨q, vm₁, ⟨U', l2, c2, s2⟩, hW₁, X', ⟨g', mk, t, L, E, ce, e1, e2, hq, hce, hcv, hcl, h1, hL, h2, h3⟩, st⟩
  · dsimp only [Pt.U, Pt.locs, Pt.cells, Pt.slots] at X' e1 e2 h1 h2 h3 st
    subst h1; subst h2; subst h3
    exact Or.inl ⟨v, (T.setVm vm₁).calling g' mk As.toArray, t, U', L, hT, X', hL, e1, e2, hq, st⟩
  · dsimp only [Pt.U, Pt.locs, Pt.cells, Pt.slots] at X' e1 e2 h1 h2 h3 st hcl
    subst h1; subst h2; subst h3
    exact Or.inr ⟨q, (T.setVm vm₁).calling g' mk As.toArray, t, U', L, E, ce, hT, X', hL, e1, e2, hq, hce, hcv, vx_cls hW₁ hcl, st⟩
end
end VXH
theorem vx_ofWH {l : Launch} {y : MethodName} {ws ws' : List Cond} {rm : Room} {Pc : Array Value → State → Prop} {Qc : Array Value → State → Outcome → State → Prop} {XC : String → State → State → Prop} {mc ms : Nat} {free : Addr → Prop} {cc : ByteArray} {maxL : Nat} {ret : Option FieldType} {hh : List (Nat × Nat × Nat × Nat)}
    (hy : plainName y.cls = true) (hw : ws = Cond.codeWith y cc maxL ret hh :: ws')
    (body : ∀ p e s m args below meth c s₁, BodyLoose p l y (headSpec ws rm) cc maxL ret e s m args below meth c s₁ → c.maxLocals = maxL → Pc args s →
      W p l e (headSpec ws rm).room s m args below meth c s.heap [] 0 0 (vx_MQ below Qc XC args s mc ms free) (entryFrame m args maxL)) : vx_Met l y ws rm Pc Qc XC mc ms free := by
  refine MetFree.of_bodyS (code := cc) (maxLocals := maxL) (ret := ret) hy ?_ ?_
  · intro args s m h hn
    obtain ⟨m9, meth, c, hn9, h1, h2, h3, h4, -, h5, h6, -⟩ := Cond.codeWith_spec (atoms_spec (ws := ws) h _ (by rw [hw]; exact List.mem_cons_self))
    cases hn.symm.trans hn9
    exact ⟨meth, c, h1, h2, h3, h4, h5, h6⟩
  · intro p e s m args below meth c s₁ B hml hP _
    have hh0 : s₁.heap = s.heap := by rw [B.state]; rfl
    obtain ⟨t, a1, o, b1, b2, b3⟩ := body p e s m args below meth c s₁ B hml hP s₁ hh0 (Stand.of_body B)
    exact ⟨t, o, a1, b1, b2, b3⟩
/-! ===== END ===== -/
end
section
/-! ===== BEGIN printed: names, fields, word lists, decode rows ===== -/
def RX0 : String := "PlotPatch$Board"
def TX0 : u_T := fun k => match k with
  | 0 => ("PlotPatch$Board", "firsts", "[I", true)
  | 1 => ("PlotPatch$Board", "widths", "[I", true)
  | 2 => ("PlotPatch$Board", "circuits", "[I", true)
  | _ => ("PlotPatch$Board", "watts", "[I", true)
def tyX0 : Nat → FieldType := fun k => match k with
  | 0 => .array .int
  | 1 => .array .int
  | 2 => .array .int
  | _ => .array .int
abbrev wsX00 : List Cond := u_ws RX0 TX0 4
theorem nmX0 : ∀ a, a < 4 → ∀ b, b < 4 → a ≠ b → (TX0 a).2.1 ≠ (TX0 b).2.1 := by decide +kernel
theorem tyX0_ok : ∀ k, k < 4 → parseFieldDescriptor (TX0 k).2.2.1 = some (tyX0 k) := by decide +kernel
abbrev cX0_init : ByteArray := prog_2_method_1_code
def yX0_init : MethodName := ⟨RX0, "<init>", "()V"⟩
abbrev cX0_countHolders : ByteArray := prog_2_method_2_code
def yX0_countHolders : MethodName := ⟨RX0, "countHolders", "(I)I"⟩
abbrev cX0_countDoubles : ByteArray := prog_2_method_3_code
def yX0_countDoubles : MethodName := ⟨RX0, "countDoubles", "()I"⟩
abbrev cX0_lowestGap : ByteArray := prog_2_method_4_code
def yX0_lowestGap : MethodName := ⟨RX0, "lowestGap", "(I)I"⟩
def RX1 : String := "PlotPatch$Rig"
def TX1 : u_T := fun k => match k with
  | 0 => ("PlotPatch$Rig", "house", "I", false)
  | 1 => ("PlotPatch$Rig", "barCounts", "[I", true)
  | 2 => ("PlotPatch$Rig", "lengths", "[I", true)
  | 3 => ("PlotPatch$Rig", "limits", "[I", true)
  | 4 => ("PlotPatch$Rig", "weights", "[I", true)
  | 5 => ("PlotPatch$Rig", "bars", "[I", true)
  | 6 => ("PlotPatch$Rig", "formerBars", "[I", true)
  | _ => ("PlotPatch$Rig", "places", "[I", true)
def tyX1 : Nat → FieldType := fun k => match k with
  | 0 => .int
  | 1 => .array .int
  | 2 => .array .int
  | 3 => .array .int
  | 4 => .array .int
  | 5 => .array .int
  | 6 => .array .int
  | _ => .array .int
abbrev wsX10 : List Cond := u_ws RX1 TX1 8
theorem nmX1 : ∀ a, a < 8 → ∀ b, b < 8 → a ≠ b → (TX1 a).2.1 ≠ (TX1 b).2.1 := by decide +kernel
theorem tyX1_ok : ∀ k, k < 8 → parseFieldDescriptor (TX1 k).2.2.1 = some (tyX1 k) := by decide +kernel
abbrev cX1_init : ByteArray := prog_3_method_1_code
def yX1_init : MethodName := ⟨RX1, "<init>", "()V"⟩
abbrev cX1_cell : ByteArray := prog_3_method_2_code
def yX1_cell : MethodName := ⟨RX1, "cell", "(II)I"⟩
abbrev cX1_addBar : ByteArray := prog_3_method_3_code
def yX1_addBar : MethodName := ⟨RX1, "addBar", "(III)I"⟩
abbrev cX1_hasBar : ByteArray := prog_3_method_4_code
def yX1_hasBar : MethodName := ⟨RX1, "hasBar", "(I)Z"⟩
abbrev cX1_hasPlace : ByteArray := prog_3_method_5_code
def yX1_hasPlace : MethodName := ⟨RX1, "hasPlace", "(II)Z"⟩
abbrev cX1_hangs : ByteArray := prog_3_method_6_code
def yX1_hangs : MethodName := ⟨RX1, "hangs", "(I)Z"⟩
abbrev cX1_put : ByteArray := prog_3_method_7_code
def yX1_put : MethodName := ⟨RX1, "put", "(III)V"⟩
abbrev cX1_weightOn : ByteArray := prog_3_method_8_code
def yX1_weightOn : MethodName := ⟨RX1, "weightOn", "(I)I"⟩
abbrev cX1_bears : ByteArray := prog_3_method_9_code
def yX1_bears : MethodName := ⟨RX1, "bears", "(II)Z"⟩
abbrev cX1_isClear : ByteArray := prog_3_method_10_code
def yX1_isClear : MethodName := ⟨RX1, "isClear", "(III)Z"⟩
abbrev cX1_ranked : ByteArray := prog_3_method_11_code
def yX1_ranked : MethodName := ⟨RX1, "ranked", "(II)I"⟩
abbrev cX1_countBelow : ByteArray := prog_3_method_12_code
def yX1_countBelow : MethodName := ⟨RX1, "countBelow", "(II)I"⟩
abbrev cX1_changeHouse : ByteArray := prog_3_method_13_code
def yX1_changeHouse : MethodName := ⟨RX1, "changeHouse", "()I"⟩
abbrev cX1_hangAgain : ByteArray := prog_3_method_14_code
def yX1_hangAgain : MethodName := ⟨RX1, "hangAgain", "(II)Z"⟩
abbrev cX1_nearestPlace : ByteArray := prog_3_method_15_code
def yX1_nearestPlace : MethodName := ⟨RX1, "nearestPlace", "(III)I"⟩
def RX2 : String := "PlotPatch$Show"
def TX2 : u_T := fun k => match k with
  | 0 => ("PlotPatch$Show", "cueCount", "I", false)
  | 1 => ("PlotPatch$Show", "fades", "[I", true)
  | 2 => ("PlotPatch$Show", "curves", "[I", true)
  | 3 => ("PlotPatch$Show", "follows", "[I", true)
  | 4 => ("PlotPatch$Show", "named", "[I", true)
  | 5 => ("PlotPatch$Show", "time", "I", false)
  | 6 => ("PlotPatch$Show", "last", "I", false)
  | 7 => ("PlotPatch$Show", "beganAt", "[I", true)
  | 8 => ("PlotPatch$Show", "ruling", "[I", true)
  | 9 => ("PlotPatch$Show", "from", "[I", true)
  | _ => ("PlotPatch$Show", "to", "[I", true)
def tyX2 : Nat → FieldType := fun k => match k with
  | 0 => .int
  | 1 => .array .int
  | 2 => .array .int
  | 3 => .array .int
  | 4 => .array .int
  | 5 => .int
  | 6 => .int
  | 7 => .array .int
  | 8 => .array .int
  | 9 => .array .int
  | _ => .array .int
abbrev wsX20 : List Cond := u_ws RX2 TX2 11
theorem nmX2 : ∀ a, a < 11 → ∀ b, b < 11 → a ≠ b → (TX2 a).2.1 ≠ (TX2 b).2.1 := by decide +kernel
theorem tyX2_ok : ∀ k, k < 11 → parseFieldDescriptor (TX2 k).2.2.1 = some (tyX2 k) := by decide +kernel
abbrev cX2_init : ByteArray := prog_4_method_1_code
def yX2_init : MethodName := ⟨RX2, "<init>", "()V"⟩
abbrev cX2_cell : ByteArray := prog_4_method_2_code
def yX2_cell : MethodName := ⟨RX2, "cell", "(II)I"⟩
abbrev cX2_addCue : ByteArray := prog_4_method_3_code
def yX2_addCue : MethodName := ⟨RX2, "addCue", "(III)I"⟩
abbrev cX2_beginNext : ByteArray := prog_4_method_4_code
def yX2_beginNext : MethodName := ⟨RX2, "beginNext", "()I"⟩
abbrev cX2_begin : ByteArray := prog_4_method_5_code
def yX2_begin : MethodName := ⟨RX2, "begin", "(I)V"⟩
abbrev cX2_advance : ByteArray := prog_4_method_6_code
def yX2_advance : MethodName := ⟨RX2, "advance", "()I"⟩
abbrev cX2_reset : ByteArray := prog_4_method_7_code
def yX2_reset : MethodName := ⟨RX2, "reset", "()I"⟩
abbrev cX2_wantedLevel : ByteArray := prog_4_method_8_code
def yX2_wantedLevel : MethodName := ⟨RX2, "wantedLevel", "(I)I"⟩
abbrev cX2_gained : ByteArray := prog_4_method_9_code
def yX2_gained : MethodName := ⟨RX2, "gained", "(IIII)I"⟩
abbrev cX2_handOver : ByteArray := prog_4_method_10_code
def yX2_handOver : MethodName := ⟨RX2, "handOver", "(II)I"⟩
def RX3 : String := "PlotPatch"
def TX3 : u_T := fun k => match k with
  | 0 => ("PlotPatch", "lampCount", "I", false)
  | 1 => ("PlotPatch", "colours", "[I", true)
  | 2 => ("PlotPatch", "burns", "[I", true)
  | 3 => ("PlotPatch", "deaths", "[Z", true)
  | 4 => ("PlotPatch", "rig", "LPlotPatch$Rig;", true)
  | 5 => ("PlotPatch", "board", "LPlotPatch$Board;", true)
  | _ => ("PlotPatch", "show", "LPlotPatch$Show;", true)
def tyX3 : Nat → FieldType := fun k => match k with
  | 0 => .int
  | 1 => .array .int
  | 2 => .array .int
  | 3 => .array .boolean
  | 4 => .object "PlotPatch$Rig"
  | 5 => .object "PlotPatch$Board"
  | _ => .object "PlotPatch$Show"
abbrev wsX30 : List Cond := u_ws RX3 TX3 7
theorem nmX3 : ∀ a, a < 7 → ∀ b, b < 7 → a ≠ b → (TX3 a).2.1 ≠ (TX3 b).2.1 := by decide +kernel
theorem tyX3_ok : ∀ k, k < 7 → parseFieldDescriptor (TX3 k).2.2.1 = some (tyX3 k) := by decide +kernel
abbrev cX3_init : ByteArray := prog_1_method_1_code
def yX3_init : MethodName := ⟨RX3, "<init>", "()V"⟩
abbrev cX3_bar : ByteArray := prog_1_method_2_code
def yX3_bar : MethodName := ⟨RX3, "bar", "(III)I"⟩
abbrev cX3_lamp : ByteArray := prog_1_method_3_code
def yX3_lamp : MethodName := ⟨RX3, "lamp", "(II)I"⟩
abbrev cX3_hang : ByteArray := prog_1_method_4_code
def yX3_hang : MethodName := ⟨RX3, "hang", "(III)I"⟩
abbrev cX3_down : ByteArray := prog_1_method_5_code
def yX3_down : MethodName := ⟨RX3, "down", "(I)Z"⟩
abbrev cX3_onBar : ByteArray := prog_1_method_6_code
def yX3_onBar : MethodName := ⟨RX3, "onBar", "(II)I"⟩
abbrev cX3_where : ByteArray := prog_1_method_7_code
def yX3_where : MethodName := ⟨RX3, "where", "(I)I"⟩
abbrev cX3_tour : ByteArray := prog_1_method_8_code
def yX3_tour : MethodName := ⟨RX3, "tour", "()I"⟩
abbrev cX3_patch : ByteArray := prog_1_method_9_code
def yX3_patch : MethodName := ⟨RX3, "patch", "(II)I"⟩
abbrev cX3_gap : ByteArray := prog_1_method_10_code
def yX3_gap : MethodName := ⟨RX3, "gap", "(I)I"⟩
abbrev cX3_plug : ByteArray := prog_1_method_11_code
def yX3_plug : MethodName := ⟨RX3, "plug", "(II)I"⟩
abbrev cX3_load : ByteArray := prog_1_method_12_code
def yX3_load : MethodName := ⟨RX3, "load", "(I)I"⟩
abbrev cX3_cue : ByteArray := prog_1_method_13_code
def yX3_cue : MethodName := ⟨RX3, "cue", "(III)I"⟩
abbrev cX3_name : ByteArray := prog_1_method_14_code
def yX3_name : MethodName := ⟨RX3, "name", "(III)I"⟩
abbrev cX3_go : ByteArray := prog_1_method_15_code
def yX3_go : MethodName := ⟨RX3, "go", "()I"⟩
abbrev cX3_tick : ByteArray := prog_1_method_16_code
def yX3_tick : MethodName := ⟨RX3, "tick", "(I)I"⟩
abbrev cX3_rewind : ByteArray := prog_1_method_17_code
def yX3_rewind : MethodName := ⟨RX3, "rewind", "()I"⟩
abbrev cX3_level : ByteArray := prog_1_method_18_code
def yX3_level : MethodName := ⟨RX3, "level", "(I)I"⟩
abbrev cX3_wanted : ByteArray := prog_1_method_19_code
def yX3_wanted : MethodName := ⟨RX3, "wanted", "(I)I"⟩
abbrev cX3_wantedByCues : ByteArray := prog_1_method_20_code
def yX3_wantedByCues : MethodName := ⟨RX3, "wantedByCues", "(I)I"⟩
abbrev cX3_bulb : ByteArray := prog_1_method_21_code
def yX3_bulb : MethodName := ⟨RX3, "bulb", "(I)Z"⟩
abbrev cX3_standIn : ByteArray := prog_1_method_22_code
def yX3_standIn : MethodName := ⟨RX3, "standIn", "(II)I"⟩
abbrev cX3_colour : ByteArray := prog_1_method_23_code
def yX3_colour : MethodName := ⟨RX3, "colour", "(II)I"⟩
abbrev cX3_burnt : ByteArray := prog_1_method_24_code
def yX3_burnt : MethodName := ⟨RX3, "burnt", "()I"⟩
abbrev cX3_checkLamp : ByteArray := prog_1_method_25_code
def yX3_checkLamp : MethodName := ⟨RX3, "checkLamp", "(I)V"⟩
abbrev cX3_checkBar : ByteArray := prog_1_method_26_code
def yX3_checkBar : MethodName := ⟨RX3, "checkBar", "(I)V"⟩
abbrev cX3_checkCircuit : ByteArray := prog_1_method_27_code
def yX3_checkCircuit : MethodName := ⟨RX3, "checkCircuit", "(I)V"⟩
abbrev cX3_checkRange : ByteArray := prog_1_method_28_code
def yX3_checkRange : MethodName := ⟨RX3, "checkRange", "(III)V"⟩
abbrev cX3_shownLevel : ByteArray := prog_1_method_29_code
def yX3_shownLevel : MethodName := ⟨RX3, "shownLevel", "(I)I"⟩
abbrev cX3_burnColours : ByteArray := prog_1_method_30_code
def yX3_burnColours : MethodName := ⟨RX3, "burnColours", "()V"⟩
abbrev cX3_weightOfKind : ByteArray := prog_1_method_31_code
def yX3_weightOfKind : MethodName := ⟨RX3, "weightOfKind", "(I)I"⟩
abbrev cX3_wattsOfKind : ByteArray := prog_1_method_32_code
def yX3_wattsOfKind : MethodName := ⟨RX3, "wattsOfKind", "(I)I"⟩
abbrev cX3_widthOfKind : ByteArray := prog_1_method_33_code
def yX3_widthOfKind : MethodName := ⟨RX3, "widthOfKind", "(I)I"⟩
def RX4 : String := "PlotPatchModel"
def TX4 : u_T := fun k => match k with
  | 0 => ("PlotPatchModel", "house", "I", false)
  | 1 => ("PlotPatchModel", "bars", "[I", true)
  | 2 => ("PlotPatchModel", "length", "[I", true)
  | 3 => ("PlotPatchModel", "limit", "[I", true)
  | 4 => ("PlotPatchModel", "lamps", "I", false)
  | 5 => ("PlotPatchModel", "kind", "[I", true)
  | 6 => ("PlotPatchModel", "colour", "[I", true)
  | 7 => ("PlotPatchModel", "bar", "[I", true)
  | 8 => ("PlotPatchModel", "place", "[I", true)
  | 9 => ("PlotPatchModel", "first", "[I", true)
  | 10 => ("PlotPatchModel", "circuit", "[I", true)
  | 11 => ("PlotPatchModel", "isDead", "[Z", true)
  | 12 => ("PlotPatchModel", "burning", "[I", true)
  | 13 => ("PlotPatchModel", "from", "[I", true)
  | 14 => ("PlotPatchModel", "to", "[I", true)
  | 15 => ("PlotPatchModel", "since", "[I", true)
  | 16 => ("PlotPatchModel", "fading", "[I", true)
  | 17 => ("PlotPatchModel", "by", "[I", true)
  | 18 => ("PlotPatchModel", "cues", "I", false)
  | 19 => ("PlotPatchModel", "fade", "[I", true)
  | 20 => ("PlotPatchModel", "curve", "[I", true)
  | 21 => ("PlotPatchModel", "follow", "[I", true)
  | 22 => ("PlotPatchModel", "named", "[I", true)
  | 23 => ("PlotPatchModel", "begun", "I", false)
  | 24 => ("PlotPatchModel", "beganAt", "I", false)
  | 25 => ("PlotPatchModel", "time", "I", false)
  | 26 => ("PlotPatchModel", "wasOn", "[I", true)
  | _ => ("PlotPatchModel", "thrown", "I", false)
def tyX4 : Nat → FieldType := fun k => match k with
  | 0 => .int
  | 1 => .array .int
  | 2 => .array .int
  | 3 => .array .int
  | 4 => .int
  | 5 => .array .int
  | 6 => .array .int
  | 7 => .array .int
  | 8 => .array .int
  | 9 => .array .int
  | 10 => .array .int
  | 11 => .array .boolean
  | 12 => .array .int
  | 13 => .array .int
  | 14 => .array .int
  | 15 => .array .int
  | 16 => .array .int
  | 17 => .array .int
  | 18 => .int
  | 19 => .array .int
  | 20 => .array .int
  | 21 => .array .int
  | 22 => .array .int
  | 23 => .int
  | 24 => .int
  | 25 => .int
  | 26 => .array .int
  | _ => .int
abbrev wsX40 : List Cond := u_ws RX4 TX4 28
theorem nmX4 : ∀ a, a < 28 → ∀ b, b < 28 → a ≠ b → (TX4 a).2.1 ≠ (TX4 b).2.1 := by decide +kernel
theorem tyX4_ok : ∀ k, k < 28 → parseFieldDescriptor (TX4 k).2.2.1 = some (tyX4 k) := by decide +kernel
abbrev cX4_init : ByteArray := prog_6_method_1_code
def yX4_init : MethodName := ⟨RX4, "<init>", "()V"⟩
abbrev cX4_thrown : ByteArray := prog_6_method_2_code
def yX4_thrown : MethodName := ⟨RX4, "thrown", "()I"⟩
abbrev cX4_may : ByteArray := prog_6_method_3_code
def yX4_may : MethodName := ⟨RX4, "may", "(Z)Z"⟩
abbrev cX4_mayBoth : ByteArray := prog_6_method_4_code
def yX4_mayBoth : MethodName := ⟨RX4, "mayBoth", "(ZZ)Z"⟩
abbrev cX4_mayAll : ByteArray := prog_6_method_5_code
def yX4_mayAll : MethodName := ⟨RX4, "mayAll", "(ZZZ)Z"⟩
abbrev cX4_isIn : ByteArray := prog_6_method_6_code
def yX4_isIn : MethodName := ⟨RX4, "isIn", "(III)Z"⟩
abbrev cX4_isLamp : ByteArray := prog_6_method_7_code
def yX4_isLamp : MethodName := ⟨RX4, "isLamp", "(I)Z"⟩
abbrev cX4_isBar : ByteArray := prog_6_method_8_code
def yX4_isBar : MethodName := ⟨RX4, "isBar", "(I)Z"⟩
abbrev cX4_isCue : ByteArray := prog_6_method_9_code
def yX4_isCue : MethodName := ⟨RX4, "isCue", "(I)Z"⟩
abbrev cX4_weighs : ByteArray := prog_6_method_10_code
def yX4_weighs : MethodName := ⟨RX4, "weighs", "(I)I"⟩
abbrev cX4_draws : ByteArray := prog_6_method_11_code
def yX4_draws : MethodName := ⟨RX4, "draws", "(I)I"⟩
abbrev cX4_has : ByteArray := prog_6_method_12_code
def yX4_has : MethodName := ⟨RX4, "has", "(I)I"⟩
abbrev cX4_bar : ByteArray := prog_6_method_13_code
def yX4_bar : MethodName := ⟨RX4, "bar", "(III)I"⟩
abbrev cX4_lamp : ByteArray := prog_6_method_14_code
def yX4_lamp : MethodName := ⟨RX4, "lamp", "(II)I"⟩
abbrev cX4_weightOn : ByteArray := prog_6_method_15_code
def yX4_weightOn : MethodName := ⟨RX4, "weightOn", "(II)I"⟩
abbrev cX4_canHang : ByteArray := prog_6_method_16_code
def yX4_canHang : MethodName := ⟨RX4, "canHang", "(III)Z"⟩
abbrev cX4_hang : ByteArray := prog_6_method_17_code
def yX4_hang : MethodName := ⟨RX4, "hang", "(III)I"⟩
abbrev cX4_down : ByteArray := prog_6_method_18_code
def yX4_down : MethodName := ⟨RX4, "down", "(I)Z"⟩
abbrev cX4_ranked : ByteArray := prog_6_method_19_code
def yX4_ranked : MethodName := ⟨RX4, "ranked", "(II)I"⟩
abbrev cX4_onBar : ByteArray := prog_6_method_20_code
def yX4_onBar : MethodName := ⟨RX4, "onBar", "(II)I"⟩
abbrev cX4_where : ByteArray := prog_6_method_21_code
def yX4_where : MethodName := ⟨RX4, "where", "(I)I"⟩
abbrev cX4_tour : ByteArray := prog_6_method_22_code
def yX4_tour : MethodName := ⟨RX4, "tour", "()I"⟩
abbrev cX4_lampsAt : ByteArray := prog_6_method_23_code
def yX4_lampsAt : MethodName := ⟨RX4, "lampsAt", "(I)I"⟩
abbrev cX4_patch : ByteArray := prog_6_method_24_code
def yX4_patch : MethodName := ⟨RX4, "patch", "(II)I"⟩
abbrev cX4_gap : ByteArray := prog_6_method_25_code
def yX4_gap : MethodName := ⟨RX4, "gap", "(I)I"⟩
abbrev cX4_plug : ByteArray := prog_6_method_26_code
def yX4_plug : MethodName := ⟨RX4, "plug", "(II)I"⟩
abbrev cX4_load : ByteArray := prog_6_method_27_code
def yX4_load : MethodName := ⟨RX4, "load", "(I)I"⟩
abbrev cX4_cue : ByteArray := prog_6_method_28_code
def yX4_cue : MethodName := ⟨RX4, "cue", "(III)I"⟩
abbrev cX4_name : ByteArray := prog_6_method_29_code
def yX4_name : MethodName := ⟨RX4, "name", "(III)I"⟩
abbrev cX4_quotient : ByteArray := prog_6_method_30_code
def yX4_quotient : MethodName := ⟨RX4, "quotient", "(II)I"⟩
abbrev cX4_wantedOf : ByteArray := prog_6_method_31_code
def yX4_wantedOf : MethodName := ⟨RX4, "wantedOf", "(I)I"⟩
abbrev cX4_begin : ByteArray := prog_6_method_32_code
def yX4_begin : MethodName := ⟨RX4, "begin", "()I"⟩
abbrev cX4_go : ByteArray := prog_6_method_33_code
def yX4_go : MethodName := ⟨RX4, "go", "()I"⟩
abbrev cX4_tick : ByteArray := prog_6_method_34_code
def yX4_tick : MethodName := ⟨RX4, "tick", "(I)I"⟩
abbrev cX4_rewind : ByteArray := prog_6_method_35_code
def yX4_rewind : MethodName := ⟨RX4, "rewind", "()I"⟩
abbrev cX4_levelOf : ByteArray := prog_6_method_36_code
def yX4_levelOf : MethodName := ⟨RX4, "levelOf", "(I)I"⟩
abbrev cX4_level : ByteArray := prog_6_method_37_code
def yX4_level : MethodName := ⟨RX4, "level", "(I)I"⟩
abbrev cX4_wanted : ByteArray := prog_6_method_38_code
def yX4_wanted : MethodName := ⟨RX4, "wanted", "(I)I"⟩
abbrev cX4_wantedByCues : ByteArray := prog_6_method_39_code
def yX4_wantedByCues : MethodName := ⟨RX4, "wantedByCues", "(I)I"⟩
abbrev cX4_bulb : ByteArray := prog_6_method_40_code
def yX4_bulb : MethodName := ⟨RX4, "bulb", "(I)Z"⟩
abbrev cX4_standIn : ByteArray := prog_6_method_41_code
def yX4_standIn : MethodName := ⟨RX4, "standIn", "(II)I"⟩
abbrev cX4_colour : ByteArray := prog_6_method_42_code
def yX4_colour : MethodName := ⟨RX4, "colour", "(II)I"⟩
abbrev cX4_burnt : ByteArray := prog_6_method_43_code
def yX4_burnt : MethodName := ⟨RX4, "burnt", "()I"⟩
def RJx145de : String := "java/io/Serializable"
def TJx145de : u_T := fun k => match k with
  | _ => ("", "", "", false)
def tyJx145de : Nat → FieldType := fun k => match k with
  | _ => .int
abbrev wsJx145de0 : List Cond := u_ws RJx145de TJx145de 0
theorem nmJx145de : ∀ a, a < 0 → ∀ b, b < 0 → a ≠ b → (TJx145de a).2.1 ≠ (TJx145de b).2.1 := by decide +kernel
theorem tyJx145de_ok : ∀ k, k < 0 → parseFieldDescriptor (TJx145de k).2.2.1 = some (tyJx145de k) := by decide +kernel
def RJ9 : String := "java/lang/Math"
def TJ9 : u_T := fun k => match k with
  | _ => ("", "", "", false)
def tyJ9 : Nat → FieldType := fun k => match k with
  | _ => .int
abbrev wsJ90 : List Cond := u_ws RJ9 TJ9 0
theorem nmJ9 : ∀ a, a < 0 → ∀ b, b < 0 → a ≠ b → (TJ9 a).2.1 ≠ (TJ9 b).2.1 := by decide +kernel
theorem tyJ9_ok : ∀ k, k < 0 → parseFieldDescriptor (TJ9 k).2.2.1 = some (tyJ9 k) := by decide +kernel
abbrev cJ9_floorDiv_7cf53 : ByteArray := prog_11_method_47_code
def yJ9_floorDiv_7cf53 : MethodName := ⟨RJ9, "floorDiv", "(II)I"⟩
abbrev cJ9_abs_0f7a4 : ByteArray := prog_11_method_59_code
def yJ9_abs_0f7a4 : MethodName := ⟨RJ9, "abs", "(I)I"⟩
def RJ0 : String := "java/lang/String"
def TJ0 : u_T := fun k => match k with
  | _ => ("", "", "", false)
def tyJ0 : Nat → FieldType := fun k => match k with
  | _ => .int
abbrev wsJ00 : List Cond := u_ws RJ0 TJ0 0
theorem nmJ0 : ∀ a, a < 0 → ∀ b, b < 0 → a ≠ b → (TJ0 a).2.1 ≠ (TJ0 b).2.1 := by decide +kernel
theorem tyJ0_ok : ∀ k, k < 0 → parseFieldDescriptor (TJ0 k).2.2.1 = some (tyJ0 k) := by decide +kernel
def RJ7 : String := "java/util/Arrays"
def TJ7 : u_T := fun k => match k with
  | _ => ("", "", "", false)
def tyJ7 : Nat → FieldType := fun k => match k with
  | _ => .int
abbrev wsJ70 : List Cond := u_ws RJ7 TJ7 0
theorem nmJ7 : ∀ a, a < 0 → ∀ b, b < 0 → a ≠ b → (TJ7 a).2.1 ≠ (TJ7 b).2.1 := by decide +kernel
theorem tyJ7_ok : ∀ k, k < 0 → parseFieldDescriptor (TJ7 k).2.2.1 = some (tyJ7 k) := by decide +kernel
abbrev cJ7_fill_53178 : ByteArray := prog_15_method_103_code
def yJ7_fill_53178 : MethodName := ⟨RJ7, "fill", "([II)V"⟩
def RL : String := "PlotPatchLaw"
abbrev cL_bar : ByteArray := method_3_code
def yL_bar : MethodName := ⟨RL, "bar", "(LPlotPatch;III[J)I"⟩
abbrev cL_lamp : ByteArray := method_4_code
def yL_lamp : MethodName := ⟨RL, "lamp", "(LPlotPatch;II[J)I"⟩
abbrev cL_hang : ByteArray := method_5_code
def yL_hang : MethodName := ⟨RL, "hang", "(LPlotPatch;III[J)I"⟩
abbrev cL_down : ByteArray := method_6_code
def yL_down : MethodName := ⟨RL, "down", "(LPlotPatch;I[J)I"⟩
abbrev cL_onBar : ByteArray := method_7_code
def yL_onBar : MethodName := ⟨RL, "onBar", "(LPlotPatch;II[J)I"⟩
abbrev cL_where : ByteArray := method_8_code
def yL_where : MethodName := ⟨RL, "where", "(LPlotPatch;I[J)I"⟩
abbrev cL_patch : ByteArray := method_9_code
def yL_patch : MethodName := ⟨RL, "patch", "(LPlotPatch;II[J)I"⟩
abbrev cL_gap : ByteArray := method_10_code
def yL_gap : MethodName := ⟨RL, "gap", "(LPlotPatch;I[J)I"⟩
abbrev cL_plug : ByteArray := method_11_code
def yL_plug : MethodName := ⟨RL, "plug", "(LPlotPatch;II[J)I"⟩
abbrev cL_load : ByteArray := method_12_code
def yL_load : MethodName := ⟨RL, "load", "(LPlotPatch;I[J)I"⟩
abbrev cL_cue : ByteArray := method_13_code
def yL_cue : MethodName := ⟨RL, "cue", "(LPlotPatch;III[J)I"⟩
abbrev cL_name : ByteArray := method_14_code
def yL_name : MethodName := ⟨RL, "name", "(LPlotPatch;III[J)I"⟩
abbrev cL_go : ByteArray := method_15_code
def yL_go : MethodName := ⟨RL, "go", "(LPlotPatch;[J)I"⟩
abbrev cL_tick : ByteArray := method_16_code
def yL_tick : MethodName := ⟨RL, "tick", "(LPlotPatch;I[J)I"⟩
abbrev cL_level : ByteArray := method_17_code
def yL_level : MethodName := ⟨RL, "level", "(LPlotPatch;I[J)I"⟩
abbrev cL_wanted : ByteArray := method_18_code
def yL_wanted : MethodName := ⟨RL, "wanted", "(LPlotPatch;I[J)I"⟩
abbrev cL_wantedByCues : ByteArray := method_19_code
def yL_wantedByCues : MethodName := ⟨RL, "wantedByCues", "(LPlotPatch;I[J)I"⟩
abbrev cL_bulb : ByteArray := method_20_code
def yL_bulb : MethodName := ⟨RL, "bulb", "(LPlotPatch;I[J)I"⟩
abbrev cL_standIn : ByteArray := method_21_code
def yL_standIn : MethodName := ⟨RL, "standIn", "(LPlotPatch;II[J)I"⟩
abbrev cL_colour : ByteArray := method_22_code
def yL_colour : MethodName := ⟨RL, "colour", "(LPlotPatch;II[J)I"⟩
abbrev cL_law : ByteArray := code
def yL_law : MethodName := ⟨RL, "law", "([I)Z"⟩
def wsJ7_fill_53178 : List Cond := .code yJ7_fill_53178 cJ7_fill_53178 4 none :: ([])
def wsX0_init : List Cond := .code yX0_init cX0_init 1 none :: ([.methodLink RX0 3 objectInit, .instanceMethod objectInit, .code objectInit ⟨#[0xb1]⟩ 1 none, .arrayClass .int, .fieldLink RX0 9 "PlotPatch$Board" "firsts" "[I", .fieldLink RX0 21 "PlotPatch$Board" "widths" "[I", .fieldLink RX0 24 "PlotPatch$Board" "circuits" "[I", .fieldLink RX0 27 "PlotPatch$Board" "watts" "[I", .methodLink RX0 15 yJ7_fill_53178, .static yJ7_fill_53178, .initialized RJ7, .code yJ7_fill_53178 cJ7_fill_53178 4 none] ++ wsX00)
def wsX0_countHolders : List Cond := .code yX0_countHolders cX0_countHolders 5 (some .int) :: ([.fieldLink RX0 9 "PlotPatch$Board" "firsts" "[I", .fieldLink RX0 21 "PlotPatch$Board" "widths" "[I"] ++ wsX00)
def wsX0_countDoubles : List Cond := .code yX0_countDoubles cX0_countDoubles 3 (some .int) :: ([.methodLink RX0 30 yX0_countHolders, .instanceMethod yX0_countHolders, .selects RX0 yX0_countHolders yX0_countHolders, .initialized RX0, .code yX0_countHolders cX0_countHolders 5 (some .int), .fieldLink RX0 9 "PlotPatch$Board" "firsts" "[I", .fieldLink RX0 21 "PlotPatch$Board" "widths" "[I"] ++ wsX00)
def wsX0_lowestGap : List Cond := .code yX0_lowestGap cX0_lowestGap 4 (some .int) :: ([.methodLink RX0 30 yX0_countHolders, .instanceMethod yX0_countHolders, .selects RX0 yX0_countHolders yX0_countHolders, .initialized RX0, .code yX0_countHolders cX0_countHolders 5 (some .int), .fieldLink RX0 9 "PlotPatch$Board" "firsts" "[I", .fieldLink RX0 21 "PlotPatch$Board" "widths" "[I"] ++ wsX00)
def wsX1_init : List Cond := .code yX1_init cX1_init 1 none :: ([.methodLink RX1 3 objectInit, .instanceMethod objectInit, .code objectInit ⟨#[0xb1]⟩ 1 none, .fieldLink RX1 9 "PlotPatch$Rig" "house" "I", .arrayClass .int, .fieldLink RX1 15 "PlotPatch$Rig" "barCounts" "[I", .fieldLink RX1 19 "PlotPatch$Rig" "lengths" "[I", .fieldLink RX1 22 "PlotPatch$Rig" "limits" "[I", .fieldLink RX1 25 "PlotPatch$Rig" "weights" "[I", .fieldLink RX1 28 "PlotPatch$Rig" "bars" "[I", .fieldLink RX1 37 "PlotPatch$Rig" "formerBars" "[I", .fieldLink RX1 40 "PlotPatch$Rig" "places" "[I", .methodLink RX1 31 yJ7_fill_53178, .static yJ7_fill_53178, .initialized RJ7, .code yJ7_fill_53178 cJ7_fill_53178 4 none] ++ wsX10)
def wsX1_cell : List Cond := .code yX1_cell cX1_cell 2 (some .int) :: ([])
def wsX1_addBar : List Cond := .code yX1_addBar cX1_addBar 5 (some .int) :: ([.fieldLink RX1 15 "PlotPatch$Rig" "barCounts" "[I", .fieldLink RX1 19 "PlotPatch$Rig" "lengths" "[I", .fieldLink RX1 22 "PlotPatch$Rig" "limits" "[I", .methodLink RX1 43 yX1_cell, .static yX1_cell, .initialized RX1, .code yX1_cell cX1_cell 2 (some .int)] ++ wsX10)
def wsX1_hasBar : List Cond := .code yX1_hasBar cX1_hasBar 2 (some .boolean) :: ([.fieldLink RX1 15 "PlotPatch$Rig" "barCounts" "[I", .fieldLink RX1 9 "PlotPatch$Rig" "house" "I"] ++ wsX10)
def wsX1_hasPlace : List Cond := .code yX1_hasPlace cX1_hasPlace 3 (some .boolean) :: ([.fieldLink RX1 19 "PlotPatch$Rig" "lengths" "[I", .fieldLink RX1 9 "PlotPatch$Rig" "house" "I", .methodLink RX1 43 yX1_cell, .static yX1_cell, .initialized RX1, .code yX1_cell cX1_cell 2 (some .int)] ++ wsX10)
def wsX1_hangs : List Cond := .code yX1_hangs cX1_hangs 2 (some .boolean) :: ([.fieldLink RX1 28 "PlotPatch$Rig" "bars" "[I"] ++ wsX10)
def wsX1_put : List Cond := .code yX1_put cX1_put 4 none :: ([.fieldLink RX1 28 "PlotPatch$Rig" "bars" "[I", .fieldLink RX1 40 "PlotPatch$Rig" "places" "[I"] ++ wsX10)
def wsX1_weightOn : List Cond := .code yX1_weightOn cX1_weightOn 4 (some .int) :: ([.fieldLink RX1 28 "PlotPatch$Rig" "bars" "[I", .fieldLink RX1 25 "PlotPatch$Rig" "weights" "[I"] ++ wsX10)
def wsX1_bears : List Cond := .code yX1_bears cX1_bears 4 (some .boolean) :: ([.fieldLink RX1 28 "PlotPatch$Rig" "bars" "[I", .fieldLink RX1 25 "PlotPatch$Rig" "weights" "[I", .fieldLink RX1 22 "PlotPatch$Rig" "limits" "[I", .fieldLink RX1 9 "PlotPatch$Rig" "house" "I", .methodLink RX1 47 yX1_weightOn, .instanceMethod yX1_weightOn, .selects RX1 yX1_weightOn yX1_weightOn, .initialized RX1, .code yX1_weightOn cX1_weightOn 4 (some .int), .methodLink RX1 43 yX1_cell, .static yX1_cell, .code yX1_cell cX1_cell 2 (some .int)] ++ wsX10)
def wsX1_isClear : List Cond := .code yX1_isClear cX1_isClear 5 (some .boolean) :: ([.fieldLink RX1 28 "PlotPatch$Rig" "bars" "[I", .fieldLink RX1 40 "PlotPatch$Rig" "places" "[I", .methodLink RX1 51 Lib.Math.abs.name, .static Lib.Math.abs.name, .initialized "java/lang/Math", .code Lib.Math.abs.name Lib.Math.abs.code 1 (some .int)] ++ wsX10)
def wsX1_countBelow : List Cond := .code yX1_countBelow cX1_countBelow 5 (some .int) :: ([.fieldLink RX1 28 "PlotPatch$Rig" "bars" "[I", .fieldLink RX1 40 "PlotPatch$Rig" "places" "[I"] ++ wsX10)
def wsX1_ranked : List Cond := .code yX1_ranked cX1_ranked 4 (some .int) :: ([.fieldLink RX1 28 "PlotPatch$Rig" "bars" "[I", .fieldLink RX1 40 "PlotPatch$Rig" "places" "[I", .methodLink RX1 56 yX1_countBelow, .instanceMethod yX1_countBelow, .selects RX1 yX1_countBelow yX1_countBelow, .initialized RX1, .code yX1_countBelow cX1_countBelow 5 (some .int)] ++ wsX10)
def wsX1_nearestPlace : List Cond := .code yX1_nearestPlace cX1_nearestPlace 5 (some .int) :: ([.methodLink RX1 78 yX1_hasPlace, .instanceMethod yX1_hasPlace, .selects RX1 yX1_hasPlace yX1_hasPlace, .initialized RX1, .code yX1_hasPlace cX1_hasPlace 3 (some .boolean), .fieldLink RX1 19 "PlotPatch$Rig" "lengths" "[I", .fieldLink RX1 9 "PlotPatch$Rig" "house" "I", .methodLink RX1 43 yX1_cell, .static yX1_cell, .code yX1_cell cX1_cell 2 (some .int), .methodLink RX1 81 yX1_isClear, .instanceMethod yX1_isClear, .selects RX1 yX1_isClear yX1_isClear, .code yX1_isClear cX1_isClear 5 (some .boolean), .fieldLink RX1 28 "PlotPatch$Rig" "bars" "[I", .fieldLink RX1 40 "PlotPatch$Rig" "places" "[I", .methodLink RX1 51 Lib.Math.abs.name, .static Lib.Math.abs.name, .initialized "java/lang/Math", .code Lib.Math.abs.name Lib.Math.abs.code 1 (some .int)] ++ wsX10)
def wsX1_hangAgain_r1 : List Cond := [Cond.fieldLink RX1 40 "PlotPatch$Rig" "places" "[I", Cond.methodLink RX1 63 yX1_hasBar, Cond.instanceMethod yX1_hasBar, Cond.selects RX1 yX1_hasBar yX1_hasBar, Cond.initialized RX1, Cond.code yX1_hasBar cX1_hasBar 2 (some .boolean), Cond.fieldLink RX1 15 "PlotPatch$Rig" "barCounts" "[I", Cond.fieldLink RX1 9 "PlotPatch$Rig" "house" "I", Cond.methodLink RX1 67 yX1_bears, Cond.instanceMethod yX1_bears, Cond.selects RX1 yX1_bears yX1_bears, Cond.code yX1_bears cX1_bears 4 (some .boolean), Cond.fieldLink RX1 28 "PlotPatch$Rig" "bars" "[I", Cond.fieldLink RX1 25 "PlotPatch$Rig" "weights" "[I", Cond.fieldLink RX1 22 "PlotPatch$Rig" "limits" "[I", Cond.methodLink RX1 47 yX1_weightOn, Cond.instanceMethod yX1_weightOn, Cond.selects RX1 yX1_weightOn yX1_weightOn, Cond.code yX1_weightOn cX1_weightOn 4 (some .int), Cond.methodLink RX1 43 yX1_cell, Cond.static yX1_cell, Cond.code yX1_cell cX1_cell 2 (some .int), Cond.methodLink RX1 70 yX1_nearestPlace, Cond.instanceMethod yX1_nearestPlace]
def wsX1_hangAgain_r2 : List Cond := [Cond.selects RX1 yX1_nearestPlace yX1_nearestPlace, Cond.code yX1_nearestPlace cX1_nearestPlace 5 (some .int), Cond.methodLink RX1 78 yX1_hasPlace, Cond.instanceMethod yX1_hasPlace, Cond.selects RX1 yX1_hasPlace yX1_hasPlace, Cond.code yX1_hasPlace cX1_hasPlace 3 (some .boolean), Cond.fieldLink RX1 19 "PlotPatch$Rig" "lengths" "[I", Cond.methodLink RX1 81 yX1_isClear, Cond.instanceMethod yX1_isClear, Cond.selects RX1 yX1_isClear yX1_isClear, Cond.code yX1_isClear cX1_isClear 5 (some .boolean), Cond.methodLink RX1 51 Lib.Math.abs.name, Cond.static Lib.Math.abs.name, Cond.initialized "java/lang/Math", Cond.code Lib.Math.abs.name Lib.Math.abs.code 1 (some .int), Cond.methodLink RX1 74 yX1_put, Cond.instanceMethod yX1_put, Cond.selects RX1 yX1_put yX1_put, Cond.code yX1_put cX1_put 4 none]
def wsX1_hangAgain : List Cond := .code yX1_hangAgain cX1_hangAgain 4 (some .boolean) :: ((wsX1_hangAgain_r1 ++ wsX1_hangAgain_r2) ++ wsX10)
def wsX1_changeHouse_r1 : List Cond := [Cond.fieldLink RX1 37 "PlotPatch$Rig" "formerBars" "[I", Cond.fieldLink RX1 28 "PlotPatch$Rig" "bars" "[I", Cond.fieldLink RX1 9 "PlotPatch$Rig" "house" "I", Cond.methodLink RX1 59 yX1_hangAgain, Cond.instanceMethod yX1_hangAgain, Cond.selects RX1 yX1_hangAgain yX1_hangAgain, Cond.initialized RX1, Cond.code yX1_hangAgain cX1_hangAgain 4 (some .boolean), Cond.fieldLink RX1 40 "PlotPatch$Rig" "places" "[I", Cond.methodLink RX1 63 yX1_hasBar, Cond.instanceMethod yX1_hasBar, Cond.selects RX1 yX1_hasBar yX1_hasBar, Cond.code yX1_hasBar cX1_hasBar 2 (some .boolean), Cond.fieldLink RX1 15 "PlotPatch$Rig" "barCounts" "[I", Cond.methodLink RX1 67 yX1_bears, Cond.instanceMethod yX1_bears, Cond.selects RX1 yX1_bears yX1_bears, Cond.code yX1_bears cX1_bears 4 (some .boolean), Cond.fieldLink RX1 25 "PlotPatch$Rig" "weights" "[I", Cond.fieldLink RX1 22 "PlotPatch$Rig" "limits" "[I", Cond.methodLink RX1 47 yX1_weightOn, Cond.instanceMethod yX1_weightOn, Cond.selects RX1 yX1_weightOn yX1_weightOn, Cond.code yX1_weightOn cX1_weightOn 4 (some .int)]
def wsX1_changeHouse_r2 : List Cond := [Cond.methodLink RX1 43 yX1_cell, Cond.static yX1_cell, Cond.code yX1_cell cX1_cell 2 (some .int), Cond.methodLink RX1 70 yX1_nearestPlace, Cond.instanceMethod yX1_nearestPlace, Cond.selects RX1 yX1_nearestPlace yX1_nearestPlace, Cond.code yX1_nearestPlace cX1_nearestPlace 5 (some .int), Cond.methodLink RX1 78 yX1_hasPlace, Cond.instanceMethod yX1_hasPlace, Cond.selects RX1 yX1_hasPlace yX1_hasPlace, Cond.code yX1_hasPlace cX1_hasPlace 3 (some .boolean), Cond.fieldLink RX1 19 "PlotPatch$Rig" "lengths" "[I", Cond.methodLink RX1 81 yX1_isClear, Cond.instanceMethod yX1_isClear, Cond.selects RX1 yX1_isClear yX1_isClear, Cond.code yX1_isClear cX1_isClear 5 (some .boolean), Cond.methodLink RX1 51 Lib.Math.abs.name, Cond.static Lib.Math.abs.name, Cond.initialized "java/lang/Math", Cond.code Lib.Math.abs.name Lib.Math.abs.code 1 (some .int), Cond.methodLink RX1 74 yX1_put, Cond.instanceMethod yX1_put, Cond.selects RX1 yX1_put yX1_put, Cond.code yX1_put cX1_put 4 none]
def wsX1_changeHouse : List Cond := .code yX1_changeHouse cX1_changeHouse 3 (some .int) :: ((wsX1_changeHouse_r1 ++ wsX1_changeHouse_r2) ++ wsX10)
def wsX2_init : List Cond := .code yX2_init cX2_init 1 none :: ([.methodLink RX2 3 objectInit, .instanceMethod objectInit, .code objectInit ⟨#[0xb1]⟩ 1 none, .fieldLink RX2 9 "PlotPatch$Show" "cueCount" "I", .arrayClass .int, .fieldLink RX2 15 "PlotPatch$Show" "fades" "[I", .fieldLink RX2 19 "PlotPatch$Show" "curves" "[I", .fieldLink RX2 22 "PlotPatch$Show" "follows" "[I", .fieldLink RX2 25 "PlotPatch$Show" "named" "[I", .fieldLink RX2 34 "PlotPatch$Show" "time" "I", .fieldLink RX2 37 "PlotPatch$Show" "last" "I", .fieldLink RX2 40 "PlotPatch$Show" "beganAt" "[I", .fieldLink RX2 43 "PlotPatch$Show" "ruling" "[I", .fieldLink RX2 46 "PlotPatch$Show" "from" "[I", .fieldLink RX2 49 "PlotPatch$Show" "to" "[I", .methodLink RX2 28 yJ7_fill_53178, .static yJ7_fill_53178, .initialized RJ7, .code yJ7_fill_53178 cJ7_fill_53178 4 none] ++ wsX20)
def wsX2_cell : List Cond := .code yX2_cell cX2_cell 2 (some .int) :: ([])
def wsX2_addCue : List Cond := .code yX2_addCue cX2_addCue 5 (some .int) :: ([.fieldLink RX2 9 "PlotPatch$Show" "cueCount" "I", .fieldLink RX2 15 "PlotPatch$Show" "fades" "[I", .fieldLink RX2 19 "PlotPatch$Show" "curves" "[I", .fieldLink RX2 22 "PlotPatch$Show" "follows" "[I"] ++ wsX20)
def wsJ9_floorDiv_7cf53 : List Cond := .code yJ9_floorDiv_7cf53 cJ9_floorDiv_7cf53 3 (some .int) :: ([])
def wsX2_gained : List Cond := .code yX2_gained cX2_gained 4 (some .int) :: ([.methodLink RX2 72 yJ9_floorDiv_7cf53, .static yJ9_floorDiv_7cf53, .initialized RJ9, .code yJ9_floorDiv_7cf53 cJ9_floorDiv_7cf53 3 (some .int)])
def wsX2_wantedLevel : List Cond := .code yX2_wantedLevel cX2_wantedLevel 5 (some .int) :: ([.fieldLink RX2 43 "PlotPatch$Show" "ruling" "[I", .fieldLink RX2 9 "PlotPatch$Show" "cueCount" "I", .fieldLink RX2 34 "PlotPatch$Show" "time" "I", .fieldLink RX2 40 "PlotPatch$Show" "beganAt" "[I", .fieldLink RX2 15 "PlotPatch$Show" "fades" "[I", .fieldLink RX2 49 "PlotPatch$Show" "to" "[I", .fieldLink RX2 46 "PlotPatch$Show" "from" "[I", .fieldLink RX2 19 "PlotPatch$Show" "curves" "[I", .methodLink RX2 68 yX2_gained, .static yX2_gained, .initialized RX2, .code yX2_gained cX2_gained 4 (some .int), .methodLink RX2 72 yJ9_floorDiv_7cf53, .static yJ9_floorDiv_7cf53, .initialized RJ9, .code yJ9_floorDiv_7cf53 cJ9_floorDiv_7cf53 3 (some .int)] ++ wsX20)
def wsX2_begin_r1 : List Cond := [Cond.fieldLink RX2 25 "PlotPatch$Show" "named" "[I", Cond.fieldLink RX2 46 "PlotPatch$Show" "from" "[I", Cond.fieldLink RX2 49 "PlotPatch$Show" "to" "[I", Cond.fieldLink RX2 43 "PlotPatch$Show" "ruling" "[I", Cond.fieldLink RX2 40 "PlotPatch$Show" "beganAt" "[I", Cond.fieldLink RX2 34 "PlotPatch$Show" "time" "I", Cond.fieldLink RX2 37 "PlotPatch$Show" "last" "I", Cond.methodLink RX2 56 yX2_cell, Cond.static yX2_cell, Cond.initialized RX2, Cond.code yX2_cell cX2_cell 2 (some .int), Cond.methodLink RX2 60 yX2_wantedLevel, Cond.instanceMethod yX2_wantedLevel, Cond.selects RX2 yX2_wantedLevel yX2_wantedLevel, Cond.code yX2_wantedLevel cX2_wantedLevel 5 (some .int), Cond.fieldLink RX2 9 "PlotPatch$Show" "cueCount" "I", Cond.fieldLink RX2 15 "PlotPatch$Show" "fades" "[I", Cond.fieldLink RX2 19 "PlotPatch$Show" "curves" "[I", Cond.methodLink RX2 68 yX2_gained, Cond.static yX2_gained, Cond.code yX2_gained cX2_gained 4 (some .int), Cond.methodLink RX2 72 yJ9_floorDiv_7cf53, Cond.static yJ9_floorDiv_7cf53, Cond.initialized RJ9]
def wsX2_begin_r2 : List Cond := [Cond.code yJ9_floorDiv_7cf53 cJ9_floorDiv_7cf53 3 (some .int)]
def wsX2_begin : List Cond := .code yX2_begin cX2_begin 4 none :: ((wsX2_begin_r1 ++ wsX2_begin_r2) ++ wsX20)
def wsX2_beginNext_r1 : List Cond := [Cond.fieldLink RX2 37 "PlotPatch$Show" "last" "I", Cond.fieldLink RX2 9 "PlotPatch$Show" "cueCount" "I", Cond.fieldLink RX2 22 "PlotPatch$Show" "follows" "[I", Cond.methodLink RX2 52 yX2_begin, Cond.instanceMethod yX2_begin, Cond.selects RX2 yX2_begin yX2_begin, Cond.initialized RX2, Cond.code yX2_begin cX2_begin 4 none, Cond.fieldLink RX2 25 "PlotPatch$Show" "named" "[I", Cond.fieldLink RX2 46 "PlotPatch$Show" "from" "[I", Cond.fieldLink RX2 49 "PlotPatch$Show" "to" "[I", Cond.fieldLink RX2 43 "PlotPatch$Show" "ruling" "[I", Cond.fieldLink RX2 40 "PlotPatch$Show" "beganAt" "[I", Cond.fieldLink RX2 34 "PlotPatch$Show" "time" "I", Cond.methodLink RX2 56 yX2_cell, Cond.static yX2_cell, Cond.code yX2_cell cX2_cell 2 (some .int), Cond.methodLink RX2 60 yX2_wantedLevel, Cond.instanceMethod yX2_wantedLevel, Cond.selects RX2 yX2_wantedLevel yX2_wantedLevel, Cond.code yX2_wantedLevel cX2_wantedLevel 5 (some .int), Cond.fieldLink RX2 15 "PlotPatch$Show" "fades" "[I", Cond.fieldLink RX2 19 "PlotPatch$Show" "curves" "[I", Cond.methodLink RX2 68 yX2_gained]
def wsX2_beginNext_r2 : List Cond := [Cond.static yX2_gained, Cond.code yX2_gained cX2_gained 4 (some .int), Cond.methodLink RX2 72 yJ9_floorDiv_7cf53, Cond.static yJ9_floorDiv_7cf53, Cond.initialized RJ9, Cond.code yJ9_floorDiv_7cf53 cJ9_floorDiv_7cf53 3 (some .int)]
def wsX2_beginNext : List Cond := .code yX2_beginNext cX2_beginNext 3 (some .int) :: ((wsX2_beginNext_r1 ++ wsX2_beginNext_r2) ++ wsX20)
def wsX2_advance_r1 : List Cond := [Cond.fieldLink RX2 34 "PlotPatch$Show" "time" "I", Cond.fieldLink RX2 37 "PlotPatch$Show" "last" "I", Cond.fieldLink RX2 9 "PlotPatch$Show" "cueCount" "I", Cond.fieldLink RX2 22 "PlotPatch$Show" "follows" "[I", Cond.fieldLink RX2 40 "PlotPatch$Show" "beganAt" "[I", Cond.methodLink RX2 64 yX2_beginNext, Cond.instanceMethod yX2_beginNext, Cond.selects RX2 yX2_beginNext yX2_beginNext, Cond.initialized RX2, Cond.code yX2_beginNext cX2_beginNext 3 (some .int), Cond.methodLink RX2 52 yX2_begin, Cond.instanceMethod yX2_begin, Cond.selects RX2 yX2_begin yX2_begin, Cond.code yX2_begin cX2_begin 4 none, Cond.fieldLink RX2 25 "PlotPatch$Show" "named" "[I", Cond.fieldLink RX2 46 "PlotPatch$Show" "from" "[I", Cond.fieldLink RX2 49 "PlotPatch$Show" "to" "[I", Cond.fieldLink RX2 43 "PlotPatch$Show" "ruling" "[I", Cond.methodLink RX2 56 yX2_cell, Cond.static yX2_cell, Cond.code yX2_cell cX2_cell 2 (some .int), Cond.methodLink RX2 60 yX2_wantedLevel, Cond.instanceMethod yX2_wantedLevel, Cond.selects RX2 yX2_wantedLevel yX2_wantedLevel]
def wsX2_advance_r2 : List Cond := [Cond.code yX2_wantedLevel cX2_wantedLevel 5 (some .int), Cond.fieldLink RX2 15 "PlotPatch$Show" "fades" "[I", Cond.fieldLink RX2 19 "PlotPatch$Show" "curves" "[I", Cond.methodLink RX2 68 yX2_gained, Cond.static yX2_gained, Cond.code yX2_gained cX2_gained 4 (some .int), Cond.methodLink RX2 72 yJ9_floorDiv_7cf53, Cond.static yJ9_floorDiv_7cf53, Cond.initialized RJ9, Cond.code yJ9_floorDiv_7cf53 cJ9_floorDiv_7cf53 3 (some .int)]
def wsX2_advance : List Cond := .code yX2_advance cX2_advance 1 (some .int) :: ((wsX2_advance_r1 ++ wsX2_advance_r2) ++ wsX20)
def wsX2_reset : List Cond := .code yX2_reset cX2_reset 2 (some .int) :: ([.fieldLink RX2 37 "PlotPatch$Show" "last" "I", .fieldLink RX2 43 "PlotPatch$Show" "ruling" "[I", .methodLink RX2 28 yJ7_fill_53178, .static yJ7_fill_53178, .initialized RJ7, .code yJ7_fill_53178 cJ7_fill_53178 4 none] ++ wsX20)
def wsX2_handOver : List Cond := .code yX2_handOver cX2_handOver 6 (some .int) :: ([.fieldLink RX2 9 "PlotPatch$Show" "cueCount" "I", .fieldLink RX2 25 "PlotPatch$Show" "named" "[I", .methodLink RX2 56 yX2_cell, .static yX2_cell, .initialized RX2, .code yX2_cell cX2_cell 2 (some .int)] ++ wsX20)
def wsX3_init_r1 : List Cond := [Cond.methodLink RX3 1 objectInit, Cond.instanceMethod objectInit, Cond.code objectInit ⟨#[0xb1]⟩ 1 none, Cond.fieldLink RX3 7 "PlotPatch" "lampCount" "I", Cond.arrayClass .int, Cond.fieldLink RX3 13 "PlotPatch" "colours" "[I", Cond.fieldLink RX3 17 "PlotPatch" "burns" "[I", Cond.arrayClass .boolean, Cond.fieldLink RX3 20 "PlotPatch" "deaths" "[Z", Cond.classLink RX3 24 RX1, Cond.instantiable RX1 8, Cond.initialized RX1, Cond.fieldLink RX3 27 "PlotPatch" "rig" "LPlotPatch$Rig;", Cond.classLink RX3 31 RX0, Cond.instantiable RX0 4, Cond.initialized RX0, Cond.fieldLink RX3 34 "PlotPatch" "board" "LPlotPatch$Board;", Cond.classLink RX3 38 RX2, Cond.instantiable RX2 11, Cond.initialized RX2, Cond.fieldLink RX3 41 "PlotPatch" "show" "LPlotPatch$Show;", Cond.instanceMethod yX1_init, Cond.code yX1_init cX1_init 1 none, Cond.methodLink RX1 3 objectInit]
def wsX3_init_r2 : List Cond := [Cond.fieldLink RX1 9 "PlotPatch$Rig" "house" "I", Cond.fieldLink RX1 15 "PlotPatch$Rig" "barCounts" "[I", Cond.fieldLink RX1 19 "PlotPatch$Rig" "lengths" "[I", Cond.fieldLink RX1 22 "PlotPatch$Rig" "limits" "[I", Cond.fieldLink RX1 25 "PlotPatch$Rig" "weights" "[I", Cond.fieldLink RX1 28 "PlotPatch$Rig" "bars" "[I", Cond.fieldLink RX1 37 "PlotPatch$Rig" "formerBars" "[I", Cond.fieldLink RX1 40 "PlotPatch$Rig" "places" "[I", Cond.methodLink RX1 31 yJ7_fill_53178, Cond.static yJ7_fill_53178, Cond.initialized RJ7, Cond.code yJ7_fill_53178 cJ7_fill_53178 4 none, Cond.instanceMethod yX0_init, Cond.code yX0_init cX0_init 1 none, Cond.methodLink RX0 3 objectInit, Cond.fieldLink RX0 9 "PlotPatch$Board" "firsts" "[I", Cond.fieldLink RX0 21 "PlotPatch$Board" "widths" "[I", Cond.fieldLink RX0 24 "PlotPatch$Board" "circuits" "[I", Cond.fieldLink RX0 27 "PlotPatch$Board" "watts" "[I", Cond.methodLink RX0 15 yJ7_fill_53178, Cond.instanceMethod yX2_init, Cond.code yX2_init cX2_init 1 none, Cond.methodLink RX2 3 objectInit, Cond.fieldLink RX2 9 "PlotPatch$Show" "cueCount" "I"]
def wsX3_init_r3 : List Cond := [Cond.fieldLink RX2 15 "PlotPatch$Show" "fades" "[I", Cond.fieldLink RX2 19 "PlotPatch$Show" "curves" "[I", Cond.fieldLink RX2 22 "PlotPatch$Show" "follows" "[I", Cond.fieldLink RX2 25 "PlotPatch$Show" "named" "[I", Cond.fieldLink RX2 34 "PlotPatch$Show" "time" "I", Cond.fieldLink RX2 37 "PlotPatch$Show" "last" "I", Cond.fieldLink RX2 40 "PlotPatch$Show" "beganAt" "[I", Cond.fieldLink RX2 43 "PlotPatch$Show" "ruling" "[I", Cond.fieldLink RX2 46 "PlotPatch$Show" "from" "[I", Cond.fieldLink RX2 49 "PlotPatch$Show" "to" "[I", Cond.methodLink RX2 28 yJ7_fill_53178]
def wsX3_init : List Cond := .code yX3_init cX3_init 1 none :: ((wsX3_init_r1 ++ (wsX3_init_r2 ++ wsX3_init_r3)) ++ wsX30 ++ wsX10 ++ wsX00 ++ wsX20)
def wsX3_checkRange : List Cond := .code yX3_checkRange cX3_checkRange 3 none :: ([.classLink RX3 191 "java/lang/IllegalArgumentException", .initialized "java/lang/IllegalArgumentException"] ++ (vx_atS RX3 195 "java/lang/IllegalArgumentException" ["java/lang/RuntimeException", "java/lang/Exception"]).filter goodWord)
def wsX3_bar : List Cond := .code yX3_bar cX3_bar 4 (some .int) :: ([.classLink RX3 45 "java/lang/IndexOutOfBoundsException", .initialized "java/lang/IndexOutOfBoundsException", .classLink RX3 59 "java/lang/IllegalStateException", .initialized "java/lang/IllegalStateException", .fieldLink RX3 27 "PlotPatch" "rig" "LPlotPatch$Rig;", .methodLink RX3 52 yX3_checkRange, .static yX3_checkRange, .initialized RX3, .code yX3_checkRange cX3_checkRange 3 none, .classLink RX3 191 "java/lang/IllegalArgumentException", .initialized "java/lang/IllegalArgumentException", .instanceMethod yX1_addBar, .initialized RX1, .selects RX1 yX1_addBar yX1_addBar, .code yX1_addBar cX1_addBar 5 (some .int), .fieldLink RX1 15 "PlotPatch$Rig" "barCounts" "[I", .fieldLink RX1 19 "PlotPatch$Rig" "lengths" "[I", .fieldLink RX1 22 "PlotPatch$Rig" "limits" "[I", .methodLink RX1 43 yX1_cell, .static yX1_cell, .code yX1_cell cX1_cell 2 (some .int)] ++ wsX30 ++ wsX10 ++ (vx_atS RX3 49 "java/lang/IndexOutOfBoundsException" ["java/lang/RuntimeException", "java/lang/Exception"]).filter goodWord ++ (vx_atS RX3 63 "java/lang/IllegalStateException" ["java/lang/RuntimeException", "java/lang/Exception"]).filter goodWord ++ (vx_atS RX3 195 "java/lang/IllegalArgumentException" ["java/lang/RuntimeException", "java/lang/Exception"]).filter goodWord)
def wsX3_weightOfKind : List Cond := .code yX3_weightOfKind cX3_weightOfKind 1 (some .int) :: ([])
def wsX3_widthOfKind : List Cond := .code yX3_widthOfKind cX3_widthOfKind 1 (some .int) :: ([])
def wsX3_wattsOfKind : List Cond := .code yX3_wattsOfKind cX3_wattsOfKind 1 (some .int) :: ([])
def wsX3_lamp : List Cond := .code yX3_lamp cX3_lamp 4 (some .int) :: ([.classLink RX3 59 "java/lang/IllegalStateException", .initialized "java/lang/IllegalStateException", .fieldLink RX3 7 "PlotPatch" "lampCount" "I", .fieldLink RX3 13 "PlotPatch" "colours" "[I", .fieldLink RX3 27 "PlotPatch" "rig" "LPlotPatch$Rig;", .fieldLink RX3 34 "PlotPatch" "board" "LPlotPatch$Board;", .methodLink RX3 52 yX3_checkRange, .static yX3_checkRange, .initialized RX3, .code yX3_checkRange cX3_checkRange 3 none, .classLink RX3 191 "java/lang/IllegalArgumentException", .initialized "java/lang/IllegalArgumentException", .methodLink RX3 73 yX3_weightOfKind, .static yX3_weightOfKind, .code yX3_weightOfKind cX3_weightOfKind 1 (some .int), .methodLink RX3 80 yX3_widthOfKind, .static yX3_widthOfKind, .code yX3_widthOfKind cX3_widthOfKind 1 (some .int), .methodLink RX3 86 yX3_wattsOfKind, .static yX3_wattsOfKind, .code yX3_wattsOfKind cX3_wattsOfKind 1 (some .int)] ++ wsX30 ++ wsX10 ++ wsX00 ++ (vx_atS RX3 63 "java/lang/IllegalStateException" ["java/lang/RuntimeException", "java/lang/Exception"]).filter goodWord ++ (vx_atS RX3 195 "java/lang/IllegalArgumentException" ["java/lang/RuntimeException", "java/lang/Exception"]).filter goodWord)
def wsX3_checkLamp : List Cond := .code yX3_checkLamp cX3_checkLamp 2 none :: ([.classLink RX3 45 "java/lang/IndexOutOfBoundsException", .initialized "java/lang/IndexOutOfBoundsException", .fieldLink RX3 7 "PlotPatch" "lampCount" "I"] ++ wsX30 ++ (vx_atS RX3 49 "java/lang/IndexOutOfBoundsException" ["java/lang/RuntimeException", "java/lang/Exception"]).filter goodWord)
def wsX3_checkBar : List Cond := .code yX3_checkBar cX3_checkBar 2 none :: ([.classLink RX3 45 "java/lang/IndexOutOfBoundsException", .initialized "java/lang/IndexOutOfBoundsException", .fieldLink RX3 27 "PlotPatch" "rig" "LPlotPatch$Rig;", .instanceMethod yX1_hasBar, .initialized RX1, .selects RX1 yX1_hasBar yX1_hasBar, .code yX1_hasBar cX1_hasBar 2 (some .boolean), .fieldLink RX1 15 "PlotPatch$Rig" "barCounts" "[I", .fieldLink RX1 9 "PlotPatch$Rig" "house" "I"] ++ wsX30 ++ wsX10 ++ (vx_atS RX3 49 "java/lang/IndexOutOfBoundsException" ["java/lang/RuntimeException", "java/lang/Exception"]).filter goodWord)
def wsX3_hang_r1 : List Cond := [Cond.classLink RX3 45 "java/lang/IndexOutOfBoundsException", Cond.initialized "java/lang/IndexOutOfBoundsException", Cond.classLink RX3 59 "java/lang/IllegalStateException", Cond.initialized "java/lang/IllegalStateException", Cond.fieldLink RX3 27 "PlotPatch" "rig" "LPlotPatch$Rig;", Cond.methodLink RX3 89 yX3_checkLamp, Cond.instanceMethod yX3_checkLamp, Cond.selects RX3 yX3_checkLamp yX3_checkLamp, Cond.initialized RX3, Cond.code yX3_checkLamp cX3_checkLamp 2 none, Cond.fieldLink RX3 7 "PlotPatch" "lampCount" "I", Cond.methodLink RX3 93 yX3_checkBar, Cond.instanceMethod yX3_checkBar, Cond.selects RX3 yX3_checkBar yX3_checkBar, Cond.code yX3_checkBar cX3_checkBar 2 none, Cond.instanceMethod yX1_hasBar, Cond.initialized RX1, Cond.selects RX1 yX1_hasBar yX1_hasBar, Cond.code yX1_hasBar cX1_hasBar 2 (some .boolean), Cond.fieldLink RX1 15 "PlotPatch$Rig" "barCounts" "[I", Cond.fieldLink RX1 9 "PlotPatch$Rig" "house" "I", Cond.instanceMethod yX1_hasPlace, Cond.selects RX1 yX1_hasPlace yX1_hasPlace, Cond.code yX1_hasPlace cX1_hasPlace 3 (some .boolean)]
def wsX3_hang_r2 : List Cond := [Cond.fieldLink RX1 19 "PlotPatch$Rig" "lengths" "[I", Cond.methodLink RX1 43 yX1_cell, Cond.static yX1_cell, Cond.code yX1_cell cX1_cell 2 (some .int), Cond.instanceMethod yX1_bears, Cond.selects RX1 yX1_bears yX1_bears, Cond.code yX1_bears cX1_bears 4 (some .boolean), Cond.fieldLink RX1 28 "PlotPatch$Rig" "bars" "[I", Cond.fieldLink RX1 25 "PlotPatch$Rig" "weights" "[I", Cond.fieldLink RX1 22 "PlotPatch$Rig" "limits" "[I", Cond.methodLink RX1 47 yX1_weightOn, Cond.instanceMethod yX1_weightOn, Cond.selects RX1 yX1_weightOn yX1_weightOn, Cond.code yX1_weightOn cX1_weightOn 4 (some .int), Cond.instanceMethod yX1_isClear, Cond.selects RX1 yX1_isClear yX1_isClear, Cond.code yX1_isClear cX1_isClear 5 (some .boolean), Cond.fieldLink RX1 40 "PlotPatch$Rig" "places" "[I", Cond.methodLink RX1 51 Lib.Math.abs.name, Cond.static Lib.Math.abs.name, Cond.initialized "java/lang/Math", Cond.code Lib.Math.abs.name Lib.Math.abs.code 1 (some .int), Cond.instanceMethod yX1_put, Cond.selects RX1 yX1_put yX1_put]
def wsX3_hang_r3 : List Cond := [Cond.code yX1_put cX1_put 4 none]
def wsX3_hang : List Cond := .code yX3_hang cX3_hang 4 (some .int) :: ((wsX3_hang_r1 ++ (wsX3_hang_r2 ++ wsX3_hang_r3)) ++ wsX30 ++ wsX10 ++ (vx_atS RX3 49 "java/lang/IndexOutOfBoundsException" ["java/lang/RuntimeException", "java/lang/Exception"]).filter goodWord ++ (vx_atS RX3 63 "java/lang/IllegalStateException" ["java/lang/RuntimeException", "java/lang/Exception"]).filter goodWord)
def wsX3_down : List Cond := .code yX3_down cX3_down 3 (some .boolean) :: ([.fieldLink RX3 27 "PlotPatch" "rig" "LPlotPatch$Rig;", .methodLink RX3 89 yX3_checkLamp, .instanceMethod yX3_checkLamp, .selects RX3 yX3_checkLamp yX3_checkLamp, .initialized RX3, .code yX3_checkLamp cX3_checkLamp 2 none, .classLink RX3 45 "java/lang/IndexOutOfBoundsException", .initialized "java/lang/IndexOutOfBoundsException", .fieldLink RX3 7 "PlotPatch" "lampCount" "I", .instanceMethod yX1_hangs, .initialized RX1, .selects RX1 yX1_hangs yX1_hangs, .code yX1_hangs cX1_hangs 2 (some .boolean), .fieldLink RX1 28 "PlotPatch$Rig" "bars" "[I"] ++ wsX30 ++ wsX10 ++ (vx_atS RX3 49 "java/lang/IndexOutOfBoundsException" ["java/lang/RuntimeException", "java/lang/Exception"]).filter goodWord)
def wsX3_onBar : List Cond := .code yX3_onBar cX3_onBar 4 (some .int) :: ([.classLink RX3 45 "java/lang/IndexOutOfBoundsException", .initialized "java/lang/IndexOutOfBoundsException", .fieldLink RX3 27 "PlotPatch" "rig" "LPlotPatch$Rig;", .methodLink RX3 93 yX3_checkBar, .instanceMethod yX3_checkBar, .selects RX3 yX3_checkBar yX3_checkBar, .initialized RX3, .code yX3_checkBar cX3_checkBar 2 none, .instanceMethod yX1_hasBar, .initialized RX1, .selects RX1 yX1_hasBar yX1_hasBar, .code yX1_hasBar cX1_hasBar 2 (some .boolean), .fieldLink RX1 15 "PlotPatch$Rig" "barCounts" "[I", .fieldLink RX1 9 "PlotPatch$Rig" "house" "I", .instanceMethod yX1_ranked, .selects RX1 yX1_ranked yX1_ranked, .code yX1_ranked cX1_ranked 4 (some .int), .fieldLink RX1 28 "PlotPatch$Rig" "bars" "[I", .fieldLink RX1 40 "PlotPatch$Rig" "places" "[I", .methodLink RX1 56 yX1_countBelow, .instanceMethod yX1_countBelow, .selects RX1 yX1_countBelow yX1_countBelow, .code yX1_countBelow cX1_countBelow 5 (some .int)] ++ wsX30 ++ wsX10 ++ (vx_atS RX3 49 "java/lang/IndexOutOfBoundsException" ["java/lang/RuntimeException", "java/lang/Exception"]).filter goodWord)
def wsX3_where : List Cond := .code yX3_where cX3_where 2 (some .int) :: ([.fieldLink RX3 27 "PlotPatch" "rig" "LPlotPatch$Rig;", .methodLink RX3 89 yX3_checkLamp, .instanceMethod yX3_checkLamp, .selects RX3 yX3_checkLamp yX3_checkLamp, .initialized RX3, .code yX3_checkLamp cX3_checkLamp 2 none, .classLink RX3 45 "java/lang/IndexOutOfBoundsException", .initialized "java/lang/IndexOutOfBoundsException", .fieldLink RX3 7 "PlotPatch" "lampCount" "I", .instanceMethod yX1_hangs, .initialized RX1, .selects RX1 yX1_hangs yX1_hangs, .code yX1_hangs cX1_hangs 2 (some .boolean), .fieldLink RX1 28 "PlotPatch$Rig" "bars" "[I"] ++ wsX30 ++ wsX10 ++ (vx_atS RX3 49 "java/lang/IndexOutOfBoundsException" ["java/lang/RuntimeException", "java/lang/Exception"]).filter goodWord)
def wsX3_tour_r1 : List Cond := [Cond.fieldLink RX3 27 "PlotPatch" "rig" "LPlotPatch$Rig;", Cond.instanceMethod yX1_changeHouse, Cond.initialized RX1, Cond.selects RX1 yX1_changeHouse yX1_changeHouse, Cond.code yX1_changeHouse cX1_changeHouse 3 (some .int), Cond.fieldLink RX1 37 "PlotPatch$Rig" "formerBars" "[I", Cond.fieldLink RX1 28 "PlotPatch$Rig" "bars" "[I", Cond.fieldLink RX1 9 "PlotPatch$Rig" "house" "I", Cond.methodLink RX1 59 yX1_hangAgain, Cond.instanceMethod yX1_hangAgain, Cond.selects RX1 yX1_hangAgain yX1_hangAgain, Cond.code yX1_hangAgain cX1_hangAgain 4 (some .boolean), Cond.fieldLink RX1 40 "PlotPatch$Rig" "places" "[I", Cond.methodLink RX1 63 yX1_hasBar, Cond.instanceMethod yX1_hasBar, Cond.selects RX1 yX1_hasBar yX1_hasBar, Cond.code yX1_hasBar cX1_hasBar 2 (some .boolean), Cond.fieldLink RX1 15 "PlotPatch$Rig" "barCounts" "[I", Cond.methodLink RX1 67 yX1_bears, Cond.instanceMethod yX1_bears, Cond.selects RX1 yX1_bears yX1_bears, Cond.code yX1_bears cX1_bears 4 (some .boolean), Cond.fieldLink RX1 25 "PlotPatch$Rig" "weights" "[I", Cond.fieldLink RX1 22 "PlotPatch$Rig" "limits" "[I"]
def wsX3_tour_r2 : List Cond := [Cond.methodLink RX1 47 yX1_weightOn, Cond.instanceMethod yX1_weightOn, Cond.selects RX1 yX1_weightOn yX1_weightOn, Cond.code yX1_weightOn cX1_weightOn 4 (some .int), Cond.methodLink RX1 43 yX1_cell, Cond.static yX1_cell, Cond.code yX1_cell cX1_cell 2 (some .int), Cond.methodLink RX1 70 yX1_nearestPlace, Cond.instanceMethod yX1_nearestPlace, Cond.selects RX1 yX1_nearestPlace yX1_nearestPlace, Cond.code yX1_nearestPlace cX1_nearestPlace 5 (some .int), Cond.methodLink RX1 78 yX1_hasPlace, Cond.instanceMethod yX1_hasPlace, Cond.selects RX1 yX1_hasPlace yX1_hasPlace, Cond.code yX1_hasPlace cX1_hasPlace 3 (some .boolean), Cond.fieldLink RX1 19 "PlotPatch$Rig" "lengths" "[I", Cond.methodLink RX1 81 yX1_isClear, Cond.instanceMethod yX1_isClear, Cond.selects RX1 yX1_isClear yX1_isClear, Cond.code yX1_isClear cX1_isClear 5 (some .boolean), Cond.methodLink RX1 51 Lib.Math.abs.name, Cond.static Lib.Math.abs.name, Cond.initialized "java/lang/Math", Cond.code Lib.Math.abs.name Lib.Math.abs.code 1 (some .int)]
def wsX3_tour_r3 : List Cond := [Cond.methodLink RX1 74 yX1_put, Cond.instanceMethod yX1_put, Cond.selects RX1 yX1_put yX1_put, Cond.code yX1_put cX1_put 4 none]
def wsX3_tour : List Cond := .code yX3_tour cX3_tour 1 (some .int) :: ((wsX3_tour_r1 ++ (wsX3_tour_r2 ++ wsX3_tour_r3)) ++ wsX30 ++ wsX10)
def wsX3_patch : List Cond := .code yX3_patch cX3_patch 3 (some .int) :: ([.fieldLink RX3 34 "PlotPatch" "board" "LPlotPatch$Board;", .methodLink RX3 89 yX3_checkLamp, .instanceMethod yX3_checkLamp, .selects RX3 yX3_checkLamp yX3_checkLamp, .initialized RX3, .code yX3_checkLamp cX3_checkLamp 2 none, .classLink RX3 45 "java/lang/IndexOutOfBoundsException", .initialized "java/lang/IndexOutOfBoundsException", .fieldLink RX3 7 "PlotPatch" "lampCount" "I", .methodLink RX3 52 yX3_checkRange, .static yX3_checkRange, .code yX3_checkRange cX3_checkRange 3 none, .classLink RX3 191 "java/lang/IllegalArgumentException", .initialized "java/lang/IllegalArgumentException", .instanceMethod yX0_countDoubles, .initialized RX0, .selects RX0 yX0_countDoubles yX0_countDoubles, .code yX0_countDoubles cX0_countDoubles 3 (some .int), .methodLink RX0 30 yX0_countHolders, .instanceMethod yX0_countHolders, .selects RX0 yX0_countHolders yX0_countHolders, .code yX0_countHolders cX0_countHolders 5 (some .int), .fieldLink RX0 9 "PlotPatch$Board" "firsts" "[I", .fieldLink RX0 21 "PlotPatch$Board" "widths" "[I"] ++ wsX30 ++ wsX00 ++ (vx_atS RX3 49 "java/lang/IndexOutOfBoundsException" ["java/lang/RuntimeException", "java/lang/Exception"]).filter goodWord ++ (vx_atS RX3 195 "java/lang/IllegalArgumentException" ["java/lang/RuntimeException", "java/lang/Exception"]).filter goodWord)
def wsX3_gap : List Cond := .code yX3_gap cX3_gap 2 (some .int) :: ([.fieldLink RX3 34 "PlotPatch" "board" "LPlotPatch$Board;", .methodLink RX3 52 yX3_checkRange, .static yX3_checkRange, .initialized RX3, .code yX3_checkRange cX3_checkRange 3 none, .classLink RX3 191 "java/lang/IllegalArgumentException", .initialized "java/lang/IllegalArgumentException", .instanceMethod yX0_lowestGap, .initialized RX0, .selects RX0 yX0_lowestGap yX0_lowestGap, .code yX0_lowestGap cX0_lowestGap 4 (some .int), .methodLink RX0 30 yX0_countHolders, .instanceMethod yX0_countHolders, .selects RX0 yX0_countHolders yX0_countHolders, .code yX0_countHolders cX0_countHolders 5 (some .int), .fieldLink RX0 9 "PlotPatch$Board" "firsts" "[I", .fieldLink RX0 21 "PlotPatch$Board" "widths" "[I"] ++ wsX30 ++ wsX00 ++ (vx_atS RX3 195 "java/lang/IllegalArgumentException" ["java/lang/RuntimeException", "java/lang/Exception"]).filter goodWord)
def wsX3_checkCircuit : List Cond := .code yX3_checkCircuit cX3_checkCircuit 1 none :: ([.classLink RX3 45 "java/lang/IndexOutOfBoundsException", .initialized "java/lang/IndexOutOfBoundsException"] ++ (vx_atS RX3 49 "java/lang/IndexOutOfBoundsException" ["java/lang/RuntimeException", "java/lang/Exception"]).filter goodWord)
def wsX3_plug : List Cond := .code yX3_plug cX3_plug 4 (some .int) :: ([.fieldLink RX3 34 "PlotPatch" "board" "LPlotPatch$Board;", .methodLink RX3 89 yX3_checkLamp, .instanceMethod yX3_checkLamp, .selects RX3 yX3_checkLamp yX3_checkLamp, .initialized RX3, .code yX3_checkLamp cX3_checkLamp 2 none, .classLink RX3 45 "java/lang/IndexOutOfBoundsException", .initialized "java/lang/IndexOutOfBoundsException", .fieldLink RX3 7 "PlotPatch" "lampCount" "I", .methodLink RX3 146 yX3_checkCircuit, .static yX3_checkCircuit, .code yX3_checkCircuit cX3_checkCircuit 1 none] ++ wsX30 ++ wsX00 ++ (vx_atS RX3 49 "java/lang/IndexOutOfBoundsException" ["java/lang/RuntimeException", "java/lang/Exception"]).filter goodWord)
def wsX3_shownLevel_r1 : List Cond := [Cond.fieldLink RX3 27 "PlotPatch" "rig" "LPlotPatch$Rig;", Cond.fieldLink RX3 20 "PlotPatch" "deaths" "[Z", Cond.fieldLink RX3 41 "PlotPatch" "show" "LPlotPatch$Show;", Cond.instanceMethod yX1_hangs, Cond.initialized RX1, Cond.selects RX1 yX1_hangs yX1_hangs, Cond.code yX1_hangs cX1_hangs 2 (some .boolean), Cond.fieldLink RX1 28 "PlotPatch$Rig" "bars" "[I", Cond.instanceMethod yX2_wantedLevel, Cond.initialized RX2, Cond.selects RX2 yX2_wantedLevel yX2_wantedLevel, Cond.code yX2_wantedLevel cX2_wantedLevel 5 (some .int), Cond.fieldLink RX2 43 "PlotPatch$Show" "ruling" "[I", Cond.fieldLink RX2 9 "PlotPatch$Show" "cueCount" "I", Cond.fieldLink RX2 34 "PlotPatch$Show" "time" "I", Cond.fieldLink RX2 40 "PlotPatch$Show" "beganAt" "[I", Cond.fieldLink RX2 15 "PlotPatch$Show" "fades" "[I", Cond.fieldLink RX2 49 "PlotPatch$Show" "to" "[I", Cond.fieldLink RX2 46 "PlotPatch$Show" "from" "[I", Cond.fieldLink RX2 19 "PlotPatch$Show" "curves" "[I", Cond.methodLink RX2 68 yX2_gained, Cond.static yX2_gained, Cond.code yX2_gained cX2_gained 4 (some .int), Cond.methodLink RX2 72 yJ9_floorDiv_7cf53]
def wsX3_shownLevel_r2 : List Cond := [Cond.static yJ9_floorDiv_7cf53, Cond.initialized RJ9, Cond.code yJ9_floorDiv_7cf53 cJ9_floorDiv_7cf53 3 (some .int)]
def wsX3_shownLevel : List Cond := .code yX3_shownLevel cX3_shownLevel 2 (some .int) :: ((wsX3_shownLevel_r1 ++ wsX3_shownLevel_r2) ++ wsX30 ++ wsX10 ++ wsX20)
def wsX3_load_r1 : List Cond := [Cond.fieldLink RX3 7 "PlotPatch" "lampCount" "I", Cond.fieldLink RX3 34 "PlotPatch" "board" "LPlotPatch$Board;", Cond.methodLink RX3 146 yX3_checkCircuit, Cond.static yX3_checkCircuit, Cond.initialized RX3, Cond.code yX3_checkCircuit cX3_checkCircuit 1 none, Cond.classLink RX3 45 "java/lang/IndexOutOfBoundsException", Cond.initialized "java/lang/IndexOutOfBoundsException", Cond.methodLink RX3 152 yX3_shownLevel, Cond.instanceMethod yX3_shownLevel, Cond.selects RX3 yX3_shownLevel yX3_shownLevel, Cond.code yX3_shownLevel cX3_shownLevel 2 (some .int), Cond.fieldLink RX3 27 "PlotPatch" "rig" "LPlotPatch$Rig;", Cond.fieldLink RX3 20 "PlotPatch" "deaths" "[Z", Cond.fieldLink RX3 41 "PlotPatch" "show" "LPlotPatch$Show;", Cond.instanceMethod yX1_hangs, Cond.initialized RX1, Cond.selects RX1 yX1_hangs yX1_hangs, Cond.code yX1_hangs cX1_hangs 2 (some .boolean), Cond.fieldLink RX1 28 "PlotPatch$Rig" "bars" "[I", Cond.instanceMethod yX2_wantedLevel, Cond.initialized RX2, Cond.selects RX2 yX2_wantedLevel yX2_wantedLevel, Cond.code yX2_wantedLevel cX2_wantedLevel 5 (some .int)]
def wsX3_load_r2 : List Cond := [Cond.fieldLink RX2 43 "PlotPatch$Show" "ruling" "[I", Cond.fieldLink RX2 9 "PlotPatch$Show" "cueCount" "I", Cond.fieldLink RX2 34 "PlotPatch$Show" "time" "I", Cond.fieldLink RX2 40 "PlotPatch$Show" "beganAt" "[I", Cond.fieldLink RX2 15 "PlotPatch$Show" "fades" "[I", Cond.fieldLink RX2 49 "PlotPatch$Show" "to" "[I", Cond.fieldLink RX2 46 "PlotPatch$Show" "from" "[I", Cond.fieldLink RX2 19 "PlotPatch$Show" "curves" "[I", Cond.methodLink RX2 68 yX2_gained, Cond.static yX2_gained, Cond.code yX2_gained cX2_gained 4 (some .int), Cond.methodLink RX2 72 yJ9_floorDiv_7cf53, Cond.static yJ9_floorDiv_7cf53, Cond.initialized RJ9, Cond.code yJ9_floorDiv_7cf53 cJ9_floorDiv_7cf53 3 (some .int)]
def wsX3_load : List Cond := .code yX3_load cX3_load 4 (some .int) :: ((wsX3_load_r1 ++ wsX3_load_r2) ++ wsX30 ++ wsX00 ++ wsX10 ++ wsX20 ++ (vx_atS RX3 49 "java/lang/IndexOutOfBoundsException" ["java/lang/RuntimeException", "java/lang/Exception"]).filter goodWord)
def wsX3_cue : List Cond := .code yX3_cue cX3_cue 4 (some .int) :: ([.classLink RX3 59 "java/lang/IllegalStateException", .initialized "java/lang/IllegalStateException", .fieldLink RX3 41 "PlotPatch" "show" "LPlotPatch$Show;", .methodLink RX3 52 yX3_checkRange, .static yX3_checkRange, .initialized RX3, .code yX3_checkRange cX3_checkRange 3 none, .classLink RX3 191 "java/lang/IllegalArgumentException", .initialized "java/lang/IllegalArgumentException", .instanceMethod yX2_addCue, .initialized RX2, .selects RX2 yX2_addCue yX2_addCue, .code yX2_addCue cX2_addCue 5 (some .int), .fieldLink RX2 9 "PlotPatch$Show" "cueCount" "I", .fieldLink RX2 15 "PlotPatch$Show" "fades" "[I", .fieldLink RX2 19 "PlotPatch$Show" "curves" "[I", .fieldLink RX2 22 "PlotPatch$Show" "follows" "[I"] ++ wsX30 ++ wsX20 ++ (vx_atS RX3 63 "java/lang/IllegalStateException" ["java/lang/RuntimeException", "java/lang/Exception"]).filter goodWord ++ (vx_atS RX3 195 "java/lang/IllegalArgumentException" ["java/lang/RuntimeException", "java/lang/Exception"]).filter goodWord)
def wsX3_name : List Cond := .code yX3_name cX3_name 6 (some .int) :: ([.classLink RX3 45 "java/lang/IndexOutOfBoundsException", .initialized "java/lang/IndexOutOfBoundsException", .fieldLink RX3 41 "PlotPatch" "show" "LPlotPatch$Show;", .methodLink RX3 89 yX3_checkLamp, .instanceMethod yX3_checkLamp, .selects RX3 yX3_checkLamp yX3_checkLamp, .initialized RX3, .code yX3_checkLamp cX3_checkLamp 2 none, .fieldLink RX3 7 "PlotPatch" "lampCount" "I", .methodLink RX3 52 yX3_checkRange, .static yX3_checkRange, .code yX3_checkRange cX3_checkRange 3 none, .classLink RX3 191 "java/lang/IllegalArgumentException", .initialized "java/lang/IllegalArgumentException", .static yX2_cell, .initialized RX2, .code yX2_cell cX2_cell 2 (some .int)] ++ wsX30 ++ wsX20 ++ (vx_atS RX3 49 "java/lang/IndexOutOfBoundsException" ["java/lang/RuntimeException", "java/lang/Exception"]).filter goodWord ++ (vx_atS RX3 195 "java/lang/IllegalArgumentException" ["java/lang/RuntimeException", "java/lang/Exception"]).filter goodWord)
def wsX3_go_r1 : List Cond := [Cond.classLink RX3 59 "java/lang/IllegalStateException", Cond.initialized "java/lang/IllegalStateException", Cond.fieldLink RX3 41 "PlotPatch" "show" "LPlotPatch$Show;", Cond.instanceMethod yX2_beginNext, Cond.initialized RX2, Cond.selects RX2 yX2_beginNext yX2_beginNext, Cond.code yX2_beginNext cX2_beginNext 3 (some .int), Cond.fieldLink RX2 37 "PlotPatch$Show" "last" "I", Cond.fieldLink RX2 9 "PlotPatch$Show" "cueCount" "I", Cond.fieldLink RX2 22 "PlotPatch$Show" "follows" "[I", Cond.methodLink RX2 52 yX2_begin, Cond.instanceMethod yX2_begin, Cond.selects RX2 yX2_begin yX2_begin, Cond.code yX2_begin cX2_begin 4 none, Cond.fieldLink RX2 25 "PlotPatch$Show" "named" "[I", Cond.fieldLink RX2 46 "PlotPatch$Show" "from" "[I", Cond.fieldLink RX2 49 "PlotPatch$Show" "to" "[I", Cond.fieldLink RX2 43 "PlotPatch$Show" "ruling" "[I", Cond.fieldLink RX2 40 "PlotPatch$Show" "beganAt" "[I", Cond.fieldLink RX2 34 "PlotPatch$Show" "time" "I", Cond.methodLink RX2 56 yX2_cell, Cond.static yX2_cell, Cond.code yX2_cell cX2_cell 2 (some .int), Cond.methodLink RX2 60 yX2_wantedLevel]
def wsX3_go_r2 : List Cond := [Cond.instanceMethod yX2_wantedLevel, Cond.selects RX2 yX2_wantedLevel yX2_wantedLevel, Cond.code yX2_wantedLevel cX2_wantedLevel 5 (some .int), Cond.fieldLink RX2 15 "PlotPatch$Show" "fades" "[I", Cond.fieldLink RX2 19 "PlotPatch$Show" "curves" "[I", Cond.methodLink RX2 68 yX2_gained, Cond.static yX2_gained, Cond.code yX2_gained cX2_gained 4 (some .int), Cond.methodLink RX2 72 yJ9_floorDiv_7cf53, Cond.static yJ9_floorDiv_7cf53, Cond.initialized RJ9, Cond.code yJ9_floorDiv_7cf53 cJ9_floorDiv_7cf53 3 (some .int)]
def wsX3_go : List Cond := .code yX3_go cX3_go 1 (some .int) :: ((wsX3_go_r1 ++ wsX3_go_r2) ++ wsX30 ++ wsX20 ++ (vx_atS RX3 63 "java/lang/IllegalStateException" ["java/lang/RuntimeException", "java/lang/Exception"]).filter goodWord)
def wsX3_burnColours_r1 : List Cond := [Cond.fieldLink RX3 7 "PlotPatch" "lampCount" "I", Cond.fieldLink RX3 17 "PlotPatch" "burns" "[I", Cond.methodLink RX3 152 yX3_shownLevel, Cond.instanceMethod yX3_shownLevel, Cond.selects RX3 yX3_shownLevel yX3_shownLevel, Cond.initialized RX3, Cond.code yX3_shownLevel cX3_shownLevel 2 (some .int), Cond.fieldLink RX3 27 "PlotPatch" "rig" "LPlotPatch$Rig;", Cond.fieldLink RX3 20 "PlotPatch" "deaths" "[Z", Cond.fieldLink RX3 41 "PlotPatch" "show" "LPlotPatch$Show;", Cond.instanceMethod yX1_hangs, Cond.initialized RX1, Cond.selects RX1 yX1_hangs yX1_hangs, Cond.code yX1_hangs cX1_hangs 2 (some .boolean), Cond.fieldLink RX1 28 "PlotPatch$Rig" "bars" "[I", Cond.instanceMethod yX2_wantedLevel, Cond.initialized RX2, Cond.selects RX2 yX2_wantedLevel yX2_wantedLevel, Cond.code yX2_wantedLevel cX2_wantedLevel 5 (some .int), Cond.fieldLink RX2 43 "PlotPatch$Show" "ruling" "[I", Cond.fieldLink RX2 9 "PlotPatch$Show" "cueCount" "I", Cond.fieldLink RX2 34 "PlotPatch$Show" "time" "I", Cond.fieldLink RX2 40 "PlotPatch$Show" "beganAt" "[I", Cond.fieldLink RX2 15 "PlotPatch$Show" "fades" "[I"]
def wsX3_burnColours_r2 : List Cond := [Cond.fieldLink RX2 49 "PlotPatch$Show" "to" "[I", Cond.fieldLink RX2 46 "PlotPatch$Show" "from" "[I", Cond.fieldLink RX2 19 "PlotPatch$Show" "curves" "[I", Cond.methodLink RX2 68 yX2_gained, Cond.static yX2_gained, Cond.code yX2_gained cX2_gained 4 (some .int), Cond.methodLink RX2 72 yJ9_floorDiv_7cf53, Cond.static yJ9_floorDiv_7cf53, Cond.initialized RJ9, Cond.code yJ9_floorDiv_7cf53 cJ9_floorDiv_7cf53 3 (some .int)]
def wsX3_burnColours : List Cond := .code yX3_burnColours cX3_burnColours 2 none :: ((wsX3_burnColours_r1 ++ wsX3_burnColours_r2) ++ wsX30 ++ wsX10 ++ wsX20)
def wsX3_tick_r1 : List Cond := [Cond.fieldLink RX3 41 "PlotPatch" "show" "LPlotPatch$Show;", Cond.methodLink RX3 52 yX3_checkRange, Cond.static yX3_checkRange, Cond.initialized RX3, Cond.code yX3_checkRange cX3_checkRange 3 none, Cond.classLink RX3 191 "java/lang/IllegalArgumentException", Cond.initialized "java/lang/IllegalArgumentException", Cond.instanceMethod yX2_advance, Cond.initialized RX2, Cond.selects RX2 yX2_advance yX2_advance, Cond.code yX2_advance cX2_advance 1 (some .int), Cond.fieldLink RX2 34 "PlotPatch$Show" "time" "I", Cond.fieldLink RX2 37 "PlotPatch$Show" "last" "I", Cond.fieldLink RX2 9 "PlotPatch$Show" "cueCount" "I", Cond.fieldLink RX2 22 "PlotPatch$Show" "follows" "[I", Cond.fieldLink RX2 40 "PlotPatch$Show" "beganAt" "[I", Cond.methodLink RX2 64 yX2_beginNext, Cond.instanceMethod yX2_beginNext, Cond.selects RX2 yX2_beginNext yX2_beginNext, Cond.code yX2_beginNext cX2_beginNext 3 (some .int), Cond.methodLink RX2 52 yX2_begin, Cond.instanceMethod yX2_begin, Cond.selects RX2 yX2_begin yX2_begin, Cond.code yX2_begin cX2_begin 4 none]
def wsX3_tick_r2 : List Cond := [Cond.fieldLink RX2 25 "PlotPatch$Show" "named" "[I", Cond.fieldLink RX2 46 "PlotPatch$Show" "from" "[I", Cond.fieldLink RX2 49 "PlotPatch$Show" "to" "[I", Cond.fieldLink RX2 43 "PlotPatch$Show" "ruling" "[I", Cond.methodLink RX2 56 yX2_cell, Cond.static yX2_cell, Cond.code yX2_cell cX2_cell 2 (some .int), Cond.methodLink RX2 60 yX2_wantedLevel, Cond.instanceMethod yX2_wantedLevel, Cond.selects RX2 yX2_wantedLevel yX2_wantedLevel, Cond.code yX2_wantedLevel cX2_wantedLevel 5 (some .int), Cond.fieldLink RX2 15 "PlotPatch$Show" "fades" "[I", Cond.fieldLink RX2 19 "PlotPatch$Show" "curves" "[I", Cond.methodLink RX2 68 yX2_gained, Cond.static yX2_gained, Cond.code yX2_gained cX2_gained 4 (some .int), Cond.methodLink RX2 72 yJ9_floorDiv_7cf53, Cond.static yJ9_floorDiv_7cf53, Cond.initialized RJ9, Cond.code yJ9_floorDiv_7cf53 cJ9_floorDiv_7cf53 3 (some .int), Cond.methodLink RX3 182 yX3_burnColours, Cond.instanceMethod yX3_burnColours, Cond.selects RX3 yX3_burnColours yX3_burnColours, Cond.code yX3_burnColours cX3_burnColours 2 none]
def wsX3_tick_r3 : List Cond := [Cond.fieldLink RX3 7 "PlotPatch" "lampCount" "I", Cond.fieldLink RX3 17 "PlotPatch" "burns" "[I", Cond.methodLink RX3 152 yX3_shownLevel, Cond.instanceMethod yX3_shownLevel, Cond.selects RX3 yX3_shownLevel yX3_shownLevel, Cond.code yX3_shownLevel cX3_shownLevel 2 (some .int), Cond.fieldLink RX3 27 "PlotPatch" "rig" "LPlotPatch$Rig;", Cond.fieldLink RX3 20 "PlotPatch" "deaths" "[Z", Cond.instanceMethod yX1_hangs, Cond.initialized RX1, Cond.selects RX1 yX1_hangs yX1_hangs, Cond.code yX1_hangs cX1_hangs 2 (some .boolean), Cond.fieldLink RX1 28 "PlotPatch$Rig" "bars" "[I"]
def wsX3_tick : List Cond := .code yX3_tick cX3_tick 4 (some .int) :: ((wsX3_tick_r1 ++ (wsX3_tick_r2 ++ wsX3_tick_r3)) ++ wsX30 ++ wsX20 ++ wsX10 ++ (vx_atS RX3 195 "java/lang/IllegalArgumentException" ["java/lang/RuntimeException", "java/lang/Exception"]).filter goodWord)
def wsX3_rewind : List Cond := .code yX3_rewind cX3_rewind 1 (some .int) :: ([.fieldLink RX3 41 "PlotPatch" "show" "LPlotPatch$Show;", .instanceMethod yX2_reset, .initialized RX2, .selects RX2 yX2_reset yX2_reset, .code yX2_reset cX2_reset 2 (some .int), .fieldLink RX2 37 "PlotPatch$Show" "last" "I", .fieldLink RX2 43 "PlotPatch$Show" "ruling" "[I", .methodLink RX2 28 yJ7_fill_53178, .static yJ7_fill_53178, .initialized RJ7, .code yJ7_fill_53178 cJ7_fill_53178 4 none] ++ wsX30 ++ wsX20)
def wsX3_level_r1 : List Cond := [Cond.methodLink RX3 89 yX3_checkLamp, Cond.instanceMethod yX3_checkLamp, Cond.selects RX3 yX3_checkLamp yX3_checkLamp, Cond.initialized RX3, Cond.code yX3_checkLamp cX3_checkLamp 2 none, Cond.classLink RX3 45 "java/lang/IndexOutOfBoundsException", Cond.initialized "java/lang/IndexOutOfBoundsException", Cond.fieldLink RX3 7 "PlotPatch" "lampCount" "I", Cond.methodLink RX3 152 yX3_shownLevel, Cond.instanceMethod yX3_shownLevel, Cond.selects RX3 yX3_shownLevel yX3_shownLevel, Cond.code yX3_shownLevel cX3_shownLevel 2 (some .int), Cond.fieldLink RX3 27 "PlotPatch" "rig" "LPlotPatch$Rig;", Cond.fieldLink RX3 20 "PlotPatch" "deaths" "[Z", Cond.fieldLink RX3 41 "PlotPatch" "show" "LPlotPatch$Show;", Cond.instanceMethod yX1_hangs, Cond.initialized RX1, Cond.selects RX1 yX1_hangs yX1_hangs, Cond.code yX1_hangs cX1_hangs 2 (some .boolean), Cond.fieldLink RX1 28 "PlotPatch$Rig" "bars" "[I", Cond.instanceMethod yX2_wantedLevel, Cond.initialized RX2, Cond.selects RX2 yX2_wantedLevel yX2_wantedLevel, Cond.code yX2_wantedLevel cX2_wantedLevel 5 (some .int)]
def wsX3_level_r2 : List Cond := [Cond.fieldLink RX2 43 "PlotPatch$Show" "ruling" "[I", Cond.fieldLink RX2 9 "PlotPatch$Show" "cueCount" "I", Cond.fieldLink RX2 34 "PlotPatch$Show" "time" "I", Cond.fieldLink RX2 40 "PlotPatch$Show" "beganAt" "[I", Cond.fieldLink RX2 15 "PlotPatch$Show" "fades" "[I", Cond.fieldLink RX2 49 "PlotPatch$Show" "to" "[I", Cond.fieldLink RX2 46 "PlotPatch$Show" "from" "[I", Cond.fieldLink RX2 19 "PlotPatch$Show" "curves" "[I", Cond.methodLink RX2 68 yX2_gained, Cond.static yX2_gained, Cond.code yX2_gained cX2_gained 4 (some .int), Cond.methodLink RX2 72 yJ9_floorDiv_7cf53, Cond.static yJ9_floorDiv_7cf53, Cond.initialized RJ9, Cond.code yJ9_floorDiv_7cf53 cJ9_floorDiv_7cf53 3 (some .int)]
def wsX3_level : List Cond := .code yX3_level cX3_level 2 (some .int) :: ((wsX3_level_r1 ++ wsX3_level_r2) ++ wsX30 ++ wsX10 ++ wsX20 ++ (vx_atS RX3 49 "java/lang/IndexOutOfBoundsException" ["java/lang/RuntimeException", "java/lang/Exception"]).filter goodWord)
def wsX3_wanted_r1 : List Cond := [Cond.fieldLink RX3 41 "PlotPatch" "show" "LPlotPatch$Show;", Cond.methodLink RX3 89 yX3_checkLamp, Cond.instanceMethod yX3_checkLamp, Cond.selects RX3 yX3_checkLamp yX3_checkLamp, Cond.initialized RX3, Cond.code yX3_checkLamp cX3_checkLamp 2 none, Cond.classLink RX3 45 "java/lang/IndexOutOfBoundsException", Cond.initialized "java/lang/IndexOutOfBoundsException", Cond.fieldLink RX3 7 "PlotPatch" "lampCount" "I", Cond.instanceMethod yX2_wantedLevel, Cond.initialized RX2, Cond.selects RX2 yX2_wantedLevel yX2_wantedLevel, Cond.code yX2_wantedLevel cX2_wantedLevel 5 (some .int), Cond.fieldLink RX2 43 "PlotPatch$Show" "ruling" "[I", Cond.fieldLink RX2 9 "PlotPatch$Show" "cueCount" "I", Cond.fieldLink RX2 34 "PlotPatch$Show" "time" "I", Cond.fieldLink RX2 40 "PlotPatch$Show" "beganAt" "[I", Cond.fieldLink RX2 15 "PlotPatch$Show" "fades" "[I", Cond.fieldLink RX2 49 "PlotPatch$Show" "to" "[I", Cond.fieldLink RX2 46 "PlotPatch$Show" "from" "[I", Cond.fieldLink RX2 19 "PlotPatch$Show" "curves" "[I", Cond.methodLink RX2 68 yX2_gained, Cond.static yX2_gained, Cond.code yX2_gained cX2_gained 4 (some .int)]
def wsX3_wanted_r2 : List Cond := [Cond.methodLink RX2 72 yJ9_floorDiv_7cf53, Cond.static yJ9_floorDiv_7cf53, Cond.initialized RJ9, Cond.code yJ9_floorDiv_7cf53 cJ9_floorDiv_7cf53 3 (some .int)]
def wsX3_wanted : List Cond := .code yX3_wanted cX3_wanted 2 (some .int) :: ((wsX3_wanted_r1 ++ wsX3_wanted_r2) ++ wsX30 ++ wsX20 ++ (vx_atS RX3 49 "java/lang/IndexOutOfBoundsException" ["java/lang/RuntimeException", "java/lang/Exception"]).filter goodWord)
def wsX3_wantedByCues_r1 : List Cond := [Cond.fieldLink RX3 41 "PlotPatch" "show" "LPlotPatch$Show;", Cond.methodLink RX3 89 yX3_checkLamp, Cond.instanceMethod yX3_checkLamp, Cond.selects RX3 yX3_checkLamp yX3_checkLamp, Cond.initialized RX3, Cond.code yX3_checkLamp cX3_checkLamp 2 none, Cond.classLink RX3 45 "java/lang/IndexOutOfBoundsException", Cond.initialized "java/lang/IndexOutOfBoundsException", Cond.fieldLink RX3 7 "PlotPatch" "lampCount" "I", Cond.instanceMethod yX2_wantedLevel, Cond.initialized RX2, Cond.selects RX2 yX2_wantedLevel yX2_wantedLevel, Cond.code yX2_wantedLevel cX2_wantedLevel 5 (some .int), Cond.fieldLink RX2 43 "PlotPatch$Show" "ruling" "[I", Cond.fieldLink RX2 9 "PlotPatch$Show" "cueCount" "I", Cond.fieldLink RX2 34 "PlotPatch$Show" "time" "I", Cond.fieldLink RX2 40 "PlotPatch$Show" "beganAt" "[I", Cond.fieldLink RX2 15 "PlotPatch$Show" "fades" "[I", Cond.fieldLink RX2 49 "PlotPatch$Show" "to" "[I", Cond.fieldLink RX2 46 "PlotPatch$Show" "from" "[I", Cond.fieldLink RX2 19 "PlotPatch$Show" "curves" "[I", Cond.methodLink RX2 68 yX2_gained, Cond.static yX2_gained, Cond.code yX2_gained cX2_gained 4 (some .int)]
def wsX3_wantedByCues_r2 : List Cond := [Cond.methodLink RX2 72 yJ9_floorDiv_7cf53, Cond.static yJ9_floorDiv_7cf53, Cond.initialized RJ9, Cond.code yJ9_floorDiv_7cf53 cJ9_floorDiv_7cf53 3 (some .int)]
def wsX3_wantedByCues : List Cond := .code yX3_wantedByCues cX3_wantedByCues 2 (some .int) :: ((wsX3_wantedByCues_r1 ++ wsX3_wantedByCues_r2) ++ wsX30 ++ wsX20 ++ (vx_atS RX3 49 "java/lang/IndexOutOfBoundsException" ["java/lang/RuntimeException", "java/lang/Exception"]).filter goodWord)
def wsX3_bulb : List Cond := .code yX3_bulb cX3_bulb 2 (some .boolean) :: ([.fieldLink RX3 20 "PlotPatch" "deaths" "[Z", .methodLink RX3 89 yX3_checkLamp, .instanceMethod yX3_checkLamp, .selects RX3 yX3_checkLamp yX3_checkLamp, .initialized RX3, .code yX3_checkLamp cX3_checkLamp 2 none, .classLink RX3 45 "java/lang/IndexOutOfBoundsException", .initialized "java/lang/IndexOutOfBoundsException", .fieldLink RX3 7 "PlotPatch" "lampCount" "I"] ++ wsX30 ++ (vx_atS RX3 49 "java/lang/IndexOutOfBoundsException" ["java/lang/RuntimeException", "java/lang/Exception"]).filter goodWord)
def wsX3_standIn : List Cond := .code yX3_standIn cX3_standIn 3 (some .int) :: ([.classLink RX3 191 "java/lang/IllegalArgumentException", .initialized "java/lang/IllegalArgumentException", .classLink RX3 59 "java/lang/IllegalStateException", .initialized "java/lang/IllegalStateException", .fieldLink RX3 20 "PlotPatch" "deaths" "[Z", .fieldLink RX3 41 "PlotPatch" "show" "LPlotPatch$Show;", .methodLink RX3 89 yX3_checkLamp, .instanceMethod yX3_checkLamp, .selects RX3 yX3_checkLamp yX3_checkLamp, .initialized RX3, .code yX3_checkLamp cX3_checkLamp 2 none, .classLink RX3 45 "java/lang/IndexOutOfBoundsException", .initialized "java/lang/IndexOutOfBoundsException", .fieldLink RX3 7 "PlotPatch" "lampCount" "I", .instanceMethod yX2_handOver, .initialized RX2, .selects RX2 yX2_handOver yX2_handOver, .code yX2_handOver cX2_handOver 6 (some .int), .fieldLink RX2 9 "PlotPatch$Show" "cueCount" "I", .fieldLink RX2 25 "PlotPatch$Show" "named" "[I", .methodLink RX2 56 yX2_cell, .static yX2_cell, .code yX2_cell cX2_cell 2 (some .int)] ++ wsX30 ++ wsX20 ++ (vx_atS RX3 195 "java/lang/IllegalArgumentException" ["java/lang/RuntimeException", "java/lang/Exception"]).filter goodWord ++ (vx_atS RX3 63 "java/lang/IllegalStateException" ["java/lang/RuntimeException", "java/lang/Exception"]).filter goodWord ++ (vx_atS RX3 49 "java/lang/IndexOutOfBoundsException" ["java/lang/RuntimeException", "java/lang/Exception"]).filter goodWord)
def wsX3_colour : List Cond := .code yX3_colour cX3_colour 4 (some .int) :: ([.fieldLink RX3 13 "PlotPatch" "colours" "[I", .fieldLink RX3 17 "PlotPatch" "burns" "[I", .methodLink RX3 89 yX3_checkLamp, .instanceMethod yX3_checkLamp, .selects RX3 yX3_checkLamp yX3_checkLamp, .initialized RX3, .code yX3_checkLamp cX3_checkLamp 2 none, .classLink RX3 45 "java/lang/IndexOutOfBoundsException", .initialized "java/lang/IndexOutOfBoundsException", .fieldLink RX3 7 "PlotPatch" "lampCount" "I", .methodLink RX3 52 yX3_checkRange, .static yX3_checkRange, .code yX3_checkRange cX3_checkRange 3 none, .classLink RX3 191 "java/lang/IllegalArgumentException", .initialized "java/lang/IllegalArgumentException"] ++ wsX30 ++ (vx_atS RX3 49 "java/lang/IndexOutOfBoundsException" ["java/lang/RuntimeException", "java/lang/Exception"]).filter goodWord ++ (vx_atS RX3 195 "java/lang/IllegalArgumentException" ["java/lang/RuntimeException", "java/lang/Exception"]).filter goodWord)
def wsX3_burnt : List Cond := .code yX3_burnt cX3_burnt 3 (some .int) :: ([.fieldLink RX3 7 "PlotPatch" "lampCount" "I", .fieldLink RX3 17 "PlotPatch" "burns" "[I"] ++ wsX30)
def wsX4_init_r1 : List Cond := [Cond.methodLink RX4 1 objectInit, Cond.instanceMethod objectInit, Cond.code objectInit ⟨#[0xb1]⟩ 1 none, Cond.arrayClass .int, Cond.fieldLink RX4 7 "PlotPatchModel" "bars" "[I", Cond.fieldLink RX4 13 "PlotPatchModel" "length" "[I", Cond.fieldLink RX4 16 "PlotPatchModel" "limit" "[I", Cond.fieldLink RX4 19 "PlotPatchModel" "kind" "[I", Cond.fieldLink RX4 22 "PlotPatchModel" "colour" "[I", Cond.fieldLink RX4 25 "PlotPatchModel" "bar" "[I", Cond.fieldLink RX4 28 "PlotPatchModel" "place" "[I", Cond.fieldLink RX4 31 "PlotPatchModel" "first" "[I", Cond.fieldLink RX4 34 "PlotPatchModel" "circuit" "[I", Cond.arrayClass .boolean, Cond.fieldLink RX4 37 "PlotPatchModel" "isDead" "[Z", Cond.fieldLink RX4 41 "PlotPatchModel" "burning" "[I", Cond.fieldLink RX4 44 "PlotPatchModel" "from" "[I", Cond.fieldLink RX4 47 "PlotPatchModel" "to" "[I", Cond.fieldLink RX4 50 "PlotPatchModel" "since" "[I", Cond.fieldLink RX4 53 "PlotPatchModel" "fading" "[I", Cond.fieldLink RX4 56 "PlotPatchModel" "by" "[I", Cond.fieldLink RX4 59 "PlotPatchModel" "fade" "[I", Cond.fieldLink RX4 62 "PlotPatchModel" "curve" "[I", Cond.fieldLink RX4 65 "PlotPatchModel" "follow" "[I"]
def wsX4_init_r2 : List Cond := [Cond.fieldLink RX4 68 "PlotPatchModel" "named" "[I", Cond.fieldLink RX4 71 "PlotPatchModel" "wasOn" "[I"]
def wsX4_init : List Cond := .code yX4_init cX4_init 2 none :: ((wsX4_init_r1 ++ wsX4_init_r2) ++ wsX40)
def wsX4_thrown : List Cond := .code yX4_thrown cX4_thrown 1 (some .int) :: ([.fieldLink RX4 74 "PlotPatchModel" "thrown" "I"] ++ wsX40)
def wsX4_may : List Cond := .code yX4_may cX4_may 2 (some .boolean) :: ([.fieldLink RX4 74 "PlotPatchModel" "thrown" "I"] ++ wsX40)
def wsX4_mayBoth : List Cond := .code yX4_mayBoth cX4_mayBoth 3 (some .boolean) :: ([.fieldLink RX4 74 "PlotPatchModel" "thrown" "I"] ++ wsX40)
def wsX4_mayAll : List Cond := .code yX4_mayAll cX4_mayAll 4 (some .boolean) :: ([.fieldLink RX4 74 "PlotPatchModel" "thrown" "I"] ++ wsX40)
def wsX4_isIn : List Cond := .code yX4_isIn cX4_isIn 3 (some .boolean) :: ([])
def wsX4_isLamp : List Cond := .code yX4_isLamp cX4_isLamp 2 (some .boolean) :: ([.fieldLink RX4 78 "PlotPatchModel" "lamps" "I", .methodLink RX4 81 yX4_isIn, .static yX4_isIn, .initialized RX4, .code yX4_isIn cX4_isIn 3 (some .boolean)] ++ wsX40)
def wsX4_isBar : List Cond := .code yX4_isBar cX4_isBar 2 (some .boolean) :: ([.fieldLink RX4 7 "PlotPatchModel" "bars" "[I", .fieldLink RX4 85 "PlotPatchModel" "house" "I", .methodLink RX4 81 yX4_isIn, .static yX4_isIn, .initialized RX4, .code yX4_isIn cX4_isIn 3 (some .boolean)] ++ wsX40)
def wsX4_isCue : List Cond := .code yX4_isCue cX4_isCue 2 (some .boolean) :: ([.fieldLink RX4 88 "PlotPatchModel" "cues" "I", .methodLink RX4 81 yX4_isIn, .static yX4_isIn, .initialized RX4, .code yX4_isIn cX4_isIn 3 (some .boolean)] ++ wsX40)
def wsX4_weighs : List Cond := .code yX4_weighs cX4_weighs 1 (some .int) :: ([])
def wsX4_draws : List Cond := .code yX4_draws cX4_draws 1 (some .int) :: ([])
def wsX4_has : List Cond := .code yX4_has cX4_has 1 (some .int) :: ([])
def wsX4_bar : List Cond := .code yX4_bar cX4_bar 5 (some .int) :: ([.fieldLink RX4 7 "PlotPatchModel" "bars" "[I", .fieldLink RX4 13 "PlotPatchModel" "length" "[I", .fieldLink RX4 16 "PlotPatchModel" "limit" "[I", .methodLink RX4 81 yX4_isIn, .static yX4_isIn, .initialized RX4, .code yX4_isIn cX4_isIn 3 (some .boolean), .methodLink RX4 91 yX4_mayAll, .instanceMethod yX4_mayAll, .selects RX4 yX4_mayAll yX4_mayAll, .code yX4_mayAll cX4_mayAll 4 (some .boolean), .fieldLink RX4 74 "PlotPatchModel" "thrown" "I"] ++ wsX40)
def wsX4_lamp : List Cond := .code yX4_lamp cX4_lamp 3 (some .int) :: ([.fieldLink RX4 78 "PlotPatchModel" "lamps" "I", .fieldLink RX4 19 "PlotPatchModel" "kind" "[I", .fieldLink RX4 22 "PlotPatchModel" "colour" "[I", .fieldLink RX4 25 "PlotPatchModel" "bar" "[I", .fieldLink RX4 31 "PlotPatchModel" "first" "[I", .fieldLink RX4 34 "PlotPatchModel" "circuit" "[I", .methodLink RX4 81 yX4_isIn, .static yX4_isIn, .initialized RX4, .code yX4_isIn cX4_isIn 3 (some .boolean), .methodLink RX4 95 yX4_mayBoth, .instanceMethod yX4_mayBoth, .selects RX4 yX4_mayBoth yX4_mayBoth, .code yX4_mayBoth cX4_mayBoth 3 (some .boolean), .fieldLink RX4 74 "PlotPatchModel" "thrown" "I"] ++ wsX40)
def wsX4_weightOn : List Cond := .code yX4_weightOn cX4_weightOn 5 (some .int) :: ([.fieldLink RX4 78 "PlotPatchModel" "lamps" "I", .fieldLink RX4 25 "PlotPatchModel" "bar" "[I", .fieldLink RX4 19 "PlotPatchModel" "kind" "[I", .methodLink RX4 99 yX4_weighs, .static yX4_weighs, .initialized RX4, .code yX4_weighs cX4_weighs 1 (some .int)] ++ wsX40)
def wsX4_canHang : List Cond := .code yX4_canHang cX4_canHang 6 (some .boolean) :: ([.fieldLink RX4 19 "PlotPatchModel" "kind" "[I", .fieldLink RX4 16 "PlotPatchModel" "limit" "[I", .fieldLink RX4 85 "PlotPatchModel" "house" "I", .fieldLink RX4 78 "PlotPatchModel" "lamps" "I", .fieldLink RX4 25 "PlotPatchModel" "bar" "[I", .fieldLink RX4 28 "PlotPatchModel" "place" "[I", .methodLink RX4 103 yX4_weightOn, .instanceMethod yX4_weightOn, .selects RX4 yX4_weightOn yX4_weightOn, .initialized RX4, .code yX4_weightOn cX4_weightOn 5 (some .int), .methodLink RX4 99 yX4_weighs, .static yX4_weighs, .code yX4_weighs cX4_weighs 1 (some .int)] ++ wsX40)
def wsX4_hang_r1 : List Cond := [Cond.fieldLink RX4 13 "PlotPatchModel" "length" "[I", Cond.fieldLink RX4 85 "PlotPatchModel" "house" "I", Cond.fieldLink RX4 25 "PlotPatchModel" "bar" "[I", Cond.fieldLink RX4 28 "PlotPatchModel" "place" "[I", Cond.methodLink RX4 107 yX4_isLamp, Cond.instanceMethod yX4_isLamp, Cond.selects RX4 yX4_isLamp yX4_isLamp, Cond.initialized RX4, Cond.code yX4_isLamp cX4_isLamp 2 (some .boolean), Cond.fieldLink RX4 78 "PlotPatchModel" "lamps" "I", Cond.methodLink RX4 81 yX4_isIn, Cond.static yX4_isIn, Cond.code yX4_isIn cX4_isIn 3 (some .boolean), Cond.methodLink RX4 111 yX4_isBar, Cond.instanceMethod yX4_isBar, Cond.selects RX4 yX4_isBar yX4_isBar, Cond.code yX4_isBar cX4_isBar 2 (some .boolean), Cond.fieldLink RX4 7 "PlotPatchModel" "bars" "[I", Cond.methodLink RX4 114 yX4_canHang, Cond.instanceMethod yX4_canHang, Cond.selects RX4 yX4_canHang yX4_canHang, Cond.code yX4_canHang cX4_canHang 6 (some .boolean), Cond.fieldLink RX4 19 "PlotPatchModel" "kind" "[I", Cond.fieldLink RX4 16 "PlotPatchModel" "limit" "[I"]
def wsX4_hang_r2 : List Cond := [Cond.methodLink RX4 103 yX4_weightOn, Cond.instanceMethod yX4_weightOn, Cond.selects RX4 yX4_weightOn yX4_weightOn, Cond.code yX4_weightOn cX4_weightOn 5 (some .int), Cond.methodLink RX4 99 yX4_weighs, Cond.static yX4_weighs, Cond.code yX4_weighs cX4_weighs 1 (some .int), Cond.methodLink RX4 95 yX4_mayBoth, Cond.instanceMethod yX4_mayBoth, Cond.selects RX4 yX4_mayBoth yX4_mayBoth, Cond.code yX4_mayBoth cX4_mayBoth 3 (some .boolean), Cond.fieldLink RX4 74 "PlotPatchModel" "thrown" "I"]
def wsX4_hang : List Cond := .code yX4_hang cX4_hang 5 (some .int) :: ((wsX4_hang_r1 ++ wsX4_hang_r2) ++ wsX40)
def wsX4_down : List Cond := .code yX4_down cX4_down 3 (some .boolean) :: ([.fieldLink RX4 25 "PlotPatchModel" "bar" "[I", .methodLink RX4 107 yX4_isLamp, .instanceMethod yX4_isLamp, .selects RX4 yX4_isLamp yX4_isLamp, .initialized RX4, .code yX4_isLamp cX4_isLamp 2 (some .boolean), .fieldLink RX4 78 "PlotPatchModel" "lamps" "I", .methodLink RX4 81 yX4_isIn, .static yX4_isIn, .code yX4_isIn cX4_isIn 3 (some .boolean), .methodLink RX4 117 yX4_may, .instanceMethod yX4_may, .selects RX4 yX4_may yX4_may, .code yX4_may cX4_may 2 (some .boolean), .fieldLink RX4 74 "PlotPatchModel" "thrown" "I"] ++ wsX40)
def wsX4_ranked : List Cond := .code yX4_ranked cX4_ranked 6 (some .int) :: ([.fieldLink RX4 78 "PlotPatchModel" "lamps" "I", .fieldLink RX4 25 "PlotPatchModel" "bar" "[I", .fieldLink RX4 28 "PlotPatchModel" "place" "[I"] ++ wsX40)
def wsX4_onBar : List Cond := .code yX4_onBar cX4_onBar 5 (some .int) :: ([.methodLink RX4 111 yX4_isBar, .instanceMethod yX4_isBar, .selects RX4 yX4_isBar yX4_isBar, .initialized RX4, .code yX4_isBar cX4_isBar 2 (some .boolean), .fieldLink RX4 7 "PlotPatchModel" "bars" "[I", .fieldLink RX4 85 "PlotPatchModel" "house" "I", .methodLink RX4 81 yX4_isIn, .static yX4_isIn, .code yX4_isIn cX4_isIn 3 (some .boolean), .methodLink RX4 121 yX4_ranked, .instanceMethod yX4_ranked, .selects RX4 yX4_ranked yX4_ranked, .code yX4_ranked cX4_ranked 6 (some .int), .fieldLink RX4 78 "PlotPatchModel" "lamps" "I", .fieldLink RX4 25 "PlotPatchModel" "bar" "[I", .fieldLink RX4 28 "PlotPatchModel" "place" "[I", .methodLink RX4 117 yX4_may, .instanceMethod yX4_may, .selects RX4 yX4_may yX4_may, .code yX4_may cX4_may 2 (some .boolean), .fieldLink RX4 74 "PlotPatchModel" "thrown" "I"] ++ wsX40)
def wsX4_where : List Cond := .code yX4_where cX4_where 2 (some .int) :: ([.fieldLink RX4 25 "PlotPatchModel" "bar" "[I", .fieldLink RX4 28 "PlotPatchModel" "place" "[I", .methodLink RX4 107 yX4_isLamp, .instanceMethod yX4_isLamp, .selects RX4 yX4_isLamp yX4_isLamp, .initialized RX4, .code yX4_isLamp cX4_isLamp 2 (some .boolean), .fieldLink RX4 78 "PlotPatchModel" "lamps" "I", .methodLink RX4 81 yX4_isIn, .static yX4_isIn, .code yX4_isIn cX4_isIn 3 (some .boolean), .methodLink RX4 117 yX4_may, .instanceMethod yX4_may, .selects RX4 yX4_may yX4_may, .code yX4_may cX4_may 2 (some .boolean), .fieldLink RX4 74 "PlotPatchModel" "thrown" "I"] ++ wsX40)
def wsX4_tour_r1 : List Cond := [Cond.fieldLink RX4 74 "PlotPatchModel" "thrown" "I", Cond.fieldLink RX4 85 "PlotPatchModel" "house" "I", Cond.fieldLink RX4 78 "PlotPatchModel" "lamps" "I", Cond.fieldLink RX4 71 "PlotPatchModel" "wasOn" "[I", Cond.fieldLink RX4 25 "PlotPatchModel" "bar" "[I", Cond.fieldLink RX4 13 "PlotPatchModel" "length" "[I", Cond.fieldLink RX4 28 "PlotPatchModel" "place" "[I", Cond.methodLink RX4 111 yX4_isBar, Cond.instanceMethod yX4_isBar, Cond.selects RX4 yX4_isBar yX4_isBar, Cond.initialized RX4, Cond.code yX4_isBar cX4_isBar 2 (some .boolean), Cond.fieldLink RX4 7 "PlotPatchModel" "bars" "[I", Cond.methodLink RX4 81 yX4_isIn, Cond.static yX4_isIn, Cond.code yX4_isIn cX4_isIn 3 (some .boolean), Cond.methodLink RX4 114 yX4_canHang, Cond.instanceMethod yX4_canHang, Cond.selects RX4 yX4_canHang yX4_canHang, Cond.code yX4_canHang cX4_canHang 6 (some .boolean), Cond.fieldLink RX4 19 "PlotPatchModel" "kind" "[I", Cond.fieldLink RX4 16 "PlotPatchModel" "limit" "[I", Cond.methodLink RX4 103 yX4_weightOn, Cond.instanceMethod yX4_weightOn]
def wsX4_tour_r2 : List Cond := [Cond.selects RX4 yX4_weightOn yX4_weightOn, Cond.code yX4_weightOn cX4_weightOn 5 (some .int), Cond.methodLink RX4 99 yX4_weighs, Cond.static yX4_weighs, Cond.code yX4_weighs cX4_weighs 1 (some .int)]
def wsX4_tour : List Cond := .code yX4_tour cX4_tour 7 (some .int) :: ((wsX4_tour_r1 ++ wsX4_tour_r2) ++ wsX40)
def wsX4_lampsAt : List Cond := .code yX4_lampsAt cX4_lampsAt 4 (some .int) :: ([.fieldLink RX4 78 "PlotPatchModel" "lamps" "I", .fieldLink RX4 31 "PlotPatchModel" "first" "[I", .fieldLink RX4 19 "PlotPatchModel" "kind" "[I", .methodLink RX4 124 yX4_has, .static yX4_has, .initialized RX4, .code yX4_has cX4_has 1 (some .int), .methodLink RX4 81 yX4_isIn, .static yX4_isIn, .code yX4_isIn cX4_isIn 3 (some .boolean)] ++ wsX40)
def wsX4_patch : List Cond := .code yX4_patch cX4_patch 6 (some .int) :: ([.fieldLink RX4 19 "PlotPatchModel" "kind" "[I", .fieldLink RX4 31 "PlotPatchModel" "first" "[I", .methodLink RX4 107 yX4_isLamp, .instanceMethod yX4_isLamp, .selects RX4 yX4_isLamp yX4_isLamp, .initialized RX4, .code yX4_isLamp cX4_isLamp 2 (some .boolean), .fieldLink RX4 78 "PlotPatchModel" "lamps" "I", .methodLink RX4 81 yX4_isIn, .static yX4_isIn, .code yX4_isIn cX4_isIn 3 (some .boolean), .methodLink RX4 124 yX4_has, .static yX4_has, .code yX4_has cX4_has 1 (some .int), .methodLink RX4 95 yX4_mayBoth, .instanceMethod yX4_mayBoth, .selects RX4 yX4_mayBoth yX4_mayBoth, .code yX4_mayBoth cX4_mayBoth 3 (some .boolean), .fieldLink RX4 74 "PlotPatchModel" "thrown" "I", .methodLink RX4 127 yX4_lampsAt, .instanceMethod yX4_lampsAt, .selects RX4 yX4_lampsAt yX4_lampsAt, .code yX4_lampsAt cX4_lampsAt 4 (some .int)] ++ wsX40)
def wsX4_gap : List Cond := .code yX4_gap cX4_gap 4 (some .int) :: ([.methodLink RX4 81 yX4_isIn, .static yX4_isIn, .initialized RX4, .code yX4_isIn cX4_isIn 3 (some .boolean), .methodLink RX4 117 yX4_may, .instanceMethod yX4_may, .selects RX4 yX4_may yX4_may, .code yX4_may cX4_may 2 (some .boolean), .fieldLink RX4 74 "PlotPatchModel" "thrown" "I", .methodLink RX4 127 yX4_lampsAt, .instanceMethod yX4_lampsAt, .selects RX4 yX4_lampsAt yX4_lampsAt, .code yX4_lampsAt cX4_lampsAt 4 (some .int), .fieldLink RX4 78 "PlotPatchModel" "lamps" "I", .fieldLink RX4 31 "PlotPatchModel" "first" "[I", .fieldLink RX4 19 "PlotPatchModel" "kind" "[I", .methodLink RX4 124 yX4_has, .static yX4_has, .code yX4_has cX4_has 1 (some .int)] ++ wsX40)
def wsX4_plug : List Cond := .code yX4_plug cX4_plug 4 (some .int) :: ([.fieldLink RX4 34 "PlotPatchModel" "circuit" "[I", .methodLink RX4 107 yX4_isLamp, .instanceMethod yX4_isLamp, .selects RX4 yX4_isLamp yX4_isLamp, .initialized RX4, .code yX4_isLamp cX4_isLamp 2 (some .boolean), .fieldLink RX4 78 "PlotPatchModel" "lamps" "I", .methodLink RX4 81 yX4_isIn, .static yX4_isIn, .code yX4_isIn cX4_isIn 3 (some .boolean), .methodLink RX4 117 yX4_may, .instanceMethod yX4_may, .selects RX4 yX4_may yX4_may, .code yX4_may cX4_may 2 (some .boolean), .fieldLink RX4 74 "PlotPatchModel" "thrown" "I"] ++ wsX40)
def wsX4_quotient : List Cond := .code yX4_quotient cX4_quotient 3 (some .int) :: ([])
def wsX4_wantedOf : List Cond := .code yX4_wantedOf cX4_wantedOf 5 (some .int) :: ([.fieldLink RX4 139 "PlotPatchModel" "time" "I", .fieldLink RX4 50 "PlotPatchModel" "since" "[I", .fieldLink RX4 53 "PlotPatchModel" "fading" "[I", .fieldLink RX4 47 "PlotPatchModel" "to" "[I", .fieldLink RX4 44 "PlotPatchModel" "from" "[I", .fieldLink RX4 56 "PlotPatchModel" "by" "[I", .methodLink RX4 142 yX4_quotient, .static yX4_quotient, .initialized RX4, .code yX4_quotient cX4_quotient 3 (some .int)] ++ wsX40)
def wsX4_levelOf : List Cond := .code yX4_levelOf cX4_levelOf 2 (some .int) :: ([.fieldLink RX4 25 "PlotPatchModel" "bar" "[I", .fieldLink RX4 37 "PlotPatchModel" "isDead" "[Z", .methodLink RX4 148 yX4_wantedOf, .instanceMethod yX4_wantedOf, .selects RX4 yX4_wantedOf yX4_wantedOf, .initialized RX4, .code yX4_wantedOf cX4_wantedOf 5 (some .int), .fieldLink RX4 139 "PlotPatchModel" "time" "I", .fieldLink RX4 50 "PlotPatchModel" "since" "[I", .fieldLink RX4 53 "PlotPatchModel" "fading" "[I", .fieldLink RX4 47 "PlotPatchModel" "to" "[I", .fieldLink RX4 44 "PlotPatchModel" "from" "[I", .fieldLink RX4 56 "PlotPatchModel" "by" "[I", .methodLink RX4 142 yX4_quotient, .static yX4_quotient, .code yX4_quotient cX4_quotient 3 (some .int)] ++ wsX40)
def wsX4_load_r1 : List Cond := [Cond.fieldLink RX4 78 "PlotPatchModel" "lamps" "I", Cond.fieldLink RX4 34 "PlotPatchModel" "circuit" "[I", Cond.fieldLink RX4 19 "PlotPatchModel" "kind" "[I", Cond.methodLink RX4 81 yX4_isIn, Cond.static yX4_isIn, Cond.initialized RX4, Cond.code yX4_isIn cX4_isIn 3 (some .boolean), Cond.methodLink RX4 117 yX4_may, Cond.instanceMethod yX4_may, Cond.selects RX4 yX4_may yX4_may, Cond.code yX4_may cX4_may 2 (some .boolean), Cond.fieldLink RX4 74 "PlotPatchModel" "thrown" "I", Cond.methodLink RX4 130 yX4_draws, Cond.static yX4_draws, Cond.code yX4_draws cX4_draws 1 (some .int), Cond.methodLink RX4 133 yX4_levelOf, Cond.instanceMethod yX4_levelOf, Cond.selects RX4 yX4_levelOf yX4_levelOf, Cond.code yX4_levelOf cX4_levelOf 2 (some .int), Cond.fieldLink RX4 25 "PlotPatchModel" "bar" "[I", Cond.fieldLink RX4 37 "PlotPatchModel" "isDead" "[Z", Cond.methodLink RX4 148 yX4_wantedOf, Cond.instanceMethod yX4_wantedOf, Cond.selects RX4 yX4_wantedOf yX4_wantedOf]
def wsX4_load_r2 : List Cond := [Cond.code yX4_wantedOf cX4_wantedOf 5 (some .int), Cond.fieldLink RX4 139 "PlotPatchModel" "time" "I", Cond.fieldLink RX4 50 "PlotPatchModel" "since" "[I", Cond.fieldLink RX4 53 "PlotPatchModel" "fading" "[I", Cond.fieldLink RX4 47 "PlotPatchModel" "to" "[I", Cond.fieldLink RX4 44 "PlotPatchModel" "from" "[I", Cond.fieldLink RX4 56 "PlotPatchModel" "by" "[I", Cond.methodLink RX4 142 yX4_quotient, Cond.static yX4_quotient, Cond.code yX4_quotient cX4_quotient 3 (some .int)]
def wsX4_load : List Cond := .code yX4_load cX4_load 4 (some .int) :: ((wsX4_load_r1 ++ wsX4_load_r2) ++ wsX40)
def wsX4_cue : List Cond := .code yX4_cue cX4_cue 4 (some .int) :: ([.fieldLink RX4 88 "PlotPatchModel" "cues" "I", .fieldLink RX4 59 "PlotPatchModel" "fade" "[I", .fieldLink RX4 62 "PlotPatchModel" "curve" "[I", .fieldLink RX4 65 "PlotPatchModel" "follow" "[I", .methodLink RX4 81 yX4_isIn, .static yX4_isIn, .initialized RX4, .code yX4_isIn cX4_isIn 3 (some .boolean), .methodLink RX4 95 yX4_mayBoth, .instanceMethod yX4_mayBoth, .selects RX4 yX4_mayBoth yX4_mayBoth, .code yX4_mayBoth cX4_mayBoth 3 (some .boolean), .fieldLink RX4 74 "PlotPatchModel" "thrown" "I"] ++ wsX40)
def wsX4_name : List Cond := .code yX4_name cX4_name 5 (some .int) :: ([.fieldLink RX4 68 "PlotPatchModel" "named" "[I", .methodLink RX4 136 yX4_isCue, .instanceMethod yX4_isCue, .selects RX4 yX4_isCue yX4_isCue, .initialized RX4, .code yX4_isCue cX4_isCue 2 (some .boolean), .fieldLink RX4 88 "PlotPatchModel" "cues" "I", .methodLink RX4 81 yX4_isIn, .static yX4_isIn, .code yX4_isIn cX4_isIn 3 (some .boolean), .methodLink RX4 107 yX4_isLamp, .instanceMethod yX4_isLamp, .selects RX4 yX4_isLamp yX4_isLamp, .code yX4_isLamp cX4_isLamp 2 (some .boolean), .fieldLink RX4 78 "PlotPatchModel" "lamps" "I", .methodLink RX4 95 yX4_mayBoth, .instanceMethod yX4_mayBoth, .selects RX4 yX4_mayBoth yX4_mayBoth, .code yX4_mayBoth cX4_mayBoth 3 (some .boolean), .fieldLink RX4 74 "PlotPatchModel" "thrown" "I"] ++ wsX40)
def wsX4_begin : List Cond := .code yX4_begin cX4_begin 5 (some .int) :: ([.fieldLink RX4 145 "PlotPatchModel" "begun" "I", .fieldLink RX4 88 "PlotPatchModel" "cues" "I", .fieldLink RX4 78 "PlotPatchModel" "lamps" "I", .fieldLink RX4 68 "PlotPatchModel" "named" "[I", .fieldLink RX4 44 "PlotPatchModel" "from" "[I", .fieldLink RX4 47 "PlotPatchModel" "to" "[I", .fieldLink RX4 50 "PlotPatchModel" "since" "[I", .fieldLink RX4 139 "PlotPatchModel" "time" "I", .fieldLink RX4 53 "PlotPatchModel" "fading" "[I", .fieldLink RX4 59 "PlotPatchModel" "fade" "[I", .fieldLink RX4 56 "PlotPatchModel" "by" "[I", .fieldLink RX4 62 "PlotPatchModel" "curve" "[I", .fieldLink RX4 151 "PlotPatchModel" "beganAt" "I", .fieldLink RX4 65 "PlotPatchModel" "follow" "[I", .methodLink RX4 148 yX4_wantedOf, .instanceMethod yX4_wantedOf, .selects RX4 yX4_wantedOf yX4_wantedOf, .initialized RX4, .code yX4_wantedOf cX4_wantedOf 5 (some .int), .methodLink RX4 142 yX4_quotient, .static yX4_quotient, .code yX4_quotient cX4_quotient 3 (some .int)] ++ wsX40)
def wsX4_go_r1 : List Cond := [Cond.fieldLink RX4 145 "PlotPatchModel" "begun" "I", Cond.fieldLink RX4 88 "PlotPatchModel" "cues" "I", Cond.methodLink RX4 117 yX4_may, Cond.instanceMethod yX4_may, Cond.selects RX4 yX4_may yX4_may, Cond.initialized RX4, Cond.code yX4_may cX4_may 2 (some .boolean), Cond.fieldLink RX4 74 "PlotPatchModel" "thrown" "I", Cond.methodLink RX4 154 yX4_begin, Cond.instanceMethod yX4_begin, Cond.selects RX4 yX4_begin yX4_begin, Cond.code yX4_begin cX4_begin 5 (some .int), Cond.fieldLink RX4 78 "PlotPatchModel" "lamps" "I", Cond.fieldLink RX4 68 "PlotPatchModel" "named" "[I", Cond.fieldLink RX4 44 "PlotPatchModel" "from" "[I", Cond.fieldLink RX4 47 "PlotPatchModel" "to" "[I", Cond.fieldLink RX4 50 "PlotPatchModel" "since" "[I", Cond.fieldLink RX4 139 "PlotPatchModel" "time" "I", Cond.fieldLink RX4 53 "PlotPatchModel" "fading" "[I", Cond.fieldLink RX4 59 "PlotPatchModel" "fade" "[I", Cond.fieldLink RX4 56 "PlotPatchModel" "by" "[I", Cond.fieldLink RX4 62 "PlotPatchModel" "curve" "[I", Cond.fieldLink RX4 151 "PlotPatchModel" "beganAt" "I", Cond.fieldLink RX4 65 "PlotPatchModel" "follow" "[I"]
def wsX4_go_r2 : List Cond := [Cond.methodLink RX4 148 yX4_wantedOf, Cond.instanceMethod yX4_wantedOf, Cond.selects RX4 yX4_wantedOf yX4_wantedOf, Cond.code yX4_wantedOf cX4_wantedOf 5 (some .int), Cond.methodLink RX4 142 yX4_quotient, Cond.static yX4_quotient, Cond.code yX4_quotient cX4_quotient 3 (some .int)]
def wsX4_go : List Cond := .code yX4_go cX4_go 1 (some .int) :: ((wsX4_go_r1 ++ wsX4_go_r2) ++ wsX40)
def wsX4_tick_r1 : List Cond := [Cond.fieldLink RX4 139 "PlotPatchModel" "time" "I", Cond.fieldLink RX4 145 "PlotPatchModel" "begun" "I", Cond.fieldLink RX4 65 "PlotPatchModel" "follow" "[I", Cond.fieldLink RX4 151 "PlotPatchModel" "beganAt" "I", Cond.fieldLink RX4 78 "PlotPatchModel" "lamps" "I", Cond.fieldLink RX4 41 "PlotPatchModel" "burning" "[I", Cond.methodLink RX4 81 yX4_isIn, Cond.static yX4_isIn, Cond.initialized RX4, Cond.code yX4_isIn cX4_isIn 3 (some .boolean), Cond.methodLink RX4 117 yX4_may, Cond.instanceMethod yX4_may, Cond.selects RX4 yX4_may yX4_may, Cond.code yX4_may cX4_may 2 (some .boolean), Cond.fieldLink RX4 74 "PlotPatchModel" "thrown" "I", Cond.methodLink RX4 154 yX4_begin, Cond.instanceMethod yX4_begin, Cond.selects RX4 yX4_begin yX4_begin, Cond.code yX4_begin cX4_begin 5 (some .int), Cond.fieldLink RX4 88 "PlotPatchModel" "cues" "I", Cond.fieldLink RX4 68 "PlotPatchModel" "named" "[I", Cond.fieldLink RX4 44 "PlotPatchModel" "from" "[I", Cond.fieldLink RX4 47 "PlotPatchModel" "to" "[I", Cond.fieldLink RX4 50 "PlotPatchModel" "since" "[I"]
def wsX4_tick_r2 : List Cond := [Cond.fieldLink RX4 53 "PlotPatchModel" "fading" "[I", Cond.fieldLink RX4 59 "PlotPatchModel" "fade" "[I", Cond.fieldLink RX4 56 "PlotPatchModel" "by" "[I", Cond.fieldLink RX4 62 "PlotPatchModel" "curve" "[I", Cond.methodLink RX4 148 yX4_wantedOf, Cond.instanceMethod yX4_wantedOf, Cond.selects RX4 yX4_wantedOf yX4_wantedOf, Cond.code yX4_wantedOf cX4_wantedOf 5 (some .int), Cond.methodLink RX4 142 yX4_quotient, Cond.static yX4_quotient, Cond.code yX4_quotient cX4_quotient 3 (some .int), Cond.methodLink RX4 133 yX4_levelOf, Cond.instanceMethod yX4_levelOf, Cond.selects RX4 yX4_levelOf yX4_levelOf, Cond.code yX4_levelOf cX4_levelOf 2 (some .int), Cond.fieldLink RX4 25 "PlotPatchModel" "bar" "[I", Cond.fieldLink RX4 37 "PlotPatchModel" "isDead" "[Z"]
def wsX4_tick : List Cond := .code yX4_tick cX4_tick 5 (some .int) :: ((wsX4_tick_r1 ++ wsX4_tick_r2) ++ wsX40)
def wsX4_rewind : List Cond := .code yX4_rewind cX4_rewind 3 (some .int) :: ([.fieldLink RX4 74 "PlotPatchModel" "thrown" "I", .fieldLink RX4 145 "PlotPatchModel" "begun" "I", .fieldLink RX4 78 "PlotPatchModel" "lamps" "I", .fieldLink RX4 44 "PlotPatchModel" "from" "[I", .fieldLink RX4 47 "PlotPatchModel" "to" "[I", .fieldLink RX4 53 "PlotPatchModel" "fading" "[I"] ++ wsX40)
def wsX4_level_r1 : List Cond := [Cond.methodLink RX4 107 yX4_isLamp, Cond.instanceMethod yX4_isLamp, Cond.selects RX4 yX4_isLamp yX4_isLamp, Cond.initialized RX4, Cond.code yX4_isLamp cX4_isLamp 2 (some .boolean), Cond.fieldLink RX4 78 "PlotPatchModel" "lamps" "I", Cond.methodLink RX4 81 yX4_isIn, Cond.static yX4_isIn, Cond.code yX4_isIn cX4_isIn 3 (some .boolean), Cond.methodLink RX4 117 yX4_may, Cond.instanceMethod yX4_may, Cond.selects RX4 yX4_may yX4_may, Cond.code yX4_may cX4_may 2 (some .boolean), Cond.fieldLink RX4 74 "PlotPatchModel" "thrown" "I", Cond.methodLink RX4 133 yX4_levelOf, Cond.instanceMethod yX4_levelOf, Cond.selects RX4 yX4_levelOf yX4_levelOf, Cond.code yX4_levelOf cX4_levelOf 2 (some .int), Cond.fieldLink RX4 25 "PlotPatchModel" "bar" "[I", Cond.fieldLink RX4 37 "PlotPatchModel" "isDead" "[Z", Cond.methodLink RX4 148 yX4_wantedOf, Cond.instanceMethod yX4_wantedOf, Cond.selects RX4 yX4_wantedOf yX4_wantedOf, Cond.code yX4_wantedOf cX4_wantedOf 5 (some .int)]
def wsX4_level_r2 : List Cond := [Cond.fieldLink RX4 139 "PlotPatchModel" "time" "I", Cond.fieldLink RX4 50 "PlotPatchModel" "since" "[I", Cond.fieldLink RX4 53 "PlotPatchModel" "fading" "[I", Cond.fieldLink RX4 47 "PlotPatchModel" "to" "[I", Cond.fieldLink RX4 44 "PlotPatchModel" "from" "[I", Cond.fieldLink RX4 56 "PlotPatchModel" "by" "[I", Cond.methodLink RX4 142 yX4_quotient, Cond.static yX4_quotient, Cond.code yX4_quotient cX4_quotient 3 (some .int)]
def wsX4_level : List Cond := .code yX4_level cX4_level 2 (some .int) :: ((wsX4_level_r1 ++ wsX4_level_r2) ++ wsX40)
def wsX4_wanted_r1 : List Cond := [Cond.methodLink RX4 107 yX4_isLamp, Cond.instanceMethod yX4_isLamp, Cond.selects RX4 yX4_isLamp yX4_isLamp, Cond.initialized RX4, Cond.code yX4_isLamp cX4_isLamp 2 (some .boolean), Cond.fieldLink RX4 78 "PlotPatchModel" "lamps" "I", Cond.methodLink RX4 81 yX4_isIn, Cond.static yX4_isIn, Cond.code yX4_isIn cX4_isIn 3 (some .boolean), Cond.methodLink RX4 117 yX4_may, Cond.instanceMethod yX4_may, Cond.selects RX4 yX4_may yX4_may, Cond.code yX4_may cX4_may 2 (some .boolean), Cond.fieldLink RX4 74 "PlotPatchModel" "thrown" "I", Cond.methodLink RX4 148 yX4_wantedOf, Cond.instanceMethod yX4_wantedOf, Cond.selects RX4 yX4_wantedOf yX4_wantedOf, Cond.code yX4_wantedOf cX4_wantedOf 5 (some .int), Cond.fieldLink RX4 139 "PlotPatchModel" "time" "I", Cond.fieldLink RX4 50 "PlotPatchModel" "since" "[I", Cond.fieldLink RX4 53 "PlotPatchModel" "fading" "[I", Cond.fieldLink RX4 47 "PlotPatchModel" "to" "[I", Cond.fieldLink RX4 44 "PlotPatchModel" "from" "[I", Cond.fieldLink RX4 56 "PlotPatchModel" "by" "[I"]
def wsX4_wanted_r2 : List Cond := [Cond.methodLink RX4 142 yX4_quotient, Cond.static yX4_quotient, Cond.code yX4_quotient cX4_quotient 3 (some .int)]
def wsX4_wanted : List Cond := .code yX4_wanted cX4_wanted 2 (some .int) :: ((wsX4_wanted_r1 ++ wsX4_wanted_r2) ++ wsX40)
def wsX4_wantedByCues_r1 : List Cond := [Cond.methodLink RX4 107 yX4_isLamp, Cond.instanceMethod yX4_isLamp, Cond.selects RX4 yX4_isLamp yX4_isLamp, Cond.initialized RX4, Cond.code yX4_isLamp cX4_isLamp 2 (some .boolean), Cond.fieldLink RX4 78 "PlotPatchModel" "lamps" "I", Cond.methodLink RX4 81 yX4_isIn, Cond.static yX4_isIn, Cond.code yX4_isIn cX4_isIn 3 (some .boolean), Cond.methodLink RX4 117 yX4_may, Cond.instanceMethod yX4_may, Cond.selects RX4 yX4_may yX4_may, Cond.code yX4_may cX4_may 2 (some .boolean), Cond.fieldLink RX4 74 "PlotPatchModel" "thrown" "I", Cond.methodLink RX4 148 yX4_wantedOf, Cond.instanceMethod yX4_wantedOf, Cond.selects RX4 yX4_wantedOf yX4_wantedOf, Cond.code yX4_wantedOf cX4_wantedOf 5 (some .int), Cond.fieldLink RX4 139 "PlotPatchModel" "time" "I", Cond.fieldLink RX4 50 "PlotPatchModel" "since" "[I", Cond.fieldLink RX4 53 "PlotPatchModel" "fading" "[I", Cond.fieldLink RX4 47 "PlotPatchModel" "to" "[I", Cond.fieldLink RX4 44 "PlotPatchModel" "from" "[I", Cond.fieldLink RX4 56 "PlotPatchModel" "by" "[I"]
def wsX4_wantedByCues_r2 : List Cond := [Cond.methodLink RX4 142 yX4_quotient, Cond.static yX4_quotient, Cond.code yX4_quotient cX4_quotient 3 (some .int)]
def wsX4_wantedByCues : List Cond := .code yX4_wantedByCues cX4_wantedByCues 2 (some .int) :: ((wsX4_wantedByCues_r1 ++ wsX4_wantedByCues_r2) ++ wsX40)
def wsX4_bulb : List Cond := .code yX4_bulb cX4_bulb 2 (some .boolean) :: ([.fieldLink RX4 37 "PlotPatchModel" "isDead" "[Z", .methodLink RX4 107 yX4_isLamp, .instanceMethod yX4_isLamp, .selects RX4 yX4_isLamp yX4_isLamp, .initialized RX4, .code yX4_isLamp cX4_isLamp 2 (some .boolean), .fieldLink RX4 78 "PlotPatchModel" "lamps" "I", .methodLink RX4 81 yX4_isIn, .static yX4_isIn, .code yX4_isIn cX4_isIn 3 (some .boolean), .methodLink RX4 117 yX4_may, .instanceMethod yX4_may, .selects RX4 yX4_may yX4_may, .code yX4_may cX4_may 2 (some .boolean), .fieldLink RX4 74 "PlotPatchModel" "thrown" "I"] ++ wsX40)
def wsX4_standIn : List Cond := .code yX4_standIn cX4_standIn 6 (some .int) :: ([.fieldLink RX4 37 "PlotPatchModel" "isDead" "[Z", .fieldLink RX4 88 "PlotPatchModel" "cues" "I", .fieldLink RX4 68 "PlotPatchModel" "named" "[I", .methodLink RX4 107 yX4_isLamp, .instanceMethod yX4_isLamp, .selects RX4 yX4_isLamp yX4_isLamp, .initialized RX4, .code yX4_isLamp cX4_isLamp 2 (some .boolean), .fieldLink RX4 78 "PlotPatchModel" "lamps" "I", .methodLink RX4 81 yX4_isIn, .static yX4_isIn, .code yX4_isIn cX4_isIn 3 (some .boolean), .methodLink RX4 91 yX4_mayAll, .instanceMethod yX4_mayAll, .selects RX4 yX4_mayAll yX4_mayAll, .code yX4_mayAll cX4_mayAll 4 (some .boolean), .fieldLink RX4 74 "PlotPatchModel" "thrown" "I"] ++ wsX40)
def wsX4_colour : List Cond := .code yX4_colour cX4_colour 4 (some .int) :: ([.fieldLink RX4 22 "PlotPatchModel" "colour" "[I", .fieldLink RX4 41 "PlotPatchModel" "burning" "[I", .methodLink RX4 107 yX4_isLamp, .instanceMethod yX4_isLamp, .selects RX4 yX4_isLamp yX4_isLamp, .initialized RX4, .code yX4_isLamp cX4_isLamp 2 (some .boolean), .fieldLink RX4 78 "PlotPatchModel" "lamps" "I", .methodLink RX4 81 yX4_isIn, .static yX4_isIn, .code yX4_isIn cX4_isIn 3 (some .boolean), .methodLink RX4 95 yX4_mayBoth, .instanceMethod yX4_mayBoth, .selects RX4 yX4_mayBoth yX4_mayBoth, .code yX4_mayBoth cX4_mayBoth 3 (some .boolean), .fieldLink RX4 74 "PlotPatchModel" "thrown" "I"] ++ wsX40)
def wsX4_burnt : List Cond := .code yX4_burnt cX4_burnt 3 (some .int) :: ([.fieldLink RX4 74 "PlotPatchModel" "thrown" "I", .fieldLink RX4 78 "PlotPatchModel" "lamps" "I", .fieldLink RX4 41 "PlotPatchModel" "burning" "[I"] ++ wsX40)
def wsJ9_abs_0f7a4 : List Cond := .code yJ9_abs_0f7a4 cJ9_abs_0f7a4 1 (some .int) :: ([])
def wsL_bar_r1 : List Cond := [Cond.classLink RL 13 "java/lang/IndexOutOfBoundsException", Cond.classLink RL 15 "java/lang/IllegalArgumentException", Cond.classLink RL 17 "java/lang/IllegalStateException", Cond.methodLink RL 7 yX3_bar, Cond.instanceMethod yX3_bar, Cond.selects RX3 yX3_bar yX3_bar, Cond.initialized RX3, Cond.code yX3_bar cX3_bar 4 (some .int), Cond.classLink RX3 45 "java/lang/IndexOutOfBoundsException", Cond.initialized "java/lang/IndexOutOfBoundsException", Cond.classLink RX3 59 "java/lang/IllegalStateException", Cond.initialized "java/lang/IllegalStateException", Cond.fieldLink RX3 27 "PlotPatch" "rig" "LPlotPatch$Rig;", Cond.methodLink RX3 52 yX3_checkRange, Cond.static yX3_checkRange, Cond.code yX3_checkRange cX3_checkRange 3 none, Cond.classLink RX3 191 "java/lang/IllegalArgumentException", Cond.initialized "java/lang/IllegalArgumentException", Cond.instanceMethod yX1_addBar, Cond.initialized RX1, Cond.selects RX1 yX1_addBar yX1_addBar, Cond.code yX1_addBar cX1_addBar 5 (some .int), Cond.fieldLink RX1 15 "PlotPatch$Rig" "barCounts" "[I", Cond.fieldLink RX1 19 "PlotPatch$Rig" "lengths" "[I"]
def wsL_bar_r2 : List Cond := [Cond.fieldLink RX1 22 "PlotPatch$Rig" "limits" "[I", Cond.methodLink RX1 43 yX1_cell, Cond.static yX1_cell, Cond.code yX1_cell cX1_cell 2 (some .int)]
def wsL_bar : List Cond := .codeWith yL_bar cL_bar 6 (some .int) [(0, 12, 15, 13), (0, 12, 19, 15), (0, 12, 23, 17)] :: ((wsL_bar_r1 ++ wsL_bar_r2) ++ wsX30 ++ wsX10 ++ (vx_atS RX3 49 "java/lang/IndexOutOfBoundsException" ["java/lang/RuntimeException", "java/lang/Exception"]).filter goodWord ++ (vx_atS RX3 63 "java/lang/IllegalStateException" ["java/lang/RuntimeException", "java/lang/Exception"]).filter goodWord ++ (vx_atS RX3 195 "java/lang/IllegalArgumentException" ["java/lang/RuntimeException", "java/lang/Exception"]).filter goodWord)
def wsL_lamp_r1 : List Cond := [Cond.classLink RL 15 "java/lang/IllegalArgumentException", Cond.classLink RL 17 "java/lang/IllegalStateException", Cond.methodLink RL 19 yX3_lamp, Cond.instanceMethod yX3_lamp, Cond.selects RX3 yX3_lamp yX3_lamp, Cond.initialized RX3, Cond.code yX3_lamp cX3_lamp 4 (some .int), Cond.classLink RX3 59 "java/lang/IllegalStateException", Cond.initialized "java/lang/IllegalStateException", Cond.fieldLink RX3 7 "PlotPatch" "lampCount" "I", Cond.fieldLink RX3 13 "PlotPatch" "colours" "[I", Cond.fieldLink RX3 27 "PlotPatch" "rig" "LPlotPatch$Rig;", Cond.fieldLink RX3 34 "PlotPatch" "board" "LPlotPatch$Board;", Cond.methodLink RX3 52 yX3_checkRange, Cond.static yX3_checkRange, Cond.code yX3_checkRange cX3_checkRange 3 none, Cond.classLink RX3 191 "java/lang/IllegalArgumentException", Cond.initialized "java/lang/IllegalArgumentException", Cond.methodLink RX3 73 yX3_weightOfKind, Cond.static yX3_weightOfKind, Cond.code yX3_weightOfKind cX3_weightOfKind 1 (some .int), Cond.methodLink RX3 80 yX3_widthOfKind, Cond.static yX3_widthOfKind, Cond.code yX3_widthOfKind cX3_widthOfKind 1 (some .int)]
def wsL_lamp_r2 : List Cond := [Cond.methodLink RX3 86 yX3_wattsOfKind, Cond.static yX3_wattsOfKind, Cond.code yX3_wattsOfKind cX3_wattsOfKind 1 (some .int)]
def wsL_lamp : List Cond := .codeWith yL_lamp cL_lamp 5 (some .int) [(0, 10, 13, 15), (0, 10, 17, 17)] :: ((wsL_lamp_r1 ++ wsL_lamp_r2) ++ wsX30 ++ wsX10 ++ wsX00 ++ (vx_atS RX3 63 "java/lang/IllegalStateException" ["java/lang/RuntimeException", "java/lang/Exception"]).filter goodWord ++ (vx_atS RX3 195 "java/lang/IllegalArgumentException" ["java/lang/RuntimeException", "java/lang/Exception"]).filter goodWord)
def wsL_hang_r1 : List Cond := [Cond.classLink RL 13 "java/lang/IndexOutOfBoundsException", Cond.classLink RL 17 "java/lang/IllegalStateException", Cond.methodLink RL 23 yX3_hang, Cond.instanceMethod yX3_hang, Cond.selects RX3 yX3_hang yX3_hang, Cond.initialized RX3, Cond.code yX3_hang cX3_hang 4 (some .int), Cond.classLink RX3 45 "java/lang/IndexOutOfBoundsException", Cond.initialized "java/lang/IndexOutOfBoundsException", Cond.classLink RX3 59 "java/lang/IllegalStateException", Cond.initialized "java/lang/IllegalStateException", Cond.fieldLink RX3 27 "PlotPatch" "rig" "LPlotPatch$Rig;", Cond.methodLink RX3 89 yX3_checkLamp, Cond.instanceMethod yX3_checkLamp, Cond.selects RX3 yX3_checkLamp yX3_checkLamp, Cond.code yX3_checkLamp cX3_checkLamp 2 none, Cond.fieldLink RX3 7 "PlotPatch" "lampCount" "I", Cond.methodLink RX3 93 yX3_checkBar, Cond.instanceMethod yX3_checkBar, Cond.selects RX3 yX3_checkBar yX3_checkBar, Cond.code yX3_checkBar cX3_checkBar 2 none, Cond.instanceMethod yX1_hasBar, Cond.initialized RX1, Cond.selects RX1 yX1_hasBar yX1_hasBar]
def wsL_hang_r2 : List Cond := [Cond.code yX1_hasBar cX1_hasBar 2 (some .boolean), Cond.fieldLink RX1 15 "PlotPatch$Rig" "barCounts" "[I", Cond.fieldLink RX1 9 "PlotPatch$Rig" "house" "I", Cond.instanceMethod yX1_hasPlace, Cond.selects RX1 yX1_hasPlace yX1_hasPlace, Cond.code yX1_hasPlace cX1_hasPlace 3 (some .boolean), Cond.fieldLink RX1 19 "PlotPatch$Rig" "lengths" "[I", Cond.methodLink RX1 43 yX1_cell, Cond.static yX1_cell, Cond.code yX1_cell cX1_cell 2 (some .int), Cond.instanceMethod yX1_bears, Cond.selects RX1 yX1_bears yX1_bears, Cond.code yX1_bears cX1_bears 4 (some .boolean), Cond.fieldLink RX1 28 "PlotPatch$Rig" "bars" "[I", Cond.fieldLink RX1 25 "PlotPatch$Rig" "weights" "[I", Cond.fieldLink RX1 22 "PlotPatch$Rig" "limits" "[I", Cond.methodLink RX1 47 yX1_weightOn, Cond.instanceMethod yX1_weightOn, Cond.selects RX1 yX1_weightOn yX1_weightOn, Cond.code yX1_weightOn cX1_weightOn 4 (some .int), Cond.instanceMethod yX1_isClear, Cond.selects RX1 yX1_isClear yX1_isClear, Cond.code yX1_isClear cX1_isClear 5 (some .boolean), Cond.fieldLink RX1 40 "PlotPatch$Rig" "places" "[I"]
def wsL_hang_r3 : List Cond := [Cond.methodLink RX1 51 Lib.Math.abs.name, Cond.static Lib.Math.abs.name, Cond.initialized "java/lang/Math", Cond.code Lib.Math.abs.name Lib.Math.abs.code 1 (some .int), Cond.instanceMethod yX1_put, Cond.selects RX1 yX1_put yX1_put, Cond.code yX1_put cX1_put 4 none]
def wsL_hang : List Cond := .codeWith yL_hang cL_hang 6 (some .int) [(0, 12, 15, 13), (0, 12, 19, 17)] :: ((wsL_hang_r1 ++ (wsL_hang_r2 ++ wsL_hang_r3)) ++ wsX30 ++ wsX10 ++ (vx_atS RX3 49 "java/lang/IndexOutOfBoundsException" ["java/lang/RuntimeException", "java/lang/Exception"]).filter goodWord ++ (vx_atS RX3 63 "java/lang/IllegalStateException" ["java/lang/RuntimeException", "java/lang/Exception"]).filter goodWord)
def wsL_down : List Cond := .codeWith yL_down cL_down 4 (some .int) [(0, 16, 19, 13)] :: ([.classLink RL 13 "java/lang/IndexOutOfBoundsException", .methodLink RL 26 yX3_down, .instanceMethod yX3_down, .selects RX3 yX3_down yX3_down, .initialized RX3, .code yX3_down cX3_down 3 (some .boolean), .fieldLink RX3 27 "PlotPatch" "rig" "LPlotPatch$Rig;", .methodLink RX3 89 yX3_checkLamp, .instanceMethod yX3_checkLamp, .selects RX3 yX3_checkLamp yX3_checkLamp, .code yX3_checkLamp cX3_checkLamp 2 none, .classLink RX3 45 "java/lang/IndexOutOfBoundsException", .initialized "java/lang/IndexOutOfBoundsException", .fieldLink RX3 7 "PlotPatch" "lampCount" "I", .instanceMethod yX1_hangs, .initialized RX1, .selects RX1 yX1_hangs yX1_hangs, .code yX1_hangs cX1_hangs 2 (some .boolean), .fieldLink RX1 28 "PlotPatch$Rig" "bars" "[I"] ++ wsX30 ++ wsX10 ++ (vx_atS RX3 49 "java/lang/IndexOutOfBoundsException" ["java/lang/RuntimeException", "java/lang/Exception"]).filter goodWord)
def wsL_onBar_r1 : List Cond := [Cond.classLink RL 13 "java/lang/IndexOutOfBoundsException", Cond.methodLink RL 30 yX3_onBar, Cond.instanceMethod yX3_onBar, Cond.selects RX3 yX3_onBar yX3_onBar, Cond.initialized RX3, Cond.code yX3_onBar cX3_onBar 4 (some .int), Cond.classLink RX3 45 "java/lang/IndexOutOfBoundsException", Cond.initialized "java/lang/IndexOutOfBoundsException", Cond.fieldLink RX3 27 "PlotPatch" "rig" "LPlotPatch$Rig;", Cond.methodLink RX3 93 yX3_checkBar, Cond.instanceMethod yX3_checkBar, Cond.selects RX3 yX3_checkBar yX3_checkBar, Cond.code yX3_checkBar cX3_checkBar 2 none, Cond.instanceMethod yX1_hasBar, Cond.initialized RX1, Cond.selects RX1 yX1_hasBar yX1_hasBar, Cond.code yX1_hasBar cX1_hasBar 2 (some .boolean), Cond.fieldLink RX1 15 "PlotPatch$Rig" "barCounts" "[I", Cond.fieldLink RX1 9 "PlotPatch$Rig" "house" "I", Cond.instanceMethod yX1_ranked, Cond.selects RX1 yX1_ranked yX1_ranked, Cond.code yX1_ranked cX1_ranked 4 (some .int), Cond.fieldLink RX1 28 "PlotPatch$Rig" "bars" "[I", Cond.fieldLink RX1 40 "PlotPatch$Rig" "places" "[I"]
def wsL_onBar_r2 : List Cond := [Cond.methodLink RX1 56 yX1_countBelow, Cond.instanceMethod yX1_countBelow, Cond.selects RX1 yX1_countBelow yX1_countBelow, Cond.code yX1_countBelow cX1_countBelow 5 (some .int)]
def wsL_onBar : List Cond := .codeWith yL_onBar cL_onBar 5 (some .int) [(0, 10, 13, 13)] :: ((wsL_onBar_r1 ++ wsL_onBar_r2) ++ wsX30 ++ wsX10 ++ (vx_atS RX3 49 "java/lang/IndexOutOfBoundsException" ["java/lang/RuntimeException", "java/lang/Exception"]).filter goodWord)
def wsL_where : List Cond := .codeWith yL_where cL_where 4 (some .int) [(0, 9, 12, 13)] :: ([.classLink RL 13 "java/lang/IndexOutOfBoundsException", .methodLink RL 33 yX3_where, .instanceMethod yX3_where, .selects RX3 yX3_where yX3_where, .initialized RX3, .code yX3_where cX3_where 2 (some .int), .fieldLink RX3 27 "PlotPatch" "rig" "LPlotPatch$Rig;", .methodLink RX3 89 yX3_checkLamp, .instanceMethod yX3_checkLamp, .selects RX3 yX3_checkLamp yX3_checkLamp, .code yX3_checkLamp cX3_checkLamp 2 none, .classLink RX3 45 "java/lang/IndexOutOfBoundsException", .initialized "java/lang/IndexOutOfBoundsException", .fieldLink RX3 7 "PlotPatch" "lampCount" "I", .instanceMethod yX1_hangs, .initialized RX1, .selects RX1 yX1_hangs yX1_hangs, .code yX1_hangs cX1_hangs 2 (some .boolean), .fieldLink RX1 28 "PlotPatch$Rig" "bars" "[I"] ++ wsX30 ++ wsX10 ++ (vx_atS RX3 49 "java/lang/IndexOutOfBoundsException" ["java/lang/RuntimeException", "java/lang/Exception"]).filter goodWord)
def wsL_patch_r1 : List Cond := [Cond.classLink RL 13 "java/lang/IndexOutOfBoundsException", Cond.classLink RL 15 "java/lang/IllegalArgumentException", Cond.methodLink RL 37 yX3_patch, Cond.instanceMethod yX3_patch, Cond.selects RX3 yX3_patch yX3_patch, Cond.initialized RX3, Cond.code yX3_patch cX3_patch 3 (some .int), Cond.fieldLink RX3 34 "PlotPatch" "board" "LPlotPatch$Board;", Cond.methodLink RX3 89 yX3_checkLamp, Cond.instanceMethod yX3_checkLamp, Cond.selects RX3 yX3_checkLamp yX3_checkLamp, Cond.code yX3_checkLamp cX3_checkLamp 2 none, Cond.classLink RX3 45 "java/lang/IndexOutOfBoundsException", Cond.initialized "java/lang/IndexOutOfBoundsException", Cond.fieldLink RX3 7 "PlotPatch" "lampCount" "I", Cond.methodLink RX3 52 yX3_checkRange, Cond.static yX3_checkRange, Cond.code yX3_checkRange cX3_checkRange 3 none, Cond.classLink RX3 191 "java/lang/IllegalArgumentException", Cond.initialized "java/lang/IllegalArgumentException", Cond.instanceMethod yX0_countDoubles, Cond.initialized RX0, Cond.selects RX0 yX0_countDoubles yX0_countDoubles, Cond.code yX0_countDoubles cX0_countDoubles 3 (some .int)]
def wsL_patch_r2 : List Cond := [Cond.methodLink RX0 30 yX0_countHolders, Cond.instanceMethod yX0_countHolders, Cond.selects RX0 yX0_countHolders yX0_countHolders, Cond.code yX0_countHolders cX0_countHolders 5 (some .int), Cond.fieldLink RX0 9 "PlotPatch$Board" "firsts" "[I", Cond.fieldLink RX0 21 "PlotPatch$Board" "widths" "[I"]
def wsL_patch : List Cond := .codeWith yL_patch cL_patch 5 (some .int) [(0, 10, 13, 13), (0, 10, 17, 15)] :: ((wsL_patch_r1 ++ wsL_patch_r2) ++ wsX30 ++ wsX00 ++ (vx_atS RX3 49 "java/lang/IndexOutOfBoundsException" ["java/lang/RuntimeException", "java/lang/Exception"]).filter goodWord ++ (vx_atS RX3 195 "java/lang/IllegalArgumentException" ["java/lang/RuntimeException", "java/lang/Exception"]).filter goodWord)
def wsL_gap : List Cond := .codeWith yL_gap cL_gap 4 (some .int) [(0, 9, 12, 15)] :: ([.classLink RL 15 "java/lang/IllegalArgumentException", .methodLink RL 40 yX3_gap, .instanceMethod yX3_gap, .selects RX3 yX3_gap yX3_gap, .initialized RX3, .code yX3_gap cX3_gap 2 (some .int), .fieldLink RX3 34 "PlotPatch" "board" "LPlotPatch$Board;", .methodLink RX3 52 yX3_checkRange, .static yX3_checkRange, .code yX3_checkRange cX3_checkRange 3 none, .classLink RX3 191 "java/lang/IllegalArgumentException", .initialized "java/lang/IllegalArgumentException", .instanceMethod yX0_lowestGap, .initialized RX0, .selects RX0 yX0_lowestGap yX0_lowestGap, .code yX0_lowestGap cX0_lowestGap 4 (some .int), .methodLink RX0 30 yX0_countHolders, .instanceMethod yX0_countHolders, .selects RX0 yX0_countHolders yX0_countHolders, .code yX0_countHolders cX0_countHolders 5 (some .int), .fieldLink RX0 9 "PlotPatch$Board" "firsts" "[I", .fieldLink RX0 21 "PlotPatch$Board" "widths" "[I"] ++ wsX30 ++ wsX00 ++ (vx_atS RX3 195 "java/lang/IllegalArgumentException" ["java/lang/RuntimeException", "java/lang/Exception"]).filter goodWord)
def wsL_plug : List Cond := .codeWith yL_plug cL_plug 5 (some .int) [(0, 10, 13, 13)] :: ([.classLink RL 13 "java/lang/IndexOutOfBoundsException", .methodLink RL 43 yX3_plug, .instanceMethod yX3_plug, .selects RX3 yX3_plug yX3_plug, .initialized RX3, .code yX3_plug cX3_plug 4 (some .int), .fieldLink RX3 34 "PlotPatch" "board" "LPlotPatch$Board;", .methodLink RX3 89 yX3_checkLamp, .instanceMethod yX3_checkLamp, .selects RX3 yX3_checkLamp yX3_checkLamp, .code yX3_checkLamp cX3_checkLamp 2 none, .classLink RX3 45 "java/lang/IndexOutOfBoundsException", .initialized "java/lang/IndexOutOfBoundsException", .fieldLink RX3 7 "PlotPatch" "lampCount" "I", .methodLink RX3 146 yX3_checkCircuit, .static yX3_checkCircuit, .code yX3_checkCircuit cX3_checkCircuit 1 none] ++ wsX30 ++ wsX00 ++ (vx_atS RX3 49 "java/lang/IndexOutOfBoundsException" ["java/lang/RuntimeException", "java/lang/Exception"]).filter goodWord)
def wsL_load_r1 : List Cond := [Cond.classLink RL 13 "java/lang/IndexOutOfBoundsException", Cond.methodLink RL 46 yX3_load, Cond.instanceMethod yX3_load, Cond.selects RX3 yX3_load yX3_load, Cond.initialized RX3, Cond.code yX3_load cX3_load 4 (some .int), Cond.fieldLink RX3 7 "PlotPatch" "lampCount" "I", Cond.fieldLink RX3 34 "PlotPatch" "board" "LPlotPatch$Board;", Cond.methodLink RX3 146 yX3_checkCircuit, Cond.static yX3_checkCircuit, Cond.code yX3_checkCircuit cX3_checkCircuit 1 none, Cond.classLink RX3 45 "java/lang/IndexOutOfBoundsException", Cond.initialized "java/lang/IndexOutOfBoundsException", Cond.methodLink RX3 152 yX3_shownLevel, Cond.instanceMethod yX3_shownLevel, Cond.selects RX3 yX3_shownLevel yX3_shownLevel, Cond.code yX3_shownLevel cX3_shownLevel 2 (some .int), Cond.fieldLink RX3 27 "PlotPatch" "rig" "LPlotPatch$Rig;", Cond.fieldLink RX3 20 "PlotPatch" "deaths" "[Z", Cond.fieldLink RX3 41 "PlotPatch" "show" "LPlotPatch$Show;", Cond.instanceMethod yX1_hangs, Cond.initialized RX1, Cond.selects RX1 yX1_hangs yX1_hangs, Cond.code yX1_hangs cX1_hangs 2 (some .boolean)]
def wsL_load_r2 : List Cond := [Cond.fieldLink RX1 28 "PlotPatch$Rig" "bars" "[I", Cond.instanceMethod yX2_wantedLevel, Cond.initialized RX2, Cond.selects RX2 yX2_wantedLevel yX2_wantedLevel, Cond.code yX2_wantedLevel cX2_wantedLevel 5 (some .int), Cond.fieldLink RX2 43 "PlotPatch$Show" "ruling" "[I", Cond.fieldLink RX2 9 "PlotPatch$Show" "cueCount" "I", Cond.fieldLink RX2 34 "PlotPatch$Show" "time" "I", Cond.fieldLink RX2 40 "PlotPatch$Show" "beganAt" "[I", Cond.fieldLink RX2 15 "PlotPatch$Show" "fades" "[I", Cond.fieldLink RX2 49 "PlotPatch$Show" "to" "[I", Cond.fieldLink RX2 46 "PlotPatch$Show" "from" "[I", Cond.fieldLink RX2 19 "PlotPatch$Show" "curves" "[I", Cond.methodLink RX2 68 yX2_gained, Cond.static yX2_gained, Cond.code yX2_gained cX2_gained 4 (some .int), Cond.methodLink RX2 72 yJ9_floorDiv_7cf53, Cond.static yJ9_floorDiv_7cf53, Cond.initialized RJ9, Cond.code yJ9_floorDiv_7cf53 cJ9_floorDiv_7cf53 3 (some .int)]
def wsL_load : List Cond := .codeWith yL_load cL_load 4 (some .int) [(0, 9, 12, 13)] :: ((wsL_load_r1 ++ wsL_load_r2) ++ wsX30 ++ wsX00 ++ wsX10 ++ wsX20 ++ (vx_atS RX3 49 "java/lang/IndexOutOfBoundsException" ["java/lang/RuntimeException", "java/lang/Exception"]).filter goodWord)
def wsL_cue : List Cond := .codeWith yL_cue cL_cue 6 (some .int) [(0, 12, 15, 15), (0, 12, 19, 17)] :: ([.classLink RL 15 "java/lang/IllegalArgumentException", .classLink RL 17 "java/lang/IllegalStateException", .methodLink RL 49 yX3_cue, .instanceMethod yX3_cue, .selects RX3 yX3_cue yX3_cue, .initialized RX3, .code yX3_cue cX3_cue 4 (some .int), .classLink RX3 59 "java/lang/IllegalStateException", .initialized "java/lang/IllegalStateException", .fieldLink RX3 41 "PlotPatch" "show" "LPlotPatch$Show;", .methodLink RX3 52 yX3_checkRange, .static yX3_checkRange, .code yX3_checkRange cX3_checkRange 3 none, .classLink RX3 191 "java/lang/IllegalArgumentException", .initialized "java/lang/IllegalArgumentException", .instanceMethod yX2_addCue, .initialized RX2, .selects RX2 yX2_addCue yX2_addCue, .code yX2_addCue cX2_addCue 5 (some .int), .fieldLink RX2 9 "PlotPatch$Show" "cueCount" "I", .fieldLink RX2 15 "PlotPatch$Show" "fades" "[I", .fieldLink RX2 19 "PlotPatch$Show" "curves" "[I", .fieldLink RX2 22 "PlotPatch$Show" "follows" "[I"] ++ wsX30 ++ wsX20 ++ (vx_atS RX3 63 "java/lang/IllegalStateException" ["java/lang/RuntimeException", "java/lang/Exception"]).filter goodWord ++ (vx_atS RX3 195 "java/lang/IllegalArgumentException" ["java/lang/RuntimeException", "java/lang/Exception"]).filter goodWord)
def wsL_name : List Cond := .codeWith yL_name cL_name 6 (some .int) [(0, 12, 15, 13), (0, 12, 19, 15)] :: ([.classLink RL 13 "java/lang/IndexOutOfBoundsException", .classLink RL 15 "java/lang/IllegalArgumentException", .methodLink RL 52 yX3_name, .instanceMethod yX3_name, .selects RX3 yX3_name yX3_name, .initialized RX3, .code yX3_name cX3_name 6 (some .int), .classLink RX3 45 "java/lang/IndexOutOfBoundsException", .initialized "java/lang/IndexOutOfBoundsException", .fieldLink RX3 41 "PlotPatch" "show" "LPlotPatch$Show;", .methodLink RX3 89 yX3_checkLamp, .instanceMethod yX3_checkLamp, .selects RX3 yX3_checkLamp yX3_checkLamp, .code yX3_checkLamp cX3_checkLamp 2 none, .fieldLink RX3 7 "PlotPatch" "lampCount" "I", .methodLink RX3 52 yX3_checkRange, .static yX3_checkRange, .code yX3_checkRange cX3_checkRange 3 none, .classLink RX3 191 "java/lang/IllegalArgumentException", .initialized "java/lang/IllegalArgumentException", .static yX2_cell, .initialized RX2, .code yX2_cell cX2_cell 2 (some .int)] ++ wsX30 ++ wsX20 ++ (vx_atS RX3 49 "java/lang/IndexOutOfBoundsException" ["java/lang/RuntimeException", "java/lang/Exception"]).filter goodWord ++ (vx_atS RX3 195 "java/lang/IllegalArgumentException" ["java/lang/RuntimeException", "java/lang/Exception"]).filter goodWord)
def wsL_go_r1 : List Cond := [Cond.classLink RL 17 "java/lang/IllegalStateException", Cond.methodLink RL 55 yX3_go, Cond.instanceMethod yX3_go, Cond.selects RX3 yX3_go yX3_go, Cond.initialized RX3, Cond.code yX3_go cX3_go 1 (some .int), Cond.classLink RX3 59 "java/lang/IllegalStateException", Cond.initialized "java/lang/IllegalStateException", Cond.fieldLink RX3 41 "PlotPatch" "show" "LPlotPatch$Show;", Cond.instanceMethod yX2_beginNext, Cond.initialized RX2, Cond.selects RX2 yX2_beginNext yX2_beginNext, Cond.code yX2_beginNext cX2_beginNext 3 (some .int), Cond.fieldLink RX2 37 "PlotPatch$Show" "last" "I", Cond.fieldLink RX2 9 "PlotPatch$Show" "cueCount" "I", Cond.fieldLink RX2 22 "PlotPatch$Show" "follows" "[I", Cond.methodLink RX2 52 yX2_begin, Cond.instanceMethod yX2_begin, Cond.selects RX2 yX2_begin yX2_begin, Cond.code yX2_begin cX2_begin 4 none, Cond.fieldLink RX2 25 "PlotPatch$Show" "named" "[I", Cond.fieldLink RX2 46 "PlotPatch$Show" "from" "[I", Cond.fieldLink RX2 49 "PlotPatch$Show" "to" "[I", Cond.fieldLink RX2 43 "PlotPatch$Show" "ruling" "[I"]
def wsL_go_r2 : List Cond := [Cond.fieldLink RX2 40 "PlotPatch$Show" "beganAt" "[I", Cond.fieldLink RX2 34 "PlotPatch$Show" "time" "I", Cond.methodLink RX2 56 yX2_cell, Cond.static yX2_cell, Cond.code yX2_cell cX2_cell 2 (some .int), Cond.methodLink RX2 60 yX2_wantedLevel, Cond.instanceMethod yX2_wantedLevel, Cond.selects RX2 yX2_wantedLevel yX2_wantedLevel, Cond.code yX2_wantedLevel cX2_wantedLevel 5 (some .int), Cond.fieldLink RX2 15 "PlotPatch$Show" "fades" "[I", Cond.fieldLink RX2 19 "PlotPatch$Show" "curves" "[I", Cond.methodLink RX2 68 yX2_gained, Cond.static yX2_gained, Cond.code yX2_gained cX2_gained 4 (some .int), Cond.methodLink RX2 72 yJ9_floorDiv_7cf53, Cond.static yJ9_floorDiv_7cf53, Cond.initialized RJ9, Cond.code yJ9_floorDiv_7cf53 cJ9_floorDiv_7cf53 3 (some .int)]
def wsL_go : List Cond := .codeWith yL_go cL_go 3 (some .int) [(0, 8, 11, 17)] :: ((wsL_go_r1 ++ wsL_go_r2) ++ wsX30 ++ wsX20 ++ (vx_atS RX3 63 "java/lang/IllegalStateException" ["java/lang/RuntimeException", "java/lang/Exception"]).filter goodWord)
def wsL_tick_r1 : List Cond := [Cond.classLink RL 15 "java/lang/IllegalArgumentException", Cond.methodLink RL 59 yX3_tick, Cond.instanceMethod yX3_tick, Cond.selects RX3 yX3_tick yX3_tick, Cond.initialized RX3, Cond.code yX3_tick cX3_tick 4 (some .int), Cond.fieldLink RX3 41 "PlotPatch" "show" "LPlotPatch$Show;", Cond.methodLink RX3 52 yX3_checkRange, Cond.static yX3_checkRange, Cond.code yX3_checkRange cX3_checkRange 3 none, Cond.classLink RX3 191 "java/lang/IllegalArgumentException", Cond.initialized "java/lang/IllegalArgumentException", Cond.instanceMethod yX2_advance, Cond.initialized RX2, Cond.selects RX2 yX2_advance yX2_advance, Cond.code yX2_advance cX2_advance 1 (some .int), Cond.fieldLink RX2 34 "PlotPatch$Show" "time" "I", Cond.fieldLink RX2 37 "PlotPatch$Show" "last" "I", Cond.fieldLink RX2 9 "PlotPatch$Show" "cueCount" "I", Cond.fieldLink RX2 22 "PlotPatch$Show" "follows" "[I", Cond.fieldLink RX2 40 "PlotPatch$Show" "beganAt" "[I", Cond.methodLink RX2 64 yX2_beginNext, Cond.instanceMethod yX2_beginNext, Cond.selects RX2 yX2_beginNext yX2_beginNext]
def wsL_tick_r2 : List Cond := [Cond.code yX2_beginNext cX2_beginNext 3 (some .int), Cond.methodLink RX2 52 yX2_begin, Cond.instanceMethod yX2_begin, Cond.selects RX2 yX2_begin yX2_begin, Cond.code yX2_begin cX2_begin 4 none, Cond.fieldLink RX2 25 "PlotPatch$Show" "named" "[I", Cond.fieldLink RX2 46 "PlotPatch$Show" "from" "[I", Cond.fieldLink RX2 49 "PlotPatch$Show" "to" "[I", Cond.fieldLink RX2 43 "PlotPatch$Show" "ruling" "[I", Cond.methodLink RX2 56 yX2_cell, Cond.static yX2_cell, Cond.code yX2_cell cX2_cell 2 (some .int), Cond.methodLink RX2 60 yX2_wantedLevel, Cond.instanceMethod yX2_wantedLevel, Cond.selects RX2 yX2_wantedLevel yX2_wantedLevel, Cond.code yX2_wantedLevel cX2_wantedLevel 5 (some .int), Cond.fieldLink RX2 15 "PlotPatch$Show" "fades" "[I", Cond.fieldLink RX2 19 "PlotPatch$Show" "curves" "[I", Cond.methodLink RX2 68 yX2_gained, Cond.static yX2_gained, Cond.code yX2_gained cX2_gained 4 (some .int), Cond.methodLink RX2 72 yJ9_floorDiv_7cf53, Cond.static yJ9_floorDiv_7cf53, Cond.initialized RJ9]
def wsL_tick_r3 : List Cond := [Cond.code yJ9_floorDiv_7cf53 cJ9_floorDiv_7cf53 3 (some .int), Cond.methodLink RX3 182 yX3_burnColours, Cond.instanceMethod yX3_burnColours, Cond.selects RX3 yX3_burnColours yX3_burnColours, Cond.code yX3_burnColours cX3_burnColours 2 none, Cond.fieldLink RX3 7 "PlotPatch" "lampCount" "I", Cond.fieldLink RX3 17 "PlotPatch" "burns" "[I", Cond.methodLink RX3 152 yX3_shownLevel, Cond.instanceMethod yX3_shownLevel, Cond.selects RX3 yX3_shownLevel yX3_shownLevel, Cond.code yX3_shownLevel cX3_shownLevel 2 (some .int), Cond.fieldLink RX3 27 "PlotPatch" "rig" "LPlotPatch$Rig;", Cond.fieldLink RX3 20 "PlotPatch" "deaths" "[Z", Cond.instanceMethod yX1_hangs, Cond.initialized RX1, Cond.selects RX1 yX1_hangs yX1_hangs, Cond.code yX1_hangs cX1_hangs 2 (some .boolean), Cond.fieldLink RX1 28 "PlotPatch$Rig" "bars" "[I"]
def wsL_tick : List Cond := .codeWith yL_tick cL_tick 4 (some .int) [(0, 9, 12, 15)] :: ((wsL_tick_r1 ++ (wsL_tick_r2 ++ wsL_tick_r3)) ++ wsX30 ++ wsX20 ++ wsX10 ++ (vx_atS RX3 195 "java/lang/IllegalArgumentException" ["java/lang/RuntimeException", "java/lang/Exception"]).filter goodWord)
def wsL_level_r1 : List Cond := [Cond.classLink RL 13 "java/lang/IndexOutOfBoundsException", Cond.methodLink RL 62 yX3_level, Cond.instanceMethod yX3_level, Cond.selects RX3 yX3_level yX3_level, Cond.initialized RX3, Cond.code yX3_level cX3_level 2 (some .int), Cond.methodLink RX3 89 yX3_checkLamp, Cond.instanceMethod yX3_checkLamp, Cond.selects RX3 yX3_checkLamp yX3_checkLamp, Cond.code yX3_checkLamp cX3_checkLamp 2 none, Cond.classLink RX3 45 "java/lang/IndexOutOfBoundsException", Cond.initialized "java/lang/IndexOutOfBoundsException", Cond.fieldLink RX3 7 "PlotPatch" "lampCount" "I", Cond.methodLink RX3 152 yX3_shownLevel, Cond.instanceMethod yX3_shownLevel, Cond.selects RX3 yX3_shownLevel yX3_shownLevel, Cond.code yX3_shownLevel cX3_shownLevel 2 (some .int), Cond.fieldLink RX3 27 "PlotPatch" "rig" "LPlotPatch$Rig;", Cond.fieldLink RX3 20 "PlotPatch" "deaths" "[Z", Cond.fieldLink RX3 41 "PlotPatch" "show" "LPlotPatch$Show;", Cond.instanceMethod yX1_hangs, Cond.initialized RX1, Cond.selects RX1 yX1_hangs yX1_hangs, Cond.code yX1_hangs cX1_hangs 2 (some .boolean)]
def wsL_level_r2 : List Cond := [Cond.fieldLink RX1 28 "PlotPatch$Rig" "bars" "[I", Cond.instanceMethod yX2_wantedLevel, Cond.initialized RX2, Cond.selects RX2 yX2_wantedLevel yX2_wantedLevel, Cond.code yX2_wantedLevel cX2_wantedLevel 5 (some .int), Cond.fieldLink RX2 43 "PlotPatch$Show" "ruling" "[I", Cond.fieldLink RX2 9 "PlotPatch$Show" "cueCount" "I", Cond.fieldLink RX2 34 "PlotPatch$Show" "time" "I", Cond.fieldLink RX2 40 "PlotPatch$Show" "beganAt" "[I", Cond.fieldLink RX2 15 "PlotPatch$Show" "fades" "[I", Cond.fieldLink RX2 49 "PlotPatch$Show" "to" "[I", Cond.fieldLink RX2 46 "PlotPatch$Show" "from" "[I", Cond.fieldLink RX2 19 "PlotPatch$Show" "curves" "[I", Cond.methodLink RX2 68 yX2_gained, Cond.static yX2_gained, Cond.code yX2_gained cX2_gained 4 (some .int), Cond.methodLink RX2 72 yJ9_floorDiv_7cf53, Cond.static yJ9_floorDiv_7cf53, Cond.initialized RJ9, Cond.code yJ9_floorDiv_7cf53 cJ9_floorDiv_7cf53 3 (some .int)]
def wsL_level : List Cond := .codeWith yL_level cL_level 4 (some .int) [(0, 9, 12, 13)] :: ((wsL_level_r1 ++ wsL_level_r2) ++ wsX30 ++ wsX10 ++ wsX20 ++ (vx_atS RX3 49 "java/lang/IndexOutOfBoundsException" ["java/lang/RuntimeException", "java/lang/Exception"]).filter goodWord)
def wsL_wanted_r1 : List Cond := [Cond.classLink RL 13 "java/lang/IndexOutOfBoundsException", Cond.methodLink RL 65 yX3_wanted, Cond.instanceMethod yX3_wanted, Cond.selects RX3 yX3_wanted yX3_wanted, Cond.initialized RX3, Cond.code yX3_wanted cX3_wanted 2 (some .int), Cond.fieldLink RX3 41 "PlotPatch" "show" "LPlotPatch$Show;", Cond.methodLink RX3 89 yX3_checkLamp, Cond.instanceMethod yX3_checkLamp, Cond.selects RX3 yX3_checkLamp yX3_checkLamp, Cond.code yX3_checkLamp cX3_checkLamp 2 none, Cond.classLink RX3 45 "java/lang/IndexOutOfBoundsException", Cond.initialized "java/lang/IndexOutOfBoundsException", Cond.fieldLink RX3 7 "PlotPatch" "lampCount" "I", Cond.instanceMethod yX2_wantedLevel, Cond.initialized RX2, Cond.selects RX2 yX2_wantedLevel yX2_wantedLevel, Cond.code yX2_wantedLevel cX2_wantedLevel 5 (some .int), Cond.fieldLink RX2 43 "PlotPatch$Show" "ruling" "[I", Cond.fieldLink RX2 9 "PlotPatch$Show" "cueCount" "I", Cond.fieldLink RX2 34 "PlotPatch$Show" "time" "I", Cond.fieldLink RX2 40 "PlotPatch$Show" "beganAt" "[I", Cond.fieldLink RX2 15 "PlotPatch$Show" "fades" "[I", Cond.fieldLink RX2 49 "PlotPatch$Show" "to" "[I"]
def wsL_wanted_r2 : List Cond := [Cond.fieldLink RX2 46 "PlotPatch$Show" "from" "[I", Cond.fieldLink RX2 19 "PlotPatch$Show" "curves" "[I", Cond.methodLink RX2 68 yX2_gained, Cond.static yX2_gained, Cond.code yX2_gained cX2_gained 4 (some .int), Cond.methodLink RX2 72 yJ9_floorDiv_7cf53, Cond.static yJ9_floorDiv_7cf53, Cond.initialized RJ9, Cond.code yJ9_floorDiv_7cf53 cJ9_floorDiv_7cf53 3 (some .int)]
def wsL_wanted : List Cond := .codeWith yL_wanted cL_wanted 4 (some .int) [(0, 9, 12, 13)] :: ((wsL_wanted_r1 ++ wsL_wanted_r2) ++ wsX30 ++ wsX20 ++ (vx_atS RX3 49 "java/lang/IndexOutOfBoundsException" ["java/lang/RuntimeException", "java/lang/Exception"]).filter goodWord)
def wsL_wantedByCues_r1 : List Cond := [Cond.classLink RL 13 "java/lang/IndexOutOfBoundsException", Cond.methodLink RL 68 yX3_wantedByCues, Cond.instanceMethod yX3_wantedByCues, Cond.selects RX3 yX3_wantedByCues yX3_wantedByCues, Cond.initialized RX3, Cond.code yX3_wantedByCues cX3_wantedByCues 2 (some .int), Cond.fieldLink RX3 41 "PlotPatch" "show" "LPlotPatch$Show;", Cond.methodLink RX3 89 yX3_checkLamp, Cond.instanceMethod yX3_checkLamp, Cond.selects RX3 yX3_checkLamp yX3_checkLamp, Cond.code yX3_checkLamp cX3_checkLamp 2 none, Cond.classLink RX3 45 "java/lang/IndexOutOfBoundsException", Cond.initialized "java/lang/IndexOutOfBoundsException", Cond.fieldLink RX3 7 "PlotPatch" "lampCount" "I", Cond.instanceMethod yX2_wantedLevel, Cond.initialized RX2, Cond.selects RX2 yX2_wantedLevel yX2_wantedLevel, Cond.code yX2_wantedLevel cX2_wantedLevel 5 (some .int), Cond.fieldLink RX2 43 "PlotPatch$Show" "ruling" "[I", Cond.fieldLink RX2 9 "PlotPatch$Show" "cueCount" "I", Cond.fieldLink RX2 34 "PlotPatch$Show" "time" "I", Cond.fieldLink RX2 40 "PlotPatch$Show" "beganAt" "[I", Cond.fieldLink RX2 15 "PlotPatch$Show" "fades" "[I", Cond.fieldLink RX2 49 "PlotPatch$Show" "to" "[I"]
def wsL_wantedByCues_r2 : List Cond := [Cond.fieldLink RX2 46 "PlotPatch$Show" "from" "[I", Cond.fieldLink RX2 19 "PlotPatch$Show" "curves" "[I", Cond.methodLink RX2 68 yX2_gained, Cond.static yX2_gained, Cond.code yX2_gained cX2_gained 4 (some .int), Cond.methodLink RX2 72 yJ9_floorDiv_7cf53, Cond.static yJ9_floorDiv_7cf53, Cond.initialized RJ9, Cond.code yJ9_floorDiv_7cf53 cJ9_floorDiv_7cf53 3 (some .int)]
def wsL_wantedByCues : List Cond := .codeWith yL_wantedByCues cL_wantedByCues 4 (some .int) [(0, 9, 12, 13)] :: ((wsL_wantedByCues_r1 ++ wsL_wantedByCues_r2) ++ wsX30 ++ wsX20 ++ (vx_atS RX3 49 "java/lang/IndexOutOfBoundsException" ["java/lang/RuntimeException", "java/lang/Exception"]).filter goodWord)
def wsL_bulb : List Cond := .codeWith yL_bulb cL_bulb 4 (some .int) [(0, 16, 19, 13)] :: ([.classLink RL 13 "java/lang/IndexOutOfBoundsException", .methodLink RL 71 yX3_bulb, .instanceMethod yX3_bulb, .selects RX3 yX3_bulb yX3_bulb, .initialized RX3, .code yX3_bulb cX3_bulb 2 (some .boolean), .fieldLink RX3 20 "PlotPatch" "deaths" "[Z", .methodLink RX3 89 yX3_checkLamp, .instanceMethod yX3_checkLamp, .selects RX3 yX3_checkLamp yX3_checkLamp, .code yX3_checkLamp cX3_checkLamp 2 none, .classLink RX3 45 "java/lang/IndexOutOfBoundsException", .initialized "java/lang/IndexOutOfBoundsException", .fieldLink RX3 7 "PlotPatch" "lampCount" "I"] ++ wsX30 ++ (vx_atS RX3 49 "java/lang/IndexOutOfBoundsException" ["java/lang/RuntimeException", "java/lang/Exception"]).filter goodWord)
def wsL_standIn_r1 : List Cond := [Cond.classLink RL 13 "java/lang/IndexOutOfBoundsException", Cond.classLink RL 15 "java/lang/IllegalArgumentException", Cond.classLink RL 17 "java/lang/IllegalStateException", Cond.methodLink RL 74 yX3_standIn, Cond.instanceMethod yX3_standIn, Cond.selects RX3 yX3_standIn yX3_standIn, Cond.initialized RX3, Cond.code yX3_standIn cX3_standIn 3 (some .int), Cond.classLink RX3 191 "java/lang/IllegalArgumentException", Cond.initialized "java/lang/IllegalArgumentException", Cond.classLink RX3 59 "java/lang/IllegalStateException", Cond.initialized "java/lang/IllegalStateException", Cond.fieldLink RX3 20 "PlotPatch" "deaths" "[Z", Cond.fieldLink RX3 41 "PlotPatch" "show" "LPlotPatch$Show;", Cond.methodLink RX3 89 yX3_checkLamp, Cond.instanceMethod yX3_checkLamp, Cond.selects RX3 yX3_checkLamp yX3_checkLamp, Cond.code yX3_checkLamp cX3_checkLamp 2 none, Cond.classLink RX3 45 "java/lang/IndexOutOfBoundsException", Cond.initialized "java/lang/IndexOutOfBoundsException", Cond.fieldLink RX3 7 "PlotPatch" "lampCount" "I", Cond.instanceMethod yX2_handOver, Cond.initialized RX2, Cond.selects RX2 yX2_handOver yX2_handOver]
def wsL_standIn_r2 : List Cond := [Cond.code yX2_handOver cX2_handOver 6 (some .int), Cond.fieldLink RX2 9 "PlotPatch$Show" "cueCount" "I", Cond.fieldLink RX2 25 "PlotPatch$Show" "named" "[I", Cond.methodLink RX2 56 yX2_cell, Cond.static yX2_cell, Cond.code yX2_cell cX2_cell 2 (some .int)]
def wsL_standIn : List Cond := .codeWith yL_standIn cL_standIn 5 (some .int) [(0, 10, 13, 13), (0, 10, 17, 15), (0, 10, 21, 17)] :: ((wsL_standIn_r1 ++ wsL_standIn_r2) ++ wsX30 ++ wsX20 ++ (vx_atS RX3 195 "java/lang/IllegalArgumentException" ["java/lang/RuntimeException", "java/lang/Exception"]).filter goodWord ++ (vx_atS RX3 63 "java/lang/IllegalStateException" ["java/lang/RuntimeException", "java/lang/Exception"]).filter goodWord ++ (vx_atS RX3 49 "java/lang/IndexOutOfBoundsException" ["java/lang/RuntimeException", "java/lang/Exception"]).filter goodWord)
def wsL_colour : List Cond := .codeWith yL_colour cL_colour 5 (some .int) [(0, 10, 13, 13), (0, 10, 17, 15)] :: ([.classLink RL 13 "java/lang/IndexOutOfBoundsException", .classLink RL 15 "java/lang/IllegalArgumentException", .methodLink RL 77 yX3_colour, .instanceMethod yX3_colour, .selects RX3 yX3_colour yX3_colour, .initialized RX3, .code yX3_colour cX3_colour 4 (some .int), .fieldLink RX3 13 "PlotPatch" "colours" "[I", .fieldLink RX3 17 "PlotPatch" "burns" "[I", .methodLink RX3 89 yX3_checkLamp, .instanceMethod yX3_checkLamp, .selects RX3 yX3_checkLamp yX3_checkLamp, .code yX3_checkLamp cX3_checkLamp 2 none, .classLink RX3 45 "java/lang/IndexOutOfBoundsException", .initialized "java/lang/IndexOutOfBoundsException", .fieldLink RX3 7 "PlotPatch" "lampCount" "I", .methodLink RX3 52 yX3_checkRange, .static yX3_checkRange, .code yX3_checkRange cX3_checkRange 3 none, .classLink RX3 191 "java/lang/IllegalArgumentException", .initialized "java/lang/IllegalArgumentException"] ++ wsX30 ++ (vx_atS RX3 49 "java/lang/IndexOutOfBoundsException" ["java/lang/RuntimeException", "java/lang/Exception"]).filter goodWord ++ (vx_atS RX3 195 "java/lang/IllegalArgumentException" ["java/lang/RuntimeException", "java/lang/Exception"]).filter goodWord)
def wsL_law0_r1 : List Cond := [Cond.classLink RL 8 RX3, Cond.instantiable RX3 7, Cond.initialized RX3, Cond.classLink RL 81 RX4, Cond.instantiable RX4 28, Cond.initialized RX4, Cond.arrayClass .long, Cond.methodLink RL 80 yX3_init, Cond.instanceMethod yX3_init, Cond.code yX3_init cX3_init 1 none, Cond.methodLink RX3 1 objectInit, Cond.instanceMethod objectInit, Cond.code objectInit ⟨#[0xb1]⟩ 1 none, Cond.fieldLink RX3 7 "PlotPatch" "lampCount" "I", Cond.arrayClass .int, Cond.fieldLink RX3 13 "PlotPatch" "colours" "[I", Cond.fieldLink RX3 17 "PlotPatch" "burns" "[I", Cond.arrayClass .boolean, Cond.fieldLink RX3 20 "PlotPatch" "deaths" "[Z", Cond.classLink RX3 24 RX1, Cond.instantiable RX1 8, Cond.initialized RX1, Cond.fieldLink RX3 27 "PlotPatch" "rig" "LPlotPatch$Rig;", Cond.classLink RX3 31 RX0]
def wsL_law0_r2 : List Cond := [Cond.instantiable RX0 4, Cond.initialized RX0, Cond.fieldLink RX3 34 "PlotPatch" "board" "LPlotPatch$Board;", Cond.classLink RX3 38 RX2, Cond.instantiable RX2 11, Cond.initialized RX2, Cond.fieldLink RX3 41 "PlotPatch" "show" "LPlotPatch$Show;", Cond.instanceMethod yX1_init, Cond.code yX1_init cX1_init 1 none, Cond.methodLink RX1 3 objectInit, Cond.fieldLink RX1 9 "PlotPatch$Rig" "house" "I", Cond.fieldLink RX1 15 "PlotPatch$Rig" "barCounts" "[I", Cond.fieldLink RX1 19 "PlotPatch$Rig" "lengths" "[I", Cond.fieldLink RX1 22 "PlotPatch$Rig" "limits" "[I", Cond.fieldLink RX1 25 "PlotPatch$Rig" "weights" "[I", Cond.fieldLink RX1 28 "PlotPatch$Rig" "bars" "[I", Cond.fieldLink RX1 37 "PlotPatch$Rig" "formerBars" "[I", Cond.fieldLink RX1 40 "PlotPatch$Rig" "places" "[I", Cond.methodLink RX1 31 yJ7_fill_53178, Cond.static yJ7_fill_53178, Cond.initialized RJ7, Cond.code yJ7_fill_53178 cJ7_fill_53178 4 none, Cond.instanceMethod yX0_init, Cond.code yX0_init cX0_init 1 none]
def wsL_law0_r3 : List Cond := [Cond.methodLink RX0 3 objectInit, Cond.fieldLink RX0 9 "PlotPatch$Board" "firsts" "[I", Cond.fieldLink RX0 21 "PlotPatch$Board" "widths" "[I", Cond.fieldLink RX0 24 "PlotPatch$Board" "circuits" "[I", Cond.fieldLink RX0 27 "PlotPatch$Board" "watts" "[I", Cond.methodLink RX0 15 yJ7_fill_53178, Cond.instanceMethod yX2_init, Cond.code yX2_init cX2_init 1 none, Cond.methodLink RX2 3 objectInit, Cond.fieldLink RX2 9 "PlotPatch$Show" "cueCount" "I", Cond.fieldLink RX2 15 "PlotPatch$Show" "fades" "[I", Cond.fieldLink RX2 19 "PlotPatch$Show" "curves" "[I", Cond.fieldLink RX2 22 "PlotPatch$Show" "follows" "[I", Cond.fieldLink RX2 25 "PlotPatch$Show" "named" "[I", Cond.fieldLink RX2 34 "PlotPatch$Show" "time" "I", Cond.fieldLink RX2 37 "PlotPatch$Show" "last" "I", Cond.fieldLink RX2 40 "PlotPatch$Show" "beganAt" "[I", Cond.fieldLink RX2 43 "PlotPatch$Show" "ruling" "[I", Cond.fieldLink RX2 46 "PlotPatch$Show" "from" "[I", Cond.fieldLink RX2 49 "PlotPatch$Show" "to" "[I", Cond.methodLink RX2 28 yJ7_fill_53178, Cond.methodLink RL 83 yX4_init, Cond.instanceMethod yX4_init, Cond.code yX4_init cX4_init 2 none]
def wsL_law0_r4 : List Cond := [Cond.methodLink RX4 1 objectInit, Cond.fieldLink RX4 7 "PlotPatchModel" "bars" "[I", Cond.fieldLink RX4 13 "PlotPatchModel" "length" "[I", Cond.fieldLink RX4 16 "PlotPatchModel" "limit" "[I", Cond.fieldLink RX4 19 "PlotPatchModel" "kind" "[I", Cond.fieldLink RX4 22 "PlotPatchModel" "colour" "[I", Cond.fieldLink RX4 25 "PlotPatchModel" "bar" "[I", Cond.fieldLink RX4 28 "PlotPatchModel" "place" "[I", Cond.fieldLink RX4 31 "PlotPatchModel" "first" "[I", Cond.fieldLink RX4 34 "PlotPatchModel" "circuit" "[I", Cond.fieldLink RX4 37 "PlotPatchModel" "isDead" "[Z", Cond.fieldLink RX4 41 "PlotPatchModel" "burning" "[I", Cond.fieldLink RX4 44 "PlotPatchModel" "from" "[I", Cond.fieldLink RX4 47 "PlotPatchModel" "to" "[I", Cond.fieldLink RX4 50 "PlotPatchModel" "since" "[I", Cond.fieldLink RX4 53 "PlotPatchModel" "fading" "[I", Cond.fieldLink RX4 56 "PlotPatchModel" "by" "[I", Cond.fieldLink RX4 59 "PlotPatchModel" "fade" "[I", Cond.fieldLink RX4 62 "PlotPatchModel" "curve" "[I", Cond.fieldLink RX4 65 "PlotPatchModel" "follow" "[I", Cond.fieldLink RX4 68 "PlotPatchModel" "named" "[I", Cond.fieldLink RX4 71 "PlotPatchModel" "wasOn" "[I", Cond.methodLink RL 84 yL_bar, Cond.static yL_bar]
def wsL_law0_r5 : List Cond := [Cond.initialized RL, Cond.codeWith yL_bar cL_bar 6 (some .int) [(0, 12, 15, 13), (0, 12, 19, 15), (0, 12, 23, 17)], Cond.classLink RL 13 "java/lang/IndexOutOfBoundsException", Cond.classLink RL 15 "java/lang/IllegalArgumentException", Cond.classLink RL 17 "java/lang/IllegalStateException", Cond.methodLink RL 7 yX3_bar, Cond.instanceMethod yX3_bar, Cond.selects RX3 yX3_bar yX3_bar, Cond.code yX3_bar cX3_bar 4 (some .int), Cond.classLink RX3 45 "java/lang/IndexOutOfBoundsException", Cond.initialized "java/lang/IndexOutOfBoundsException", Cond.classLink RX3 59 "java/lang/IllegalStateException", Cond.initialized "java/lang/IllegalStateException", Cond.methodLink RX3 52 yX3_checkRange, Cond.static yX3_checkRange, Cond.code yX3_checkRange cX3_checkRange 3 none, Cond.classLink RX3 191 "java/lang/IllegalArgumentException", Cond.initialized "java/lang/IllegalArgumentException", Cond.instanceMethod yX1_addBar, Cond.selects RX1 yX1_addBar yX1_addBar, Cond.code yX1_addBar cX1_addBar 5 (some .int), Cond.methodLink RX1 43 yX1_cell, Cond.static yX1_cell, Cond.code yX1_cell cX1_cell 2 (some .int)]
def wsL_law0_r6 : List Cond := [Cond.methodLink RL 89 yX4_bar, Cond.instanceMethod yX4_bar, Cond.selects RX4 yX4_bar yX4_bar, Cond.code yX4_bar cX4_bar 5 (some .int), Cond.methodLink RX4 81 yX4_isIn, Cond.static yX4_isIn, Cond.code yX4_isIn cX4_isIn 3 (some .boolean), Cond.methodLink RX4 91 yX4_mayAll, Cond.instanceMethod yX4_mayAll, Cond.selects RX4 yX4_mayAll yX4_mayAll, Cond.code yX4_mayAll cX4_mayAll 4 (some .boolean), Cond.fieldLink RX4 74 "PlotPatchModel" "thrown" "I", Cond.methodLink RL 90 yX4_thrown, Cond.instanceMethod yX4_thrown, Cond.selects RX4 yX4_thrown yX4_thrown, Cond.code yX4_thrown cX4_thrown 1 (some .int), Cond.methodLink RL 93 yL_lamp, Cond.static yL_lamp, Cond.codeWith yL_lamp cL_lamp 5 (some .int) [(0, 10, 13, 15), (0, 10, 17, 17)], Cond.methodLink RL 19 yX3_lamp, Cond.instanceMethod yX3_lamp, Cond.selects RX3 yX3_lamp yX3_lamp, Cond.code yX3_lamp cX3_lamp 4 (some .int), Cond.methodLink RX3 73 yX3_weightOfKind]
def wsL_law0_r7 : List Cond := [Cond.static yX3_weightOfKind, Cond.code yX3_weightOfKind cX3_weightOfKind 1 (some .int), Cond.methodLink RX3 80 yX3_widthOfKind, Cond.static yX3_widthOfKind, Cond.code yX3_widthOfKind cX3_widthOfKind 1 (some .int), Cond.methodLink RX3 86 yX3_wattsOfKind, Cond.static yX3_wattsOfKind, Cond.code yX3_wattsOfKind cX3_wattsOfKind 1 (some .int), Cond.methodLink RL 96 yX4_lamp, Cond.instanceMethod yX4_lamp, Cond.selects RX4 yX4_lamp yX4_lamp, Cond.code yX4_lamp cX4_lamp 3 (some .int), Cond.fieldLink RX4 78 "PlotPatchModel" "lamps" "I", Cond.methodLink RX4 95 yX4_mayBoth, Cond.instanceMethod yX4_mayBoth, Cond.selects RX4 yX4_mayBoth yX4_mayBoth, Cond.code yX4_mayBoth cX4_mayBoth 3 (some .boolean), Cond.methodLink RL 97 yL_hang, Cond.static yL_hang, Cond.codeWith yL_hang cL_hang 6 (some .int) [(0, 12, 15, 13), (0, 12, 19, 17)], Cond.methodLink RL 23 yX3_hang, Cond.instanceMethod yX3_hang, Cond.selects RX3 yX3_hang yX3_hang, Cond.code yX3_hang cX3_hang 4 (some .int)]
def wsL_law0_r8 : List Cond := [Cond.methodLink RX3 89 yX3_checkLamp, Cond.instanceMethod yX3_checkLamp, Cond.selects RX3 yX3_checkLamp yX3_checkLamp, Cond.code yX3_checkLamp cX3_checkLamp 2 none, Cond.methodLink RX3 93 yX3_checkBar, Cond.instanceMethod yX3_checkBar, Cond.selects RX3 yX3_checkBar yX3_checkBar, Cond.code yX3_checkBar cX3_checkBar 2 none, Cond.instanceMethod yX1_hasBar, Cond.selects RX1 yX1_hasBar yX1_hasBar, Cond.code yX1_hasBar cX1_hasBar 2 (some .boolean), Cond.instanceMethod yX1_hasPlace, Cond.selects RX1 yX1_hasPlace yX1_hasPlace, Cond.code yX1_hasPlace cX1_hasPlace 3 (some .boolean), Cond.instanceMethod yX1_bears, Cond.selects RX1 yX1_bears yX1_bears, Cond.code yX1_bears cX1_bears 4 (some .boolean), Cond.methodLink RX1 47 yX1_weightOn, Cond.instanceMethod yX1_weightOn, Cond.selects RX1 yX1_weightOn yX1_weightOn, Cond.code yX1_weightOn cX1_weightOn 4 (some .int), Cond.instanceMethod yX1_isClear, Cond.selects RX1 yX1_isClear yX1_isClear, Cond.code yX1_isClear cX1_isClear 5 (some .boolean)]
def wsL_law0_r9 : List Cond := [Cond.methodLink RX1 51 Lib.Math.abs.name, Cond.static Lib.Math.abs.name, Cond.initialized "java/lang/Math", Cond.code Lib.Math.abs.name Lib.Math.abs.code 1 (some .int), Cond.instanceMethod yX1_put, Cond.selects RX1 yX1_put yX1_put, Cond.code yX1_put cX1_put 4 none, Cond.methodLink RL 99 yX4_hang, Cond.instanceMethod yX4_hang, Cond.selects RX4 yX4_hang yX4_hang, Cond.code yX4_hang cX4_hang 5 (some .int), Cond.fieldLink RX4 85 "PlotPatchModel" "house" "I", Cond.methodLink RX4 107 yX4_isLamp, Cond.instanceMethod yX4_isLamp, Cond.selects RX4 yX4_isLamp yX4_isLamp, Cond.code yX4_isLamp cX4_isLamp 2 (some .boolean), Cond.methodLink RX4 111 yX4_isBar, Cond.instanceMethod yX4_isBar, Cond.selects RX4 yX4_isBar yX4_isBar, Cond.code yX4_isBar cX4_isBar 2 (some .boolean), Cond.methodLink RX4 114 yX4_canHang, Cond.instanceMethod yX4_canHang, Cond.selects RX4 yX4_canHang yX4_canHang, Cond.code yX4_canHang cX4_canHang 6 (some .boolean)]
def wsL_law0_r10 : List Cond := [Cond.methodLink RX4 103 yX4_weightOn, Cond.instanceMethod yX4_weightOn, Cond.selects RX4 yX4_weightOn yX4_weightOn, Cond.code yX4_weightOn cX4_weightOn 5 (some .int), Cond.methodLink RX4 99 yX4_weighs, Cond.static yX4_weighs, Cond.code yX4_weighs cX4_weighs 1 (some .int), Cond.methodLink RL 100 yL_down, Cond.static yL_down, Cond.codeWith yL_down cL_down 4 (some .int) [(0, 16, 19, 13)], Cond.methodLink RL 26 yX3_down, Cond.instanceMethod yX3_down, Cond.selects RX3 yX3_down yX3_down, Cond.code yX3_down cX3_down 3 (some .boolean), Cond.instanceMethod yX1_hangs, Cond.selects RX1 yX1_hangs yX1_hangs, Cond.code yX1_hangs cX1_hangs 2 (some .boolean), Cond.methodLink RL 103 yX4_down, Cond.instanceMethod yX4_down, Cond.selects RX4 yX4_down yX4_down, Cond.code yX4_down cX4_down 3 (some .boolean), Cond.methodLink RX4 117 yX4_may, Cond.instanceMethod yX4_may, Cond.selects RX4 yX4_may yX4_may]
def wsL_law0_r11 : List Cond := [Cond.code yX4_may cX4_may 2 (some .boolean), Cond.methodLink RL 104 yL_onBar, Cond.static yL_onBar, Cond.codeWith yL_onBar cL_onBar 5 (some .int) [(0, 10, 13, 13)], Cond.methodLink RL 30 yX3_onBar, Cond.instanceMethod yX3_onBar, Cond.selects RX3 yX3_onBar yX3_onBar, Cond.code yX3_onBar cX3_onBar 4 (some .int), Cond.instanceMethod yX1_ranked, Cond.selects RX1 yX1_ranked yX1_ranked, Cond.code yX1_ranked cX1_ranked 4 (some .int), Cond.methodLink RX1 56 yX1_countBelow, Cond.instanceMethod yX1_countBelow, Cond.selects RX1 yX1_countBelow yX1_countBelow, Cond.code yX1_countBelow cX1_countBelow 5 (some .int), Cond.methodLink RL 106 yX4_onBar, Cond.instanceMethod yX4_onBar, Cond.selects RX4 yX4_onBar yX4_onBar, Cond.code yX4_onBar cX4_onBar 5 (some .int), Cond.methodLink RX4 121 yX4_ranked, Cond.instanceMethod yX4_ranked, Cond.selects RX4 yX4_ranked yX4_ranked, Cond.code yX4_ranked cX4_ranked 6 (some .int), Cond.methodLink RL 107 yL_where]
def wsL_law0_r12 : List Cond := [Cond.static yL_where, Cond.codeWith yL_where cL_where 4 (some .int) [(0, 9, 12, 13)], Cond.methodLink RL 33 yX3_where, Cond.instanceMethod yX3_where, Cond.selects RX3 yX3_where yX3_where, Cond.code yX3_where cX3_where 2 (some .int), Cond.methodLink RL 109 yX4_where, Cond.instanceMethod yX4_where, Cond.selects RX4 yX4_where yX4_where, Cond.code yX4_where cX4_where 2 (some .int), Cond.methodLink RL 110 yX3_tour, Cond.instanceMethod yX3_tour, Cond.selects RX3 yX3_tour yX3_tour, Cond.code yX3_tour cX3_tour 1 (some .int), Cond.instanceMethod yX1_changeHouse, Cond.selects RX1 yX1_changeHouse yX1_changeHouse, Cond.code yX1_changeHouse cX1_changeHouse 3 (some .int), Cond.methodLink RX1 59 yX1_hangAgain, Cond.instanceMethod yX1_hangAgain, Cond.selects RX1 yX1_hangAgain yX1_hangAgain, Cond.code yX1_hangAgain cX1_hangAgain 4 (some .boolean), Cond.methodLink RX1 63 yX1_hasBar, Cond.methodLink RX1 67 yX1_bears, Cond.methodLink RX1 70 yX1_nearestPlace]
def wsL_law0_r13 : List Cond := [Cond.instanceMethod yX1_nearestPlace, Cond.selects RX1 yX1_nearestPlace yX1_nearestPlace, Cond.code yX1_nearestPlace cX1_nearestPlace 5 (some .int), Cond.methodLink RX1 78 yX1_hasPlace, Cond.methodLink RX1 81 yX1_isClear, Cond.methodLink RX1 74 yX1_put, Cond.methodLink RL 113 yX4_tour, Cond.instanceMethod yX4_tour, Cond.selects RX4 yX4_tour yX4_tour, Cond.code yX4_tour cX4_tour 7 (some .int), Cond.methodLink RL 114 yL_patch, Cond.static yL_patch, Cond.codeWith yL_patch cL_patch 5 (some .int) [(0, 10, 13, 13), (0, 10, 17, 15)], Cond.methodLink RL 37 yX3_patch, Cond.instanceMethod yX3_patch, Cond.selects RX3 yX3_patch yX3_patch, Cond.code yX3_patch cX3_patch 3 (some .int), Cond.instanceMethod yX0_countDoubles, Cond.selects RX0 yX0_countDoubles yX0_countDoubles, Cond.code yX0_countDoubles cX0_countDoubles 3 (some .int), Cond.methodLink RX0 30 yX0_countHolders, Cond.instanceMethod yX0_countHolders, Cond.selects RX0 yX0_countHolders yX0_countHolders, Cond.code yX0_countHolders cX0_countHolders 5 (some .int)]
def wsL_law0_r14 : List Cond := [Cond.methodLink RL 116 yX4_patch, Cond.instanceMethod yX4_patch, Cond.selects RX4 yX4_patch yX4_patch, Cond.code yX4_patch cX4_patch 6 (some .int), Cond.methodLink RX4 124 yX4_has, Cond.static yX4_has, Cond.code yX4_has cX4_has 1 (some .int), Cond.methodLink RX4 127 yX4_lampsAt, Cond.instanceMethod yX4_lampsAt, Cond.selects RX4 yX4_lampsAt yX4_lampsAt, Cond.code yX4_lampsAt cX4_lampsAt 4 (some .int), Cond.methodLink RL 117 yL_gap, Cond.static yL_gap, Cond.codeWith yL_gap cL_gap 4 (some .int) [(0, 9, 12, 15)], Cond.methodLink RL 40 yX3_gap, Cond.instanceMethod yX3_gap, Cond.selects RX3 yX3_gap yX3_gap, Cond.code yX3_gap cX3_gap 2 (some .int), Cond.instanceMethod yX0_lowestGap, Cond.selects RX0 yX0_lowestGap yX0_lowestGap, Cond.code yX0_lowestGap cX0_lowestGap 4 (some .int), Cond.methodLink RL 119 yX4_gap, Cond.instanceMethod yX4_gap, Cond.selects RX4 yX4_gap yX4_gap]
def wsL_law0_r15 : List Cond := [Cond.code yX4_gap cX4_gap 4 (some .int), Cond.methodLink RL 120 yL_plug, Cond.static yL_plug, Cond.codeWith yL_plug cL_plug 5 (some .int) [(0, 10, 13, 13)], Cond.methodLink RL 43 yX3_plug, Cond.instanceMethod yX3_plug, Cond.selects RX3 yX3_plug yX3_plug, Cond.code yX3_plug cX3_plug 4 (some .int), Cond.methodLink RX3 146 yX3_checkCircuit, Cond.static yX3_checkCircuit, Cond.code yX3_checkCircuit cX3_checkCircuit 1 none, Cond.methodLink RL 122 yX4_plug, Cond.instanceMethod yX4_plug, Cond.selects RX4 yX4_plug yX4_plug, Cond.code yX4_plug cX4_plug 4 (some .int), Cond.methodLink RL 123 yL_load, Cond.static yL_load, Cond.codeWith yL_load cL_load 4 (some .int) [(0, 9, 12, 13)], Cond.methodLink RL 46 yX3_load, Cond.instanceMethod yX3_load, Cond.selects RX3 yX3_load yX3_load, Cond.code yX3_load cX3_load 4 (some .int), Cond.methodLink RX3 152 yX3_shownLevel, Cond.instanceMethod yX3_shownLevel]
def wsL_law0_r16 : List Cond := [Cond.selects RX3 yX3_shownLevel yX3_shownLevel, Cond.code yX3_shownLevel cX3_shownLevel 2 (some .int), Cond.instanceMethod yX2_wantedLevel, Cond.selects RX2 yX2_wantedLevel yX2_wantedLevel, Cond.code yX2_wantedLevel cX2_wantedLevel 5 (some .int), Cond.methodLink RX2 68 yX2_gained, Cond.static yX2_gained, Cond.code yX2_gained cX2_gained 4 (some .int), Cond.methodLink RX2 72 yJ9_floorDiv_7cf53, Cond.static yJ9_floorDiv_7cf53, Cond.initialized RJ9, Cond.code yJ9_floorDiv_7cf53 cJ9_floorDiv_7cf53 3 (some .int), Cond.methodLink RL 125 yX4_load, Cond.instanceMethod yX4_load, Cond.selects RX4 yX4_load yX4_load, Cond.code yX4_load cX4_load 4 (some .int), Cond.methodLink RX4 130 yX4_draws, Cond.static yX4_draws, Cond.code yX4_draws cX4_draws 1 (some .int), Cond.methodLink RX4 133 yX4_levelOf, Cond.instanceMethod yX4_levelOf, Cond.selects RX4 yX4_levelOf yX4_levelOf, Cond.code yX4_levelOf cX4_levelOf 2 (some .int), Cond.methodLink RX4 148 yX4_wantedOf]
def wsL_law0_r17 : List Cond := [Cond.instanceMethod yX4_wantedOf, Cond.selects RX4 yX4_wantedOf yX4_wantedOf, Cond.code yX4_wantedOf cX4_wantedOf 5 (some .int), Cond.fieldLink RX4 139 "PlotPatchModel" "time" "I", Cond.methodLink RX4 142 yX4_quotient, Cond.static yX4_quotient, Cond.code yX4_quotient cX4_quotient 3 (some .int), Cond.methodLink RL 126 yL_cue, Cond.static yL_cue, Cond.codeWith yL_cue cL_cue 6 (some .int) [(0, 12, 15, 15), (0, 12, 19, 17)], Cond.methodLink RL 49 yX3_cue, Cond.instanceMethod yX3_cue, Cond.selects RX3 yX3_cue yX3_cue, Cond.code yX3_cue cX3_cue 4 (some .int), Cond.instanceMethod yX2_addCue, Cond.selects RX2 yX2_addCue yX2_addCue, Cond.code yX2_addCue cX2_addCue 5 (some .int), Cond.methodLink RL 128 yX4_cue, Cond.instanceMethod yX4_cue, Cond.selects RX4 yX4_cue yX4_cue, Cond.code yX4_cue cX4_cue 4 (some .int), Cond.fieldLink RX4 88 "PlotPatchModel" "cues" "I", Cond.methodLink RL 129 yL_name, Cond.static yL_name]
def wsL_law0_r18 : List Cond := [Cond.codeWith yL_name cL_name 6 (some .int) [(0, 12, 15, 13), (0, 12, 19, 15)], Cond.methodLink RL 52 yX3_name, Cond.instanceMethod yX3_name, Cond.selects RX3 yX3_name yX3_name, Cond.code yX3_name cX3_name 6 (some .int), Cond.static yX2_cell, Cond.code yX2_cell cX2_cell 2 (some .int), Cond.methodLink RL 131 yX4_name, Cond.instanceMethod yX4_name, Cond.selects RX4 yX4_name yX4_name, Cond.code yX4_name cX4_name 5 (some .int), Cond.methodLink RX4 136 yX4_isCue, Cond.instanceMethod yX4_isCue, Cond.selects RX4 yX4_isCue yX4_isCue, Cond.code yX4_isCue cX4_isCue 2 (some .boolean), Cond.methodLink RL 132 yL_go, Cond.static yL_go, Cond.codeWith yL_go cL_go 3 (some .int) [(0, 8, 11, 17)], Cond.methodLink RL 55 yX3_go, Cond.instanceMethod yX3_go, Cond.selects RX3 yX3_go yX3_go, Cond.code yX3_go cX3_go 1 (some .int), Cond.instanceMethod yX2_beginNext, Cond.selects RX2 yX2_beginNext yX2_beginNext]
def wsL_law0_r19 : List Cond := [Cond.code yX2_beginNext cX2_beginNext 3 (some .int), Cond.methodLink RX2 52 yX2_begin, Cond.instanceMethod yX2_begin, Cond.selects RX2 yX2_begin yX2_begin, Cond.code yX2_begin cX2_begin 4 none, Cond.methodLink RX2 56 yX2_cell, Cond.methodLink RX2 60 yX2_wantedLevel, Cond.methodLink RL 135 yX4_go, Cond.instanceMethod yX4_go, Cond.selects RX4 yX4_go yX4_go, Cond.code yX4_go cX4_go 1 (some .int), Cond.fieldLink RX4 145 "PlotPatchModel" "begun" "I", Cond.methodLink RX4 154 yX4_begin, Cond.instanceMethod yX4_begin, Cond.selects RX4 yX4_begin yX4_begin, Cond.code yX4_begin cX4_begin 5 (some .int), Cond.fieldLink RX4 151 "PlotPatchModel" "beganAt" "I", Cond.methodLink RL 136 yL_tick, Cond.static yL_tick, Cond.codeWith yL_tick cL_tick 4 (some .int) [(0, 9, 12, 15)], Cond.methodLink RL 59 yX3_tick, Cond.instanceMethod yX3_tick, Cond.selects RX3 yX3_tick yX3_tick, Cond.code yX3_tick cX3_tick 4 (some .int)]
def wsL_law0_r20 : List Cond := [Cond.instanceMethod yX2_advance, Cond.selects RX2 yX2_advance yX2_advance, Cond.code yX2_advance cX2_advance 1 (some .int), Cond.methodLink RX2 64 yX2_beginNext, Cond.methodLink RX3 182 yX3_burnColours, Cond.instanceMethod yX3_burnColours, Cond.selects RX3 yX3_burnColours yX3_burnColours, Cond.code yX3_burnColours cX3_burnColours 2 none, Cond.methodLink RL 138 yX4_tick, Cond.instanceMethod yX4_tick, Cond.selects RX4 yX4_tick yX4_tick, Cond.code yX4_tick cX4_tick 5 (some .int), Cond.methodLink RL 139 yX3_rewind, Cond.instanceMethod yX3_rewind, Cond.selects RX3 yX3_rewind yX3_rewind, Cond.code yX3_rewind cX3_rewind 1 (some .int), Cond.instanceMethod yX2_reset, Cond.selects RX2 yX2_reset yX2_reset, Cond.code yX2_reset cX2_reset 2 (some .int), Cond.methodLink RL 142 yX4_rewind, Cond.instanceMethod yX4_rewind, Cond.selects RX4 yX4_rewind yX4_rewind, Cond.code yX4_rewind cX4_rewind 3 (some .int), Cond.methodLink RL 143 yL_level]
def wsL_law0_r21 : List Cond := [Cond.static yL_level, Cond.codeWith yL_level cL_level 4 (some .int) [(0, 9, 12, 13)], Cond.methodLink RL 62 yX3_level, Cond.instanceMethod yX3_level, Cond.selects RX3 yX3_level yX3_level, Cond.code yX3_level cX3_level 2 (some .int), Cond.methodLink RL 145 yX4_level, Cond.instanceMethod yX4_level, Cond.selects RX4 yX4_level yX4_level, Cond.code yX4_level cX4_level 2 (some .int), Cond.methodLink RL 146 yL_wanted, Cond.static yL_wanted, Cond.codeWith yL_wanted cL_wanted 4 (some .int) [(0, 9, 12, 13)], Cond.methodLink RL 65 yX3_wanted, Cond.instanceMethod yX3_wanted, Cond.selects RX3 yX3_wanted yX3_wanted, Cond.code yX3_wanted cX3_wanted 2 (some .int), Cond.methodLink RL 148 yX4_wanted, Cond.instanceMethod yX4_wanted, Cond.selects RX4 yX4_wanted yX4_wanted, Cond.code yX4_wanted cX4_wanted 2 (some .int), Cond.methodLink RL 149 yL_wantedByCues, Cond.static yL_wantedByCues, Cond.codeWith yL_wantedByCues cL_wantedByCues 4 (some .int) [(0, 9, 12, 13)]]
def wsL_law0_r22 : List Cond := [Cond.methodLink RL 68 yX3_wantedByCues, Cond.instanceMethod yX3_wantedByCues, Cond.selects RX3 yX3_wantedByCues yX3_wantedByCues, Cond.code yX3_wantedByCues cX3_wantedByCues 2 (some .int), Cond.methodLink RL 151 yX4_wantedByCues, Cond.instanceMethod yX4_wantedByCues, Cond.selects RX4 yX4_wantedByCues yX4_wantedByCues, Cond.code yX4_wantedByCues cX4_wantedByCues 2 (some .int), Cond.methodLink RL 152 yL_bulb, Cond.static yL_bulb, Cond.codeWith yL_bulb cL_bulb 4 (some .int) [(0, 16, 19, 13)], Cond.methodLink RL 71 yX3_bulb, Cond.instanceMethod yX3_bulb, Cond.selects RX3 yX3_bulb yX3_bulb, Cond.code yX3_bulb cX3_bulb 2 (some .boolean), Cond.methodLink RL 154 yX4_bulb, Cond.instanceMethod yX4_bulb, Cond.selects RX4 yX4_bulb yX4_bulb, Cond.code yX4_bulb cX4_bulb 2 (some .boolean), Cond.methodLink RL 155 yL_standIn, Cond.static yL_standIn, Cond.codeWith yL_standIn cL_standIn 5 (some .int) [(0, 10, 13, 13), (0, 10, 17, 15), (0, 10, 21, 17)], Cond.methodLink RL 74 yX3_standIn, Cond.instanceMethod yX3_standIn]
def wsL_law0_r23 : List Cond := [Cond.selects RX3 yX3_standIn yX3_standIn, Cond.code yX3_standIn cX3_standIn 3 (some .int), Cond.instanceMethod yX2_handOver, Cond.selects RX2 yX2_handOver yX2_handOver, Cond.code yX2_handOver cX2_handOver 6 (some .int), Cond.methodLink RL 157 yX4_standIn, Cond.instanceMethod yX4_standIn, Cond.selects RX4 yX4_standIn yX4_standIn, Cond.code yX4_standIn cX4_standIn 6 (some .int), Cond.methodLink RL 158 yL_colour, Cond.static yL_colour, Cond.codeWith yL_colour cL_colour 5 (some .int) [(0, 10, 13, 13), (0, 10, 17, 15)], Cond.methodLink RL 77 yX3_colour, Cond.instanceMethod yX3_colour, Cond.selects RX3 yX3_colour yX3_colour, Cond.code yX3_colour cX3_colour 4 (some .int), Cond.methodLink RL 160 yX4_colour, Cond.instanceMethod yX4_colour, Cond.selects RX4 yX4_colour yX4_colour, Cond.code yX4_colour cX4_colour 4 (some .int), Cond.methodLink RL 161 yX3_burnt, Cond.instanceMethod yX3_burnt, Cond.selects RX3 yX3_burnt yX3_burnt, Cond.code yX3_burnt cX3_burnt 3 (some .int)]
def wsL_law0_r24 : List Cond := [Cond.methodLink RL 164 yX4_burnt, Cond.instanceMethod yX4_burnt, Cond.selects RX4 yX4_burnt yX4_burnt, Cond.code yX4_burnt cX4_burnt 3 (some .int)]
end
section
def wsL_law0 : List Cond := (wsL_law0_r1 ++ (wsL_law0_r2 ++ (wsL_law0_r3 ++ (wsL_law0_r4 ++ (wsL_law0_r5 ++ (wsL_law0_r6 ++ (wsL_law0_r7 ++ (wsL_law0_r8 ++ (wsL_law0_r9 ++ (wsL_law0_r10 ++ (wsL_law0_r11 ++ (wsL_law0_r12 ++ (wsL_law0_r13 ++ (wsL_law0_r14 ++ (wsL_law0_r15 ++ (wsL_law0_r16 ++ (wsL_law0_r17 ++ (wsL_law0_r18 ++ (wsL_law0_r19 ++ (wsL_law0_r20 ++ (wsL_law0_r21 ++ (wsL_law0_r22 ++ (wsL_law0_r23 ++ wsL_law0_r24))))))))))))))))))))))) ++ wsX30 ++ wsX40 ++ wsX10 ++ wsX00 ++ wsX20 ++ ([] : List Cond)
def wsL_law : List Cond := wsL_law0 ++ (vx_atS RX3 49 "java/lang/IndexOutOfBoundsException" ["java/lang/RuntimeException", "java/lang/Exception"]).filter goodWord ++ (vx_atS RX3 63 "java/lang/IllegalStateException" ["java/lang/RuntimeException", "java/lang/Exception"]).filter goodWord ++ (vx_atS RX3 195 "java/lang/IllegalArgumentException" ["java/lang/RuntimeException", "java/lang/Exception"]).filter goodWord
theorem inlX0 : ∀ w ∈ wsX00, w ∈ wsL_law := fun _ h => List.mem_append_left _ (List.mem_append_left _ (List.mem_append_left _ (List.mem_append_left _ (List.mem_append_left _ (List.mem_append_right _ h)))))
theorem inlX1 : ∀ w ∈ wsX10, w ∈ wsL_law := fun _ h => List.mem_append_left _ (List.mem_append_left _ (List.mem_append_left _ (List.mem_append_left _ (List.mem_append_left _ (List.mem_append_left _ (List.mem_append_right _ h))))))
theorem inlX2 : ∀ w ∈ wsX20, w ∈ wsL_law := fun _ h => List.mem_append_left _ (List.mem_append_left _ (List.mem_append_left _ (List.mem_append_left _ (List.mem_append_right _ h))))
theorem inlX3 : ∀ w ∈ wsX30, w ∈ wsL_law := fun _ h => List.mem_append_left _ (List.mem_append_left _ (List.mem_append_left _ (List.mem_append_left _ (List.mem_append_left _ (List.mem_append_left _ (List.mem_append_left _ (List.mem_append_left _ (List.mem_append_right _ h))))))))
theorem inlX4 : ∀ w ∈ wsX40, w ∈ wsL_law := fun _ h => List.mem_append_left _ (List.mem_append_left _ (List.mem_append_left _ (List.mem_append_left _ (List.mem_append_left _ (List.mem_append_left _ (List.mem_append_left _ (List.mem_append_right _ h)))))))
set_option maxRecDepth 20000 in
theorem ggX0_init_J7_fill_53178 : GoodIn wsX0_init wsJ7_fill_53178 := goodIn_r _ [12] (by decide +kernel) (by decide +kernel)
set_option maxRecDepth 20000 in
theorem gX0_init_J7_fill_53178 : GoodIn wsX0_init (va_wsS RX0 15 yJ7_fill_53178 wsJ7_fill_53178) := goodIn_app (goodIn_of _ (by decide +kernel)) ggX0_init_J7_fill_53178
theorem dX0_init_0 : decode cX0_init 0 = .ok (.aload_n 0, 1) := by decide +kernel
theorem dX0_init_1 : decode cX0_init 1 = .ok (.invokespecial 3, 3) := by decide +kernel
theorem dX0_init_4 : decode cX0_init 4 = .ok (.aload_n 0, 1) := by decide +kernel
theorem dX0_init_5 : decode cX0_init 5 = .ok (.bipush 10, 2) := by decide +kernel
theorem dX0_init_7 : decode cX0_init 7 = .ok (.newarray .int, 2) := by decide +kernel
theorem dX0_init_9 : decode cX0_init 9 = .ok (.putfield 9, 3) := by decide +kernel
theorem dX0_init_12 : decode cX0_init 12 = .ok (.aload_n 0, 1) := by decide +kernel
theorem dX0_init_13 : decode cX0_init 13 = .ok (.getfield 9, 3) := by decide +kernel
theorem dX0_init_16 : decode cX0_init 16 = .ok (.iconst (-1), 1) := by decide +kernel
theorem dX0_init_17 : decode cX0_init 17 = .ok (.invokestatic 15, 3) := by decide +kernel
theorem dX0_init_20 : decode cX0_init 20 = .ok (.aload_n 0, 1) := by decide +kernel
theorem dX0_init_21 : decode cX0_init 21 = .ok (.bipush 10, 2) := by decide +kernel
theorem dX0_init_23 : decode cX0_init 23 = .ok (.newarray .int, 2) := by decide +kernel
theorem dX0_init_25 : decode cX0_init 25 = .ok (.putfield 21, 3) := by decide +kernel
theorem dX0_init_28 : decode cX0_init 28 = .ok (.aload_n 0, 1) := by decide +kernel
theorem dX0_init_29 : decode cX0_init 29 = .ok (.bipush 10, 2) := by decide +kernel
theorem dX0_init_31 : decode cX0_init 31 = .ok (.newarray .int, 2) := by decide +kernel
theorem dX0_init_33 : decode cX0_init 33 = .ok (.putfield 24, 3) := by decide +kernel
theorem dX0_init_36 : decode cX0_init 36 = .ok (.aload_n 0, 1) := by decide +kernel
theorem dX0_init_37 : decode cX0_init 37 = .ok (.getfield 24, 3) := by decide +kernel
theorem dX0_init_40 : decode cX0_init 40 = .ok (.iconst (-1), 1) := by decide +kernel
theorem dX0_init_41 : decode cX0_init 41 = .ok (.invokestatic 15, 3) := by decide +kernel
theorem dX0_init_44 : decode cX0_init 44 = .ok (.aload_n 0, 1) := by decide +kernel
theorem dX0_init_45 : decode cX0_init 45 = .ok (.bipush 10, 2) := by decide +kernel
theorem dX0_init_47 : decode cX0_init 47 = .ok (.newarray .int, 2) := by decide +kernel
theorem dX0_init_49 : decode cX0_init 49 = .ok (.putfield 27, 3) := by decide +kernel
theorem dX0_init_52 : decode cX0_init 52 = .ok (.return_, 1) := by decide +kernel
theorem dX0_countHolders_0 : decode cX0_countHolders 0 = .ok (.iconst 0, 1) := by decide +kernel
theorem dX0_countHolders_1 : decode cX0_countHolders 1 = .ok (.istore_n 2, 1) := by decide +kernel
theorem dX0_countHolders_2 : decode cX0_countHolders 2 = .ok (.iconst 0, 1) := by decide +kernel
theorem dX0_countHolders_3 : decode cX0_countHolders 3 = .ok (.istore_n 3, 1) := by decide +kernel
theorem dX0_countHolders_4 : decode cX0_countHolders 4 = .ok (.iload_n 3, 1) := by decide +kernel
theorem dX0_countHolders_5 : decode cX0_countHolders 5 = .ok (.bipush 10, 2) := by decide +kernel
theorem dX0_countHolders_7 : decode cX0_countHolders 7 = .ok (.if_icmp .ge 45, 3) := by decide +kernel
theorem dX0_countHolders_10 : decode cX0_countHolders 10 = .ok (.aload_n 0, 1) := by decide +kernel
theorem dX0_countHolders_11 : decode cX0_countHolders 11 = .ok (.getfield 9, 3) := by decide +kernel
theorem dX0_countHolders_14 : decode cX0_countHolders 14 = .ok (.iload_n 3, 1) := by decide +kernel
theorem dX0_countHolders_15 : decode cX0_countHolders 15 = .ok (.iaload, 1) := by decide +kernel
theorem dX0_countHolders_16 : decode cX0_countHolders 16 = .ok (.istore 4, 2) := by decide +kernel
theorem dX0_countHolders_18 : decode cX0_countHolders 18 = .ok (.iload 4, 2) := by decide +kernel
theorem dX0_countHolders_20 : decode cX0_countHolders 20 = .ok (.iconst (-1), 1) := by decide +kernel
theorem dX0_countHolders_21 : decode cX0_countHolders 21 = .ok (.if_icmp .eq 25, 3) := by decide +kernel
theorem dX0_countHolders_24 : decode cX0_countHolders 24 = .ok (.iload 4, 2) := by decide +kernel
theorem dX0_countHolders_26 : decode cX0_countHolders 26 = .ok (.iload_n 1, 1) := by decide +kernel
theorem dX0_countHolders_27 : decode cX0_countHolders 27 = .ok (.if_icmp .gt 19, 3) := by decide +kernel
theorem dX0_countHolders_30 : decode cX0_countHolders 30 = .ok (.iload_n 1, 1) := by decide +kernel
theorem dX0_countHolders_31 : decode cX0_countHolders 31 = .ok (.iload 4, 2) := by decide +kernel
theorem dX0_countHolders_33 : decode cX0_countHolders 33 = .ok (.aload_n 0, 1) := by decide +kernel
theorem dX0_countHolders_34 : decode cX0_countHolders 34 = .ok (.getfield 21, 3) := by decide +kernel
theorem dX0_countHolders_37 : decode cX0_countHolders 37 = .ok (.iload_n 3, 1) := by decide +kernel
theorem dX0_countHolders_38 : decode cX0_countHolders 38 = .ok (.iaload, 1) := by decide +kernel
theorem dX0_countHolders_39 : decode cX0_countHolders 39 = .ok (.iadd, 1) := by decide +kernel
theorem dX0_countHolders_40 : decode cX0_countHolders 40 = .ok (.if_icmp .ge 6, 3) := by decide +kernel
theorem dX0_countHolders_43 : decode cX0_countHolders 43 = .ok (.iinc 2 1, 3) := by decide +kernel
theorem dX0_countHolders_46 : decode cX0_countHolders 46 = .ok (.iinc 3 1, 3) := by decide +kernel
theorem dX0_countHolders_49 : decode cX0_countHolders 49 = .ok (.goto (-45), 3) := by decide +kernel
theorem dX0_countHolders_52 : decode cX0_countHolders 52 = .ok (.iload_n 2, 1) := by decide +kernel
theorem dX0_countHolders_53 : decode cX0_countHolders 53 = .ok (.ireturn, 1) := by decide +kernel
set_option maxRecDepth 20000 in
theorem ggX0_countDoubles_X0_countHolders : GoodIn wsX0_countDoubles wsX0_countHolders := goodIn_r _ [5, 6, 7, 8, 9, 10, 11] (by decide +kernel) (by decide +kernel)
set_option maxRecDepth 20000 in
theorem gX0_countDoubles_X0_countHolders : GoodIn wsX0_countDoubles (wsV RX0 30 RX0 yX0_countHolders wsX0_countHolders) := goodIn_app (goodIn_of _ (by decide +kernel)) ggX0_countDoubles_X0_countHolders
theorem dX0_countDoubles_0 : decode cX0_countDoubles 0 = .ok (.iconst 0, 1) := by decide +kernel
theorem dX0_countDoubles_1 : decode cX0_countDoubles 1 = .ok (.istore_n 1, 1) := by decide +kernel
theorem dX0_countDoubles_2 : decode cX0_countDoubles 2 = .ok (.iconst 0, 1) := by decide +kernel
theorem dX0_countDoubles_3 : decode cX0_countDoubles 3 = .ok (.istore_n 2, 1) := by decide +kernel
theorem dX0_countDoubles_4 : decode cX0_countDoubles 4 = .ok (.iload_n 2, 1) := by decide +kernel
theorem dX0_countDoubles_5 : decode cX0_countDoubles 5 = .ok (.bipush 100, 2) := by decide +kernel
theorem dX0_countDoubles_7 : decode cX0_countDoubles 7 = .ok (.if_icmp .ge 21, 3) := by decide +kernel
theorem dX0_countDoubles_10 : decode cX0_countDoubles 10 = .ok (.aload_n 0, 1) := by decide +kernel
theorem dX0_countDoubles_11 : decode cX0_countDoubles 11 = .ok (.iload_n 2, 1) := by decide +kernel
theorem dX0_countDoubles_12 : decode cX0_countDoubles 12 = .ok (.invokevirtual 30, 3) := by decide +kernel
theorem dX0_countDoubles_15 : decode cX0_countDoubles 15 = .ok (.iconst 1, 1) := by decide +kernel
theorem dX0_countDoubles_16 : decode cX0_countDoubles 16 = .ok (.if_icmp .le 6, 3) := by decide +kernel
theorem dX0_countDoubles_19 : decode cX0_countDoubles 19 = .ok (.iinc 1 1, 3) := by decide +kernel
theorem dX0_countDoubles_22 : decode cX0_countDoubles 22 = .ok (.iinc 2 1, 3) := by decide +kernel
theorem dX0_countDoubles_25 : decode cX0_countDoubles 25 = .ok (.goto (-21), 3) := by decide +kernel
theorem dX0_countDoubles_28 : decode cX0_countDoubles 28 = .ok (.iload_n 1, 1) := by decide +kernel
theorem dX0_countDoubles_29 : decode cX0_countDoubles 29 = .ok (.ireturn, 1) := by decide +kernel
set_option maxRecDepth 20000 in
theorem ggX0_lowestGap_X0_countHolders : GoodIn wsX0_lowestGap wsX0_countHolders := goodIn_r _ [5, 6, 7, 8, 9, 10, 11] (by decide +kernel) (by decide +kernel)
set_option maxRecDepth 20000 in
theorem gX0_lowestGap_X0_countHolders : GoodIn wsX0_lowestGap (wsV RX0 30 RX0 yX0_countHolders wsX0_countHolders) := goodIn_app (goodIn_of _ (by decide +kernel)) ggX0_lowestGap_X0_countHolders
theorem dX0_lowestGap_0 : decode cX0_lowestGap 0 = .ok (.iconst 0, 1) := by decide +kernel
theorem dX0_lowestGap_1 : decode cX0_lowestGap 1 = .ok (.istore_n 2, 1) := by decide +kernel
theorem dX0_lowestGap_2 : decode cX0_lowestGap 2 = .ok (.iconst 0, 1) := by decide +kernel
theorem dX0_lowestGap_3 : decode cX0_lowestGap 3 = .ok (.istore_n 3, 1) := by decide +kernel
theorem dX0_lowestGap_4 : decode cX0_lowestGap 4 = .ok (.iload_n 3, 1) := by decide +kernel
theorem dX0_lowestGap_5 : decode cX0_lowestGap 5 = .ok (.bipush 100, 2) := by decide +kernel
theorem dX0_lowestGap_7 : decode cX0_lowestGap 7 = .ok (.if_icmp .ge 36, 3) := by decide +kernel
theorem dX0_lowestGap_10 : decode cX0_lowestGap 10 = .ok (.aload_n 0, 1) := by decide +kernel
theorem dX0_lowestGap_11 : decode cX0_lowestGap 11 = .ok (.iload_n 3, 1) := by decide +kernel
theorem dX0_lowestGap_12 : decode cX0_lowestGap 12 = .ok (.invokevirtual 30, 3) := by decide +kernel
theorem dX0_lowestGap_15 : decode cX0_lowestGap 15 = .ok (.ifCond .ne 9, 3) := by decide +kernel
theorem dX0_lowestGap_18 : decode cX0_lowestGap 18 = .ok (.iload_n 2, 1) := by decide +kernel
theorem dX0_lowestGap_19 : decode cX0_lowestGap 19 = .ok (.iconst 1, 1) := by decide +kernel
theorem dX0_lowestGap_20 : decode cX0_lowestGap 20 = .ok (.iadd, 1) := by decide +kernel
theorem dX0_lowestGap_21 : decode cX0_lowestGap 21 = .ok (.goto 4, 3) := by decide +kernel
theorem dX0_lowestGap_24 : decode cX0_lowestGap 24 = .ok (.iconst 0, 1) := by decide +kernel
theorem dX0_lowestGap_25 : decode cX0_lowestGap 25 = .ok (.istore_n 2, 1) := by decide +kernel
theorem dX0_lowestGap_26 : decode cX0_lowestGap 26 = .ok (.iload_n 2, 1) := by decide +kernel
theorem dX0_lowestGap_27 : decode cX0_lowestGap 27 = .ok (.iload_n 1, 1) := by decide +kernel
theorem dX0_lowestGap_28 : decode cX0_lowestGap 28 = .ok (.if_icmp .ne 9, 3) := by decide +kernel
theorem dX0_lowestGap_31 : decode cX0_lowestGap 31 = .ok (.iload_n 3, 1) := by decide +kernel
theorem dX0_lowestGap_32 : decode cX0_lowestGap 32 = .ok (.iload_n 1, 1) := by decide +kernel
theorem dX0_lowestGap_33 : decode cX0_lowestGap 33 = .ok (.isub, 1) := by decide +kernel
theorem dX0_lowestGap_34 : decode cX0_lowestGap 34 = .ok (.iconst 1, 1) := by decide +kernel
theorem dX0_lowestGap_35 : decode cX0_lowestGap 35 = .ok (.iadd, 1) := by decide +kernel
theorem dX0_lowestGap_36 : decode cX0_lowestGap 36 = .ok (.ireturn, 1) := by decide +kernel
theorem dX0_lowestGap_37 : decode cX0_lowestGap 37 = .ok (.iinc 3 1, 3) := by decide +kernel
theorem dX0_lowestGap_40 : decode cX0_lowestGap 40 = .ok (.goto (-36), 3) := by decide +kernel
theorem dX0_lowestGap_43 : decode cX0_lowestGap 43 = .ok (.iconst (-1), 1) := by decide +kernel
theorem dX0_lowestGap_44 : decode cX0_lowestGap 44 = .ok (.ireturn, 1) := by decide +kernel
set_option maxRecDepth 20000 in
theorem ggX1_init_J7_fill_53178 : GoodIn wsX1_init wsJ7_fill_53178 := goodIn_r _ [16] (by decide +kernel) (by decide +kernel)
set_option maxRecDepth 20000 in
theorem gX1_init_J7_fill_53178 : GoodIn wsX1_init (va_wsS RX1 31 yJ7_fill_53178 wsJ7_fill_53178) := goodIn_app (goodIn_of _ (by decide +kernel)) ggX1_init_J7_fill_53178
theorem dX1_init_0 : decode cX1_init 0 = .ok (.aload_n 0, 1) := by decide +kernel
theorem dX1_init_1 : decode cX1_init 1 = .ok (.invokespecial 3, 3) := by decide +kernel
theorem dX1_init_4 : decode cX1_init 4 = .ok (.aload_n 0, 1) := by decide +kernel
theorem dX1_init_5 : decode cX1_init 5 = .ok (.iconst 0, 1) := by decide +kernel
theorem dX1_init_6 : decode cX1_init 6 = .ok (.putfield 9, 3) := by decide +kernel
theorem dX1_init_9 : decode cX1_init 9 = .ok (.aload_n 0, 1) := by decide +kernel
theorem dX1_init_10 : decode cX1_init 10 = .ok (.iconst 2, 1) := by decide +kernel
theorem dX1_init_11 : decode cX1_init 11 = .ok (.newarray .int, 2) := by decide +kernel
theorem dX1_init_13 : decode cX1_init 13 = .ok (.putfield 15, 3) := by decide +kernel
theorem dX1_init_16 : decode cX1_init 16 = .ok (.aload_n 0, 1) := by decide +kernel
theorem dX1_init_17 : decode cX1_init 17 = .ok (.bipush 8, 2) := by decide +kernel
theorem dX1_init_19 : decode cX1_init 19 = .ok (.newarray .int, 2) := by decide +kernel
theorem dX1_init_21 : decode cX1_init 21 = .ok (.putfield 19, 3) := by decide +kernel
theorem dX1_init_24 : decode cX1_init 24 = .ok (.aload_n 0, 1) := by decide +kernel
theorem dX1_init_25 : decode cX1_init 25 = .ok (.bipush 8, 2) := by decide +kernel
theorem dX1_init_27 : decode cX1_init 27 = .ok (.newarray .int, 2) := by decide +kernel
theorem dX1_init_29 : decode cX1_init 29 = .ok (.putfield 22, 3) := by decide +kernel
theorem dX1_init_32 : decode cX1_init 32 = .ok (.aload_n 0, 1) := by decide +kernel
theorem dX1_init_33 : decode cX1_init 33 = .ok (.bipush 10, 2) := by decide +kernel
theorem dX1_init_35 : decode cX1_init 35 = .ok (.newarray .int, 2) := by decide +kernel
theorem dX1_init_37 : decode cX1_init 37 = .ok (.putfield 25, 3) := by decide +kernel
theorem dX1_init_40 : decode cX1_init 40 = .ok (.aload_n 0, 1) := by decide +kernel
theorem dX1_init_41 : decode cX1_init 41 = .ok (.bipush 10, 2) := by decide +kernel
theorem dX1_init_43 : decode cX1_init 43 = .ok (.newarray .int, 2) := by decide +kernel
theorem dX1_init_45 : decode cX1_init 45 = .ok (.putfield 28, 3) := by decide +kernel
theorem dX1_init_48 : decode cX1_init 48 = .ok (.aload_n 0, 1) := by decide +kernel
theorem dX1_init_49 : decode cX1_init 49 = .ok (.getfield 28, 3) := by decide +kernel
theorem dX1_init_52 : decode cX1_init 52 = .ok (.iconst (-1), 1) := by decide +kernel
theorem dX1_init_53 : decode cX1_init 53 = .ok (.invokestatic 31, 3) := by decide +kernel
theorem dX1_init_56 : decode cX1_init 56 = .ok (.aload_n 0, 1) := by decide +kernel
theorem dX1_init_57 : decode cX1_init 57 = .ok (.bipush 10, 2) := by decide +kernel
theorem dX1_init_59 : decode cX1_init 59 = .ok (.newarray .int, 2) := by decide +kernel
theorem dX1_init_61 : decode cX1_init 61 = .ok (.putfield 37, 3) := by decide +kernel
theorem dX1_init_64 : decode cX1_init 64 = .ok (.aload_n 0, 1) := by decide +kernel
theorem dX1_init_65 : decode cX1_init 65 = .ok (.bipush 10, 2) := by decide +kernel
theorem dX1_init_67 : decode cX1_init 67 = .ok (.newarray .int, 2) := by decide +kernel
theorem dX1_init_69 : decode cX1_init 69 = .ok (.putfield 40, 3) := by decide +kernel
theorem dX1_init_72 : decode cX1_init 72 = .ok (.return_, 1) := by decide +kernel
theorem dX1_cell_0 : decode cX1_cell 0 = .ok (.iload_n 0, 1) := by decide +kernel
theorem dX1_cell_1 : decode cX1_cell 1 = .ok (.iconst 4, 1) := by decide +kernel
theorem dX1_cell_2 : decode cX1_cell 2 = .ok (.imul, 1) := by decide +kernel
theorem dX1_cell_3 : decode cX1_cell 3 = .ok (.iload_n 1, 1) := by decide +kernel
theorem dX1_cell_4 : decode cX1_cell 4 = .ok (.iadd, 1) := by decide +kernel
theorem dX1_cell_5 : decode cX1_cell 5 = .ok (.ireturn, 1) := by decide +kernel
set_option maxRecDepth 20000 in
theorem ggX1_addBar_X1_cell : GoodIn wsX1_addBar wsX1_cell := goodIn_r _ [7] (by decide +kernel) (by decide +kernel)
set_option maxRecDepth 20000 in
theorem gX1_addBar_X1_cell : GoodIn wsX1_addBar (va_wsS RX1 43 yX1_cell wsX1_cell) := goodIn_app (goodIn_of _ (by decide +kernel)) ggX1_addBar_X1_cell
theorem dX1_addBar_0 : decode cX1_addBar 0 = .ok (.aload_n 0, 1) := by decide +kernel
theorem dX1_addBar_1 : decode cX1_addBar 1 = .ok (.getfield 15, 3) := by decide +kernel
theorem dX1_addBar_4 : decode cX1_addBar 4 = .ok (.iload_n 1, 1) := by decide +kernel
theorem dX1_addBar_5 : decode cX1_addBar 5 = .ok (.iaload, 1) := by decide +kernel
theorem dX1_addBar_6 : decode cX1_addBar 6 = .ok (.istore 4, 2) := by decide +kernel
theorem dX1_addBar_8 : decode cX1_addBar 8 = .ok (.aload_n 0, 1) := by decide +kernel
theorem dX1_addBar_9 : decode cX1_addBar 9 = .ok (.getfield 15, 3) := by decide +kernel
theorem dX1_addBar_12 : decode cX1_addBar 12 = .ok (.iload_n 1, 1) := by decide +kernel
theorem dX1_addBar_13 : decode cX1_addBar 13 = .ok (.dup2, 1) := by decide +kernel
theorem dX1_addBar_14 : decode cX1_addBar 14 = .ok (.iaload, 1) := by decide +kernel
theorem dX1_addBar_15 : decode cX1_addBar 15 = .ok (.iconst 1, 1) := by decide +kernel
theorem dX1_addBar_16 : decode cX1_addBar 16 = .ok (.iadd, 1) := by decide +kernel
theorem dX1_addBar_17 : decode cX1_addBar 17 = .ok (.iastore, 1) := by decide +kernel
theorem dX1_addBar_18 : decode cX1_addBar 18 = .ok (.aload_n 0, 1) := by decide +kernel
theorem dX1_addBar_19 : decode cX1_addBar 19 = .ok (.getfield 19, 3) := by decide +kernel
theorem dX1_addBar_22 : decode cX1_addBar 22 = .ok (.iload_n 1, 1) := by decide +kernel
theorem dX1_addBar_23 : decode cX1_addBar 23 = .ok (.iload 4, 2) := by decide +kernel
theorem dX1_addBar_25 : decode cX1_addBar 25 = .ok (.invokestatic 43, 3) := by decide +kernel
theorem dX1_addBar_28 : decode cX1_addBar 28 = .ok (.iload_n 2, 1) := by decide +kernel
theorem dX1_addBar_29 : decode cX1_addBar 29 = .ok (.iastore, 1) := by decide +kernel
theorem dX1_addBar_30 : decode cX1_addBar 30 = .ok (.aload_n 0, 1) := by decide +kernel
theorem dX1_addBar_31 : decode cX1_addBar 31 = .ok (.getfield 22, 3) := by decide +kernel
theorem dX1_addBar_34 : decode cX1_addBar 34 = .ok (.iload_n 1, 1) := by decide +kernel
theorem dX1_addBar_35 : decode cX1_addBar 35 = .ok (.iload 4, 2) := by decide +kernel
theorem dX1_addBar_37 : decode cX1_addBar 37 = .ok (.invokestatic 43, 3) := by decide +kernel
theorem dX1_addBar_40 : decode cX1_addBar 40 = .ok (.iload_n 3, 1) := by decide +kernel
theorem dX1_addBar_41 : decode cX1_addBar 41 = .ok (.iastore, 1) := by decide +kernel
theorem dX1_addBar_42 : decode cX1_addBar 42 = .ok (.iload 4, 2) := by decide +kernel
theorem dX1_addBar_44 : decode cX1_addBar 44 = .ok (.ireturn, 1) := by decide +kernel
theorem dX1_hasBar_0 : decode cX1_hasBar 0 = .ok (.iload_n 1, 1) := by decide +kernel
theorem dX1_hasBar_1 : decode cX1_hasBar 1 = .ok (.ifCond .lt 20, 3) := by decide +kernel
theorem dX1_hasBar_4 : decode cX1_hasBar 4 = .ok (.iload_n 1, 1) := by decide +kernel
theorem dX1_hasBar_5 : decode cX1_hasBar 5 = .ok (.aload_n 0, 1) := by decide +kernel
theorem dX1_hasBar_6 : decode cX1_hasBar 6 = .ok (.getfield 15, 3) := by decide +kernel
theorem dX1_hasBar_9 : decode cX1_hasBar 9 = .ok (.aload_n 0, 1) := by decide +kernel
theorem dX1_hasBar_10 : decode cX1_hasBar 10 = .ok (.getfield 9, 3) := by decide +kernel
theorem dX1_hasBar_13 : decode cX1_hasBar 13 = .ok (.iaload, 1) := by decide +kernel
theorem dX1_hasBar_14 : decode cX1_hasBar 14 = .ok (.if_icmp .ge 7, 3) := by decide +kernel
theorem dX1_hasBar_17 : decode cX1_hasBar 17 = .ok (.iconst 1, 1) := by decide +kernel
theorem dX1_hasBar_18 : decode cX1_hasBar 18 = .ok (.goto 4, 3) := by decide +kernel
theorem dX1_hasBar_21 : decode cX1_hasBar 21 = .ok (.iconst 0, 1) := by decide +kernel
theorem dX1_hasBar_22 : decode cX1_hasBar 22 = .ok (.ireturn, 1) := by decide +kernel
set_option maxRecDepth 20000 in
theorem ggX1_hasPlace_X1_cell : GoodIn wsX1_hasPlace wsX1_cell := goodIn_r _ [6] (by decide +kernel) (by decide +kernel)
set_option maxRecDepth 20000 in
theorem gX1_hasPlace_X1_cell : GoodIn wsX1_hasPlace (va_wsS RX1 43 yX1_cell wsX1_cell) := goodIn_app (goodIn_of _ (by decide +kernel)) ggX1_hasPlace_X1_cell
theorem dX1_hasPlace_0 : decode cX1_hasPlace 0 = .ok (.iload_n 2, 1) := by decide +kernel
theorem dX1_hasPlace_1 : decode cX1_hasPlace 1 = .ok (.ifCond .lt 24, 3) := by decide +kernel
theorem dX1_hasPlace_4 : decode cX1_hasPlace 4 = .ok (.iload_n 2, 1) := by decide +kernel
theorem dX1_hasPlace_5 : decode cX1_hasPlace 5 = .ok (.aload_n 0, 1) := by decide +kernel
theorem dX1_hasPlace_6 : decode cX1_hasPlace 6 = .ok (.getfield 19, 3) := by decide +kernel
theorem dX1_hasPlace_9 : decode cX1_hasPlace 9 = .ok (.aload_n 0, 1) := by decide +kernel
theorem dX1_hasPlace_10 : decode cX1_hasPlace 10 = .ok (.getfield 9, 3) := by decide +kernel
theorem dX1_hasPlace_13 : decode cX1_hasPlace 13 = .ok (.iload_n 1, 1) := by decide +kernel
theorem dX1_hasPlace_14 : decode cX1_hasPlace 14 = .ok (.invokestatic 43, 3) := by decide +kernel
theorem dX1_hasPlace_17 : decode cX1_hasPlace 17 = .ok (.iaload, 1) := by decide +kernel
theorem dX1_hasPlace_18 : decode cX1_hasPlace 18 = .ok (.if_icmp .gt 7, 3) := by decide +kernel
theorem dX1_hasPlace_21 : decode cX1_hasPlace 21 = .ok (.iconst 1, 1) := by decide +kernel
theorem dX1_hasPlace_22 : decode cX1_hasPlace 22 = .ok (.goto 4, 3) := by decide +kernel
theorem dX1_hasPlace_25 : decode cX1_hasPlace 25 = .ok (.iconst 0, 1) := by decide +kernel
theorem dX1_hasPlace_26 : decode cX1_hasPlace 26 = .ok (.ireturn, 1) := by decide +kernel
theorem dX1_hangs_0 : decode cX1_hangs 0 = .ok (.aload_n 0, 1) := by decide +kernel
theorem dX1_hangs_1 : decode cX1_hangs 1 = .ok (.getfield 28, 3) := by decide +kernel
theorem dX1_hangs_4 : decode cX1_hangs 4 = .ok (.iload_n 1, 1) := by decide +kernel
theorem dX1_hangs_5 : decode cX1_hangs 5 = .ok (.iaload, 1) := by decide +kernel
theorem dX1_hangs_6 : decode cX1_hangs 6 = .ok (.iconst (-1), 1) := by decide +kernel
theorem dX1_hangs_7 : decode cX1_hangs 7 = .ok (.if_icmp .eq 7, 3) := by decide +kernel
theorem dX1_hangs_10 : decode cX1_hangs 10 = .ok (.iconst 1, 1) := by decide +kernel
theorem dX1_hangs_11 : decode cX1_hangs 11 = .ok (.goto 4, 3) := by decide +kernel
theorem dX1_hangs_14 : decode cX1_hangs 14 = .ok (.iconst 0, 1) := by decide +kernel
theorem dX1_hangs_15 : decode cX1_hangs 15 = .ok (.ireturn, 1) := by decide +kernel
theorem dX1_put_0 : decode cX1_put 0 = .ok (.aload_n 0, 1) := by decide +kernel
theorem dX1_put_1 : decode cX1_put 1 = .ok (.getfield 28, 3) := by decide +kernel
theorem dX1_put_4 : decode cX1_put 4 = .ok (.iload_n 1, 1) := by decide +kernel
theorem dX1_put_5 : decode cX1_put 5 = .ok (.iload_n 2, 1) := by decide +kernel
theorem dX1_put_6 : decode cX1_put 6 = .ok (.iastore, 1) := by decide +kernel
theorem dX1_put_7 : decode cX1_put 7 = .ok (.aload_n 0, 1) := by decide +kernel
theorem dX1_put_8 : decode cX1_put 8 = .ok (.getfield 40, 3) := by decide +kernel
theorem dX1_put_11 : decode cX1_put 11 = .ok (.iload_n 1, 1) := by decide +kernel
theorem dX1_put_12 : decode cX1_put 12 = .ok (.iload_n 3, 1) := by decide +kernel
theorem dX1_put_13 : decode cX1_put 13 = .ok (.iastore, 1) := by decide +kernel
theorem dX1_put_14 : decode cX1_put 14 = .ok (.return_, 1) := by decide +kernel
theorem dX1_weightOn_0 : decode cX1_weightOn 0 = .ok (.iconst 0, 1) := by decide +kernel
theorem dX1_weightOn_1 : decode cX1_weightOn 1 = .ok (.istore_n 2, 1) := by decide +kernel
theorem dX1_weightOn_2 : decode cX1_weightOn 2 = .ok (.iconst 0, 1) := by decide +kernel
theorem dX1_weightOn_3 : decode cX1_weightOn 3 = .ok (.istore_n 3, 1) := by decide +kernel
theorem dX1_weightOn_4 : decode cX1_weightOn 4 = .ok (.iload_n 3, 1) := by decide +kernel
theorem dX1_weightOn_5 : decode cX1_weightOn 5 = .ok (.bipush 10, 2) := by decide +kernel
theorem dX1_weightOn_7 : decode cX1_weightOn 7 = .ok (.if_icmp .ge 28, 3) := by decide +kernel
theorem dX1_weightOn_10 : decode cX1_weightOn 10 = .ok (.aload_n 0, 1) := by decide +kernel
theorem dX1_weightOn_11 : decode cX1_weightOn 11 = .ok (.getfield 28, 3) := by decide +kernel
theorem dX1_weightOn_14 : decode cX1_weightOn 14 = .ok (.iload_n 3, 1) := by decide +kernel
theorem dX1_weightOn_15 : decode cX1_weightOn 15 = .ok (.iaload, 1) := by decide +kernel
theorem dX1_weightOn_16 : decode cX1_weightOn 16 = .ok (.iload_n 1, 1) := by decide +kernel
theorem dX1_weightOn_17 : decode cX1_weightOn 17 = .ok (.if_icmp .ne 12, 3) := by decide +kernel
theorem dX1_weightOn_20 : decode cX1_weightOn 20 = .ok (.iload_n 2, 1) := by decide +kernel
theorem dX1_weightOn_21 : decode cX1_weightOn 21 = .ok (.aload_n 0, 1) := by decide +kernel
theorem dX1_weightOn_22 : decode cX1_weightOn 22 = .ok (.getfield 25, 3) := by decide +kernel
theorem dX1_weightOn_25 : decode cX1_weightOn 25 = .ok (.iload_n 3, 1) := by decide +kernel
theorem dX1_weightOn_26 : decode cX1_weightOn 26 = .ok (.iaload, 1) := by decide +kernel
theorem dX1_weightOn_27 : decode cX1_weightOn 27 = .ok (.iadd, 1) := by decide +kernel
theorem dX1_weightOn_28 : decode cX1_weightOn 28 = .ok (.istore_n 2, 1) := by decide +kernel
theorem dX1_weightOn_29 : decode cX1_weightOn 29 = .ok (.iinc 3 1, 3) := by decide +kernel
theorem dX1_weightOn_32 : decode cX1_weightOn 32 = .ok (.goto (-28), 3) := by decide +kernel
theorem dX1_weightOn_35 : decode cX1_weightOn 35 = .ok (.iload_n 2, 1) := by decide +kernel
theorem dX1_weightOn_36 : decode cX1_weightOn 36 = .ok (.ireturn, 1) := by decide +kernel
set_option maxRecDepth 20000 in
theorem ggX1_bears_X1_weightOn : GoodIn wsX1_bears wsX1_weightOn := goodIn_r _ [9, 1, 2, 13, 14, 15, 16, 17, 18, 19, 20] (by decide +kernel) (by decide +kernel)
set_option maxRecDepth 20000 in
theorem gX1_bears_X1_weightOn : GoodIn wsX1_bears (wsV RX1 47 RX1 yX1_weightOn wsX1_weightOn) := goodIn_app (goodIn_of _ (by decide +kernel)) ggX1_bears_X1_weightOn
set_option maxRecDepth 20000 in
theorem ggX1_bears_X1_cell : GoodIn wsX1_bears wsX1_cell := goodIn_r _ [12] (by decide +kernel) (by decide +kernel)
set_option maxRecDepth 20000 in
theorem gX1_bears_X1_cell : GoodIn wsX1_bears (va_wsS RX1 43 yX1_cell wsX1_cell) := goodIn_app (goodIn_of _ (by decide +kernel)) ggX1_bears_X1_cell
theorem dX1_bears_0 : decode cX1_bears 0 = .ok (.aload_n 0, 1) := by decide +kernel
theorem dX1_bears_1 : decode cX1_bears 1 = .ok (.iload_n 2, 1) := by decide +kernel
theorem dX1_bears_2 : decode cX1_bears 2 = .ok (.invokevirtual 47, 3) := by decide +kernel
theorem dX1_bears_5 : decode cX1_bears 5 = .ok (.aload_n 0, 1) := by decide +kernel
theorem dX1_bears_6 : decode cX1_bears 6 = .ok (.getfield 28, 3) := by decide +kernel
theorem dX1_bears_9 : decode cX1_bears 9 = .ok (.iload_n 1, 1) := by decide +kernel
theorem dX1_bears_10 : decode cX1_bears 10 = .ok (.iaload, 1) := by decide +kernel
theorem dX1_bears_11 : decode cX1_bears 11 = .ok (.iload_n 2, 1) := by decide +kernel
theorem dX1_bears_12 : decode cX1_bears 12 = .ok (.if_icmp .ne 12, 3) := by decide +kernel
theorem dX1_bears_15 : decode cX1_bears 15 = .ok (.aload_n 0, 1) := by decide +kernel
theorem dX1_bears_16 : decode cX1_bears 16 = .ok (.getfield 25, 3) := by decide +kernel
theorem dX1_bears_19 : decode cX1_bears 19 = .ok (.iload_n 1, 1) := by decide +kernel
theorem dX1_bears_20 : decode cX1_bears 20 = .ok (.iaload, 1) := by decide +kernel
theorem dX1_bears_21 : decode cX1_bears 21 = .ok (.goto 4, 3) := by decide +kernel
theorem dX1_bears_24 : decode cX1_bears 24 = .ok (.iconst 0, 1) := by decide +kernel
theorem dX1_bears_25 : decode cX1_bears 25 = .ok (.isub, 1) := by decide +kernel
theorem dX1_bears_26 : decode cX1_bears 26 = .ok (.istore_n 3, 1) := by decide +kernel
theorem dX1_bears_27 : decode cX1_bears 27 = .ok (.iload_n 3, 1) := by decide +kernel
theorem dX1_bears_28 : decode cX1_bears 28 = .ok (.aload_n 0, 1) := by decide +kernel
theorem dX1_bears_29 : decode cX1_bears 29 = .ok (.getfield 25, 3) := by decide +kernel
theorem dX1_bears_32 : decode cX1_bears 32 = .ok (.iload_n 1, 1) := by decide +kernel
theorem dX1_bears_33 : decode cX1_bears 33 = .ok (.iaload, 1) := by decide +kernel
theorem dX1_bears_34 : decode cX1_bears 34 = .ok (.iadd, 1) := by decide +kernel
theorem dX1_bears_35 : decode cX1_bears 35 = .ok (.aload_n 0, 1) := by decide +kernel
theorem dX1_bears_36 : decode cX1_bears 36 = .ok (.getfield 22, 3) := by decide +kernel
theorem dX1_bears_39 : decode cX1_bears 39 = .ok (.aload_n 0, 1) := by decide +kernel
theorem dX1_bears_40 : decode cX1_bears 40 = .ok (.getfield 9, 3) := by decide +kernel
theorem dX1_bears_43 : decode cX1_bears 43 = .ok (.iload_n 2, 1) := by decide +kernel
theorem dX1_bears_44 : decode cX1_bears 44 = .ok (.invokestatic 43, 3) := by decide +kernel
theorem dX1_bears_47 : decode cX1_bears 47 = .ok (.iaload, 1) := by decide +kernel
theorem dX1_bears_48 : decode cX1_bears 48 = .ok (.if_icmp .gt 7, 3) := by decide +kernel
theorem dX1_bears_51 : decode cX1_bears 51 = .ok (.iconst 1, 1) := by decide +kernel
theorem dX1_bears_52 : decode cX1_bears 52 = .ok (.goto 4, 3) := by decide +kernel
theorem dX1_bears_55 : decode cX1_bears 55 = .ok (.iconst 0, 1) := by decide +kernel
theorem dX1_bears_56 : decode cX1_bears 56 = .ok (.ireturn, 1) := by decide +kernel
theorem dX1_isClear_0 : decode cX1_isClear 0 = .ok (.iconst 0, 1) := by decide +kernel
theorem dX1_isClear_1 : decode cX1_isClear 1 = .ok (.istore 4, 2) := by decide +kernel
theorem dX1_isClear_3 : decode cX1_isClear 3 = .ok (.iload 4, 2) := by decide +kernel
theorem dX1_isClear_5 : decode cX1_isClear 5 = .ok (.bipush 10, 2) := by decide +kernel
theorem dX1_isClear_7 : decode cX1_isClear 7 = .ok (.if_icmp .ge 44, 3) := by decide +kernel
theorem dX1_isClear_10 : decode cX1_isClear 10 = .ok (.iload 4, 2) := by decide +kernel
theorem dX1_isClear_12 : decode cX1_isClear 12 = .ok (.iload_n 1, 1) := by decide +kernel
theorem dX1_isClear_13 : decode cX1_isClear 13 = .ok (.if_icmp .eq 32, 3) := by decide +kernel
theorem dX1_isClear_16 : decode cX1_isClear 16 = .ok (.aload_n 0, 1) := by decide +kernel
theorem dX1_isClear_17 : decode cX1_isClear 17 = .ok (.getfield 28, 3) := by decide +kernel
theorem dX1_isClear_20 : decode cX1_isClear 20 = .ok (.iload 4, 2) := by decide +kernel
theorem dX1_isClear_22 : decode cX1_isClear 22 = .ok (.iaload, 1) := by decide +kernel
theorem dX1_isClear_23 : decode cX1_isClear 23 = .ok (.iload_n 2, 1) := by decide +kernel
theorem dX1_isClear_24 : decode cX1_isClear 24 = .ok (.if_icmp .ne 21, 3) := by decide +kernel
theorem dX1_isClear_27 : decode cX1_isClear 27 = .ok (.aload_n 0, 1) := by decide +kernel
theorem dX1_isClear_28 : decode cX1_isClear 28 = .ok (.getfield 40, 3) := by decide +kernel
theorem dX1_isClear_31 : decode cX1_isClear 31 = .ok (.iload 4, 2) := by decide +kernel
theorem dX1_isClear_33 : decode cX1_isClear 33 = .ok (.iaload, 1) := by decide +kernel
theorem dX1_isClear_34 : decode cX1_isClear 34 = .ok (.iload_n 3, 1) := by decide +kernel
theorem dX1_isClear_35 : decode cX1_isClear 35 = .ok (.isub, 1) := by decide +kernel
theorem dX1_isClear_36 : decode cX1_isClear 36 = .ok (.invokestatic 51, 3) := by decide +kernel
theorem dX1_isClear_39 : decode cX1_isClear 39 = .ok (.iconst 3, 1) := by decide +kernel
theorem dX1_isClear_40 : decode cX1_isClear 40 = .ok (.if_icmp .ge 5, 3) := by decide +kernel
theorem dX1_isClear_43 : decode cX1_isClear 43 = .ok (.iconst 0, 1) := by decide +kernel
theorem dX1_isClear_44 : decode cX1_isClear 44 = .ok (.ireturn, 1) := by decide +kernel
theorem dX1_isClear_45 : decode cX1_isClear 45 = .ok (.iinc 4 1, 3) := by decide +kernel
theorem dX1_isClear_48 : decode cX1_isClear 48 = .ok (.goto (-45), 3) := by decide +kernel
theorem dX1_isClear_51 : decode cX1_isClear 51 = .ok (.iconst 1, 1) := by decide +kernel
theorem dX1_isClear_52 : decode cX1_isClear 52 = .ok (.ireturn, 1) := by decide +kernel
set_option maxRecDepth 20000 in
theorem ggX1_ranked_X1_countBelow : GoodIn wsX1_ranked wsX1_countBelow := goodIn_r _ [7, 1, 2, 8, 9, 10, 11, 12, 13, 14, 15] (by decide +kernel) (by decide +kernel)
set_option maxRecDepth 20000 in
theorem gX1_ranked_X1_countBelow : GoodIn wsX1_ranked (wsV RX1 56 RX1 yX1_countBelow wsX1_countBelow) := goodIn_app (goodIn_of _ (by decide +kernel)) ggX1_ranked_X1_countBelow
theorem dX1_ranked_0 : decode cX1_ranked 0 = .ok (.iconst 0, 1) := by decide +kernel
theorem dX1_ranked_1 : decode cX1_ranked 1 = .ok (.istore_n 3, 1) := by decide +kernel
theorem dX1_ranked_2 : decode cX1_ranked 2 = .ok (.iload_n 3, 1) := by decide +kernel
theorem dX1_ranked_3 : decode cX1_ranked 3 = .ok (.bipush 10, 2) := by decide +kernel
theorem dX1_ranked_5 : decode cX1_ranked 5 = .ok (.if_icmp .ge 36, 3) := by decide +kernel
theorem dX1_ranked_8 : decode cX1_ranked 8 = .ok (.aload_n 0, 1) := by decide +kernel
theorem dX1_ranked_9 : decode cX1_ranked 9 = .ok (.getfield 28, 3) := by decide +kernel
theorem dX1_ranked_12 : decode cX1_ranked 12 = .ok (.iload_n 3, 1) := by decide +kernel
theorem dX1_ranked_13 : decode cX1_ranked 13 = .ok (.iaload, 1) := by decide +kernel
theorem dX1_ranked_14 : decode cX1_ranked 14 = .ok (.iload_n 1, 1) := by decide +kernel
theorem dX1_ranked_15 : decode cX1_ranked 15 = .ok (.if_icmp .ne 20, 3) := by decide +kernel
theorem dX1_ranked_18 : decode cX1_ranked 18 = .ok (.aload_n 0, 1) := by decide +kernel
theorem dX1_ranked_19 : decode cX1_ranked 19 = .ok (.iload_n 1, 1) := by decide +kernel
theorem dX1_ranked_20 : decode cX1_ranked 20 = .ok (.aload_n 0, 1) := by decide +kernel
theorem dX1_ranked_21 : decode cX1_ranked 21 = .ok (.getfield 40, 3) := by decide +kernel
theorem dX1_ranked_24 : decode cX1_ranked 24 = .ok (.iload_n 3, 1) := by decide +kernel
theorem dX1_ranked_25 : decode cX1_ranked 25 = .ok (.iaload, 1) := by decide +kernel
theorem dX1_ranked_26 : decode cX1_ranked 26 = .ok (.invokevirtual 56, 3) := by decide +kernel
theorem dX1_ranked_29 : decode cX1_ranked 29 = .ok (.iload_n 2, 1) := by decide +kernel
theorem dX1_ranked_30 : decode cX1_ranked 30 = .ok (.if_icmp .ne 5, 3) := by decide +kernel
theorem dX1_ranked_33 : decode cX1_ranked 33 = .ok (.iload_n 3, 1) := by decide +kernel
theorem dX1_ranked_34 : decode cX1_ranked 34 = .ok (.ireturn, 1) := by decide +kernel
theorem dX1_ranked_35 : decode cX1_ranked 35 = .ok (.iinc 3 1, 3) := by decide +kernel
theorem dX1_ranked_38 : decode cX1_ranked 38 = .ok (.goto (-36), 3) := by decide +kernel
theorem dX1_ranked_41 : decode cX1_ranked 41 = .ok (.iconst (-1), 1) := by decide +kernel
theorem dX1_ranked_42 : decode cX1_ranked 42 = .ok (.ireturn, 1) := by decide +kernel
theorem dX1_countBelow_0 : decode cX1_countBelow 0 = .ok (.iconst 0, 1) := by decide +kernel
theorem dX1_countBelow_1 : decode cX1_countBelow 1 = .ok (.istore_n 3, 1) := by decide +kernel
theorem dX1_countBelow_2 : decode cX1_countBelow 2 = .ok (.iconst 0, 1) := by decide +kernel
theorem dX1_countBelow_3 : decode cX1_countBelow 3 = .ok (.istore 4, 2) := by decide +kernel
theorem dX1_countBelow_5 : decode cX1_countBelow 5 = .ok (.iload 4, 2) := by decide +kernel
theorem dX1_countBelow_7 : decode cX1_countBelow 7 = .ok (.bipush 10, 2) := by decide +kernel
theorem dX1_countBelow_9 : decode cX1_countBelow 9 = .ok (.if_icmp .ge 34, 3) := by decide +kernel
theorem dX1_countBelow_12 : decode cX1_countBelow 12 = .ok (.aload_n 0, 1) := by decide +kernel
theorem dX1_countBelow_13 : decode cX1_countBelow 13 = .ok (.getfield 28, 3) := by decide +kernel
theorem dX1_countBelow_16 : decode cX1_countBelow 16 = .ok (.iload 4, 2) := by decide +kernel
theorem dX1_countBelow_18 : decode cX1_countBelow 18 = .ok (.iaload, 1) := by decide +kernel
theorem dX1_countBelow_19 : decode cX1_countBelow 19 = .ok (.iload_n 1, 1) := by decide +kernel
theorem dX1_countBelow_20 : decode cX1_countBelow 20 = .ok (.if_icmp .ne 17, 3) := by decide +kernel
theorem dX1_countBelow_23 : decode cX1_countBelow 23 = .ok (.aload_n 0, 1) := by decide +kernel
theorem dX1_countBelow_24 : decode cX1_countBelow 24 = .ok (.getfield 40, 3) := by decide +kernel
theorem dX1_countBelow_27 : decode cX1_countBelow 27 = .ok (.iload 4, 2) := by decide +kernel
theorem dX1_countBelow_29 : decode cX1_countBelow 29 = .ok (.iaload, 1) := by decide +kernel
theorem dX1_countBelow_30 : decode cX1_countBelow 30 = .ok (.iload_n 2, 1) := by decide +kernel
theorem dX1_countBelow_31 : decode cX1_countBelow 31 = .ok (.if_icmp .ge 6, 3) := by decide +kernel
theorem dX1_countBelow_34 : decode cX1_countBelow 34 = .ok (.iinc 3 1, 3) := by decide +kernel
theorem dX1_countBelow_37 : decode cX1_countBelow 37 = .ok (.iinc 4 1, 3) := by decide +kernel
theorem dX1_countBelow_40 : decode cX1_countBelow 40 = .ok (.goto (-35), 3) := by decide +kernel
theorem dX1_countBelow_43 : decode cX1_countBelow 43 = .ok (.iload_n 3, 1) := by decide +kernel
theorem dX1_countBelow_44 : decode cX1_countBelow 44 = .ok (.ireturn, 1) := by decide +kernel
set_option maxRecDepth 20000 in
theorem ggX1_changeHouse_X1_hangAgain : GoodIn wsX1_changeHouse wsX1_hangAgain := goodIn_r _ [8, 9, 10, 11, 12, 7, 13, 14, 3, 15, 16, 17, 18, 2, 19, 20, 21, 22, 23, 24, 25, 26, 27, 28, 29, 30, 31, 32, 33, 34, 35, 36, 37, 38, 39, 40, 41, 42, 43, 44, 45, 46, 47, 48, 49, 50, 51, 52, 53, 54, 55, 56] (by decide +kernel) (by decide +kernel)
set_option maxRecDepth 20000 in
theorem gX1_changeHouse_X1_hangAgain : GoodIn wsX1_changeHouse (wsV RX1 59 RX1 yX1_hangAgain wsX1_hangAgain) := goodIn_app (goodIn_of _ (by decide +kernel)) ggX1_changeHouse_X1_hangAgain
theorem dX1_changeHouse_0 : decode cX1_changeHouse 0 = .ok (.iconst 0, 1) := by decide +kernel
theorem dX1_changeHouse_1 : decode cX1_changeHouse 1 = .ok (.istore_n 1, 1) := by decide +kernel
theorem dX1_changeHouse_2 : decode cX1_changeHouse 2 = .ok (.iload_n 1, 1) := by decide +kernel
theorem dX1_changeHouse_3 : decode cX1_changeHouse 3 = .ok (.bipush 10, 2) := by decide +kernel
theorem dX1_changeHouse_5 : decode cX1_changeHouse 5 = .ok (.if_icmp .ge 28, 3) := by decide +kernel
theorem dX1_changeHouse_8 : decode cX1_changeHouse 8 = .ok (.aload_n 0, 1) := by decide +kernel
theorem dX1_changeHouse_9 : decode cX1_changeHouse 9 = .ok (.getfield 37, 3) := by decide +kernel
theorem dX1_changeHouse_12 : decode cX1_changeHouse 12 = .ok (.iload_n 1, 1) := by decide +kernel
theorem dX1_changeHouse_13 : decode cX1_changeHouse 13 = .ok (.aload_n 0, 1) := by decide +kernel
theorem dX1_changeHouse_14 : decode cX1_changeHouse 14 = .ok (.getfield 28, 3) := by decide +kernel
theorem dX1_changeHouse_17 : decode cX1_changeHouse 17 = .ok (.iload_n 1, 1) := by decide +kernel
theorem dX1_changeHouse_18 : decode cX1_changeHouse 18 = .ok (.iaload, 1) := by decide +kernel
theorem dX1_changeHouse_19 : decode cX1_changeHouse 19 = .ok (.iastore, 1) := by decide +kernel
theorem dX1_changeHouse_20 : decode cX1_changeHouse 20 = .ok (.aload_n 0, 1) := by decide +kernel
theorem dX1_changeHouse_21 : decode cX1_changeHouse 21 = .ok (.getfield 28, 3) := by decide +kernel
theorem dX1_changeHouse_24 : decode cX1_changeHouse 24 = .ok (.iload_n 1, 1) := by decide +kernel
theorem dX1_changeHouse_25 : decode cX1_changeHouse 25 = .ok (.iconst (-1), 1) := by decide +kernel
theorem dX1_changeHouse_26 : decode cX1_changeHouse 26 = .ok (.iastore, 1) := by decide +kernel
theorem dX1_changeHouse_27 : decode cX1_changeHouse 27 = .ok (.iinc 1 1, 3) := by decide +kernel
theorem dX1_changeHouse_30 : decode cX1_changeHouse 30 = .ok (.goto (-28), 3) := by decide +kernel
theorem dX1_changeHouse_33 : decode cX1_changeHouse 33 = .ok (.aload_n 0, 1) := by decide +kernel
theorem dX1_changeHouse_34 : decode cX1_changeHouse 34 = .ok (.aload_n 0, 1) := by decide +kernel
theorem dX1_changeHouse_35 : decode cX1_changeHouse 35 = .ok (.getfield 9, 3) := by decide +kernel
theorem dX1_changeHouse_38 : decode cX1_changeHouse 38 = .ok (.ifCond .ne 7, 3) := by decide +kernel
theorem dX1_changeHouse_41 : decode cX1_changeHouse 41 = .ok (.iconst 1, 1) := by decide +kernel
theorem dX1_changeHouse_42 : decode cX1_changeHouse 42 = .ok (.goto 4, 3) := by decide +kernel
theorem dX1_changeHouse_45 : decode cX1_changeHouse 45 = .ok (.iconst 0, 1) := by decide +kernel
theorem dX1_changeHouse_46 : decode cX1_changeHouse 46 = .ok (.putfield 9, 3) := by decide +kernel
theorem dX1_changeHouse_49 : decode cX1_changeHouse 49 = .ok (.iconst 0, 1) := by decide +kernel
theorem dX1_changeHouse_50 : decode cX1_changeHouse 50 = .ok (.istore_n 1, 1) := by decide +kernel
theorem dX1_changeHouse_51 : decode cX1_changeHouse 51 = .ok (.iconst 0, 1) := by decide +kernel
theorem dX1_changeHouse_52 : decode cX1_changeHouse 52 = .ok (.istore_n 2, 1) := by decide +kernel
theorem dX1_changeHouse_53 : decode cX1_changeHouse 53 = .ok (.iload_n 2, 1) := by decide +kernel
theorem dX1_changeHouse_54 : decode cX1_changeHouse 54 = .ok (.bipush 10, 2) := by decide +kernel
theorem dX1_changeHouse_56 : decode cX1_changeHouse 56 = .ok (.if_icmp .ge 36, 3) := by decide +kernel
theorem dX1_changeHouse_59 : decode cX1_changeHouse 59 = .ok (.aload_n 0, 1) := by decide +kernel
theorem dX1_changeHouse_60 : decode cX1_changeHouse 60 = .ok (.getfield 37, 3) := by decide +kernel
theorem dX1_changeHouse_63 : decode cX1_changeHouse 63 = .ok (.iload_n 2, 1) := by decide +kernel
theorem dX1_changeHouse_64 : decode cX1_changeHouse 64 = .ok (.iaload, 1) := by decide +kernel
theorem dX1_changeHouse_65 : decode cX1_changeHouse 65 = .ok (.iconst (-1), 1) := by decide +kernel
theorem dX1_changeHouse_66 : decode cX1_changeHouse 66 = .ok (.if_icmp .eq 20, 3) := by decide +kernel
theorem dX1_changeHouse_69 : decode cX1_changeHouse 69 = .ok (.aload_n 0, 1) := by decide +kernel
theorem dX1_changeHouse_70 : decode cX1_changeHouse 70 = .ok (.iload_n 2, 1) := by decide +kernel
theorem dX1_changeHouse_71 : decode cX1_changeHouse 71 = .ok (.aload_n 0, 1) := by decide +kernel
theorem dX1_changeHouse_72 : decode cX1_changeHouse 72 = .ok (.getfield 37, 3) := by decide +kernel
theorem dX1_changeHouse_75 : decode cX1_changeHouse 75 = .ok (.iload_n 2, 1) := by decide +kernel
theorem dX1_changeHouse_76 : decode cX1_changeHouse 76 = .ok (.iaload, 1) := by decide +kernel
theorem dX1_changeHouse_77 : decode cX1_changeHouse 77 = .ok (.invokevirtual 59, 3) := by decide +kernel
theorem dX1_changeHouse_80 : decode cX1_changeHouse 80 = .ok (.ifCond .ne 6, 3) := by decide +kernel
theorem dX1_changeHouse_83 : decode cX1_changeHouse 83 = .ok (.iinc 1 1, 3) := by decide +kernel
theorem dX1_changeHouse_86 : decode cX1_changeHouse 86 = .ok (.iinc 2 1, 3) := by decide +kernel
theorem dX1_changeHouse_89 : decode cX1_changeHouse 89 = .ok (.goto (-36), 3) := by decide +kernel
theorem dX1_changeHouse_92 : decode cX1_changeHouse 92 = .ok (.iload_n 1, 1) := by decide +kernel
theorem dX1_changeHouse_93 : decode cX1_changeHouse 93 = .ok (.ireturn, 1) := by decide +kernel
set_option maxRecDepth 20000 in
theorem ggX1_hangAgain_X1_hasBar : GoodIn wsX1_hangAgain wsX1_hasBar := goodIn_r _ [6, 7, 8, 44, 45, 46, 47, 48, 49, 50, 51] (by decide +kernel) (by decide +kernel)
set_option maxRecDepth 20000 in
theorem gX1_hangAgain_X1_hasBar : GoodIn wsX1_hangAgain (wsV RX1 63 RX1 yX1_hasBar wsX1_hasBar) := goodIn_app (goodIn_of _ (by decide +kernel)) ggX1_hangAgain_X1_hasBar
set_option maxRecDepth 20000 in
theorem ggX1_hangAgain_X1_bears : GoodIn wsX1_hangAgain wsX1_bears := goodIn_r _ [12, 13, 14, 15, 8, 16, 17, 18, 5, 19, 20, 21, 22, 44, 45, 46, 47, 48, 49, 50, 51] (by decide +kernel) (by decide +kernel)
set_option maxRecDepth 20000 in
theorem gX1_hangAgain_X1_bears : GoodIn wsX1_hangAgain (wsV RX1 67 RX1 yX1_bears wsX1_bears) := goodIn_app (goodIn_of _ (by decide +kernel)) ggX1_hangAgain_X1_bears
set_option maxRecDepth 20000 in
theorem ggX1_hangAgain_X1_nearestPlace : GoodIn wsX1_hangAgain wsX1_nearestPlace := goodIn_r _ [26, 27, 28, 29, 5, 30, 31, 8, 20, 21, 22, 32, 33, 34, 35, 13, 1, 36, 37, 38, 39, 44, 45, 46, 47, 48, 49, 50, 51] (by decide +kernel) (by decide +kernel)
set_option maxRecDepth 20000 in
theorem gX1_hangAgain_X1_nearestPlace : GoodIn wsX1_hangAgain (wsV RX1 70 RX1 yX1_nearestPlace wsX1_nearestPlace) := goodIn_app (goodIn_of _ (by decide +kernel)) ggX1_hangAgain_X1_nearestPlace
set_option maxRecDepth 20000 in
theorem ggX1_hangAgain_X1_put : GoodIn wsX1_hangAgain wsX1_put := goodIn_r _ [43, 13, 1, 44, 45, 46, 47, 48, 49, 50, 51] (by decide +kernel) (by decide +kernel)
set_option maxRecDepth 20000 in
theorem gX1_hangAgain_X1_put : GoodIn wsX1_hangAgain (wsV RX1 74 RX1 yX1_put wsX1_put) := goodIn_app (goodIn_of _ (by decide +kernel)) ggX1_hangAgain_X1_put
theorem dX1_hangAgain_0 : decode cX1_hangAgain 0 = .ok (.aload_n 0, 1) := by decide +kernel
theorem dX1_hangAgain_1 : decode cX1_hangAgain 1 = .ok (.iload_n 2, 1) := by decide +kernel
theorem dX1_hangAgain_2 : decode cX1_hangAgain 2 = .ok (.invokevirtual 63, 3) := by decide +kernel
theorem dX1_hangAgain_5 : decode cX1_hangAgain 5 = .ok (.ifCond .eq 12, 3) := by decide +kernel
theorem dX1_hangAgain_8 : decode cX1_hangAgain 8 = .ok (.aload_n 0, 1) := by decide +kernel
theorem dX1_hangAgain_9 : decode cX1_hangAgain 9 = .ok (.iload_n 1, 1) := by decide +kernel
theorem dX1_hangAgain_10 : decode cX1_hangAgain 10 = .ok (.iload_n 2, 1) := by decide +kernel
theorem dX1_hangAgain_11 : decode cX1_hangAgain 11 = .ok (.invokevirtual 67, 3) := by decide +kernel
theorem dX1_hangAgain_14 : decode cX1_hangAgain 14 = .ok (.ifCond .ne 5, 3) := by decide +kernel
theorem dX1_hangAgain_17 : decode cX1_hangAgain 17 = .ok (.iconst 0, 1) := by decide +kernel
theorem dX1_hangAgain_18 : decode cX1_hangAgain 18 = .ok (.ireturn, 1) := by decide +kernel
theorem dX1_hangAgain_19 : decode cX1_hangAgain 19 = .ok (.aload_n 0, 1) := by decide +kernel
theorem dX1_hangAgain_20 : decode cX1_hangAgain 20 = .ok (.iload_n 1, 1) := by decide +kernel
theorem dX1_hangAgain_21 : decode cX1_hangAgain 21 = .ok (.iload_n 2, 1) := by decide +kernel
theorem dX1_hangAgain_22 : decode cX1_hangAgain 22 = .ok (.aload_n 0, 1) := by decide +kernel
theorem dX1_hangAgain_23 : decode cX1_hangAgain 23 = .ok (.getfield 40, 3) := by decide +kernel
theorem dX1_hangAgain_26 : decode cX1_hangAgain 26 = .ok (.iload_n 1, 1) := by decide +kernel
theorem dX1_hangAgain_27 : decode cX1_hangAgain 27 = .ok (.iaload, 1) := by decide +kernel
theorem dX1_hangAgain_28 : decode cX1_hangAgain 28 = .ok (.invokevirtual 70, 3) := by decide +kernel
theorem dX1_hangAgain_31 : decode cX1_hangAgain 31 = .ok (.istore_n 3, 1) := by decide +kernel
theorem dX1_hangAgain_32 : decode cX1_hangAgain 32 = .ok (.iload_n 3, 1) := by decide +kernel
theorem dX1_hangAgain_33 : decode cX1_hangAgain 33 = .ok (.iconst (-1), 1) := by decide +kernel
theorem dX1_hangAgain_34 : decode cX1_hangAgain 34 = .ok (.if_icmp .ne 5, 3) := by decide +kernel
theorem dX1_hangAgain_37 : decode cX1_hangAgain 37 = .ok (.iconst 0, 1) := by decide +kernel
theorem dX1_hangAgain_38 : decode cX1_hangAgain 38 = .ok (.ireturn, 1) := by decide +kernel
theorem dX1_hangAgain_39 : decode cX1_hangAgain 39 = .ok (.aload_n 0, 1) := by decide +kernel
theorem dX1_hangAgain_40 : decode cX1_hangAgain 40 = .ok (.iload_n 1, 1) := by decide +kernel
theorem dX1_hangAgain_41 : decode cX1_hangAgain 41 = .ok (.iload_n 2, 1) := by decide +kernel
theorem dX1_hangAgain_42 : decode cX1_hangAgain 42 = .ok (.iload_n 3, 1) := by decide +kernel
theorem dX1_hangAgain_43 : decode cX1_hangAgain 43 = .ok (.invokevirtual 74, 3) := by decide +kernel
theorem dX1_hangAgain_46 : decode cX1_hangAgain 46 = .ok (.iconst 1, 1) := by decide +kernel
theorem dX1_hangAgain_47 : decode cX1_hangAgain 47 = .ok (.ireturn, 1) := by decide +kernel
set_option maxRecDepth 20000 in
theorem ggX1_nearestPlace_X1_hasPlace : GoodIn wsX1_nearestPlace wsX1_hasPlace := goodIn_r _ [5, 6, 7, 8, 9, 4, 10, 21, 22, 23, 24, 25, 26, 27, 28] (by decide +kernel) (by decide +kernel)
set_option maxRecDepth 20000 in
theorem gX1_nearestPlace_X1_hasPlace : GoodIn wsX1_nearestPlace (wsV RX1 78 RX1 yX1_hasPlace wsX1_hasPlace) := goodIn_app (goodIn_of _ (by decide +kernel)) ggX1_nearestPlace_X1_hasPlace
set_option maxRecDepth 20000 in
theorem ggX1_nearestPlace_X1_isClear : GoodIn wsX1_nearestPlace wsX1_isClear := goodIn_r _ [14, 15, 16, 17, 18, 19, 20, 21, 22, 23, 24, 25, 26, 27, 28] (by decide +kernel) (by decide +kernel)
set_option maxRecDepth 20000 in
theorem gX1_nearestPlace_X1_isClear : GoodIn wsX1_nearestPlace (wsV RX1 81 RX1 yX1_isClear wsX1_isClear) := goodIn_app (goodIn_of _ (by decide +kernel)) ggX1_nearestPlace_X1_isClear
theorem dX1_nearestPlace_0 : decode cX1_nearestPlace 0 = .ok (.iconst 0, 1) := by decide +kernel
theorem dX1_nearestPlace_1 : decode cX1_nearestPlace 1 = .ok (.istore 4, 2) := by decide +kernel
theorem dX1_nearestPlace_3 : decode cX1_nearestPlace 3 = .ok (.iload 4, 2) := by decide +kernel
theorem dX1_nearestPlace_5 : decode cX1_nearestPlace 5 = .ok (.bipush 100, 2) := by decide +kernel
theorem dX1_nearestPlace_7 : decode cX1_nearestPlace 7 = .ok (.if_icmp .gt 69, 3) := by decide +kernel
theorem dX1_nearestPlace_10 : decode cX1_nearestPlace 10 = .ok (.aload_n 0, 1) := by decide +kernel
theorem dX1_nearestPlace_11 : decode cX1_nearestPlace 11 = .ok (.iload_n 2, 1) := by decide +kernel
theorem dX1_nearestPlace_12 : decode cX1_nearestPlace 12 = .ok (.iload_n 3, 1) := by decide +kernel
theorem dX1_nearestPlace_13 : decode cX1_nearestPlace 13 = .ok (.iload 4, 2) := by decide +kernel
theorem dX1_nearestPlace_15 : decode cX1_nearestPlace 15 = .ok (.isub, 1) := by decide +kernel
theorem dX1_nearestPlace_16 : decode cX1_nearestPlace 16 = .ok (.invokevirtual 78, 3) := by decide +kernel
theorem dX1_nearestPlace_19 : decode cX1_nearestPlace 19 = .ok (.ifCond .eq 21, 3) := by decide +kernel
theorem dX1_nearestPlace_22 : decode cX1_nearestPlace 22 = .ok (.aload_n 0, 1) := by decide +kernel
theorem dX1_nearestPlace_23 : decode cX1_nearestPlace 23 = .ok (.iload_n 1, 1) := by decide +kernel
theorem dX1_nearestPlace_24 : decode cX1_nearestPlace 24 = .ok (.iload_n 2, 1) := by decide +kernel
theorem dX1_nearestPlace_25 : decode cX1_nearestPlace 25 = .ok (.iload_n 3, 1) := by decide +kernel
theorem dX1_nearestPlace_26 : decode cX1_nearestPlace 26 = .ok (.iload 4, 2) := by decide +kernel
theorem dX1_nearestPlace_28 : decode cX1_nearestPlace 28 = .ok (.isub, 1) := by decide +kernel
theorem dX1_nearestPlace_29 : decode cX1_nearestPlace 29 = .ok (.invokevirtual 81, 3) := by decide +kernel
theorem dX1_nearestPlace_32 : decode cX1_nearestPlace 32 = .ok (.ifCond .eq 8, 3) := by decide +kernel
theorem dX1_nearestPlace_35 : decode cX1_nearestPlace 35 = .ok (.iload_n 3, 1) := by decide +kernel
theorem dX1_nearestPlace_36 : decode cX1_nearestPlace 36 = .ok (.iload 4, 2) := by decide +kernel
theorem dX1_nearestPlace_38 : decode cX1_nearestPlace 38 = .ok (.isub, 1) := by decide +kernel
theorem dX1_nearestPlace_39 : decode cX1_nearestPlace 39 = .ok (.ireturn, 1) := by decide +kernel
theorem dX1_nearestPlace_40 : decode cX1_nearestPlace 40 = .ok (.aload_n 0, 1) := by decide +kernel
theorem dX1_nearestPlace_41 : decode cX1_nearestPlace 41 = .ok (.iload_n 2, 1) := by decide +kernel
theorem dX1_nearestPlace_42 : decode cX1_nearestPlace 42 = .ok (.iload_n 3, 1) := by decide +kernel
theorem dX1_nearestPlace_43 : decode cX1_nearestPlace 43 = .ok (.iload 4, 2) := by decide +kernel
theorem dX1_nearestPlace_45 : decode cX1_nearestPlace 45 = .ok (.iadd, 1) := by decide +kernel
theorem dX1_nearestPlace_46 : decode cX1_nearestPlace 46 = .ok (.invokevirtual 78, 3) := by decide +kernel
theorem dX1_nearestPlace_49 : decode cX1_nearestPlace 49 = .ok (.ifCond .eq 21, 3) := by decide +kernel
theorem dX1_nearestPlace_52 : decode cX1_nearestPlace 52 = .ok (.aload_n 0, 1) := by decide +kernel
theorem dX1_nearestPlace_53 : decode cX1_nearestPlace 53 = .ok (.iload_n 1, 1) := by decide +kernel
theorem dX1_nearestPlace_54 : decode cX1_nearestPlace 54 = .ok (.iload_n 2, 1) := by decide +kernel
theorem dX1_nearestPlace_55 : decode cX1_nearestPlace 55 = .ok (.iload_n 3, 1) := by decide +kernel
theorem dX1_nearestPlace_56 : decode cX1_nearestPlace 56 = .ok (.iload 4, 2) := by decide +kernel
theorem dX1_nearestPlace_58 : decode cX1_nearestPlace 58 = .ok (.iadd, 1) := by decide +kernel
theorem dX1_nearestPlace_59 : decode cX1_nearestPlace 59 = .ok (.invokevirtual 81, 3) := by decide +kernel
theorem dX1_nearestPlace_62 : decode cX1_nearestPlace 62 = .ok (.ifCond .eq 8, 3) := by decide +kernel
theorem dX1_nearestPlace_65 : decode cX1_nearestPlace 65 = .ok (.iload_n 3, 1) := by decide +kernel
theorem dX1_nearestPlace_66 : decode cX1_nearestPlace 66 = .ok (.iload 4, 2) := by decide +kernel
theorem dX1_nearestPlace_68 : decode cX1_nearestPlace 68 = .ok (.iadd, 1) := by decide +kernel
theorem dX1_nearestPlace_69 : decode cX1_nearestPlace 69 = .ok (.ireturn, 1) := by decide +kernel
theorem dX1_nearestPlace_70 : decode cX1_nearestPlace 70 = .ok (.iinc 4 1, 3) := by decide +kernel
theorem dX1_nearestPlace_73 : decode cX1_nearestPlace 73 = .ok (.goto (-70), 3) := by decide +kernel
theorem dX1_nearestPlace_76 : decode cX1_nearestPlace 76 = .ok (.iconst (-1), 1) := by decide +kernel
theorem dX1_nearestPlace_77 : decode cX1_nearestPlace 77 = .ok (.ireturn, 1) := by decide +kernel
end
section
set_option maxRecDepth 20000 in
theorem ggX2_init_J7_fill_53178 : GoodIn wsX2_init wsJ7_fill_53178 := goodIn_r _ [19] (by decide +kernel) (by decide +kernel)
set_option maxRecDepth 20000 in
theorem gX2_init_J7_fill_53178 : GoodIn wsX2_init (va_wsS RX2 28 yJ7_fill_53178 wsJ7_fill_53178) := goodIn_app (goodIn_of _ (by decide +kernel)) ggX2_init_J7_fill_53178
theorem dX2_init_0 : decode cX2_init 0 = .ok (.aload_n 0, 1) := by decide +kernel
theorem dX2_init_1 : decode cX2_init 1 = .ok (.invokespecial 3, 3) := by decide +kernel
theorem dX2_init_4 : decode cX2_init 4 = .ok (.aload_n 0, 1) := by decide +kernel
theorem dX2_init_5 : decode cX2_init 5 = .ok (.iconst 0, 1) := by decide +kernel
theorem dX2_init_6 : decode cX2_init 6 = .ok (.putfield 9, 3) := by decide +kernel
theorem dX2_init_9 : decode cX2_init 9 = .ok (.aload_n 0, 1) := by decide +kernel
theorem dX2_init_10 : decode cX2_init 10 = .ok (.bipush 8, 2) := by decide +kernel
theorem dX2_init_12 : decode cX2_init 12 = .ok (.newarray .int, 2) := by decide +kernel
theorem dX2_init_14 : decode cX2_init 14 = .ok (.putfield 15, 3) := by decide +kernel
theorem dX2_init_17 : decode cX2_init 17 = .ok (.aload_n 0, 1) := by decide +kernel
theorem dX2_init_18 : decode cX2_init 18 = .ok (.bipush 8, 2) := by decide +kernel
theorem dX2_init_20 : decode cX2_init 20 = .ok (.newarray .int, 2) := by decide +kernel
theorem dX2_init_22 : decode cX2_init 22 = .ok (.putfield 19, 3) := by decide +kernel
theorem dX2_init_25 : decode cX2_init 25 = .ok (.aload_n 0, 1) := by decide +kernel
theorem dX2_init_26 : decode cX2_init 26 = .ok (.bipush 8, 2) := by decide +kernel
theorem dX2_init_28 : decode cX2_init 28 = .ok (.newarray .int, 2) := by decide +kernel
theorem dX2_init_30 : decode cX2_init 30 = .ok (.putfield 22, 3) := by decide +kernel
theorem dX2_init_33 : decode cX2_init 33 = .ok (.aload_n 0, 1) := by decide +kernel
theorem dX2_init_34 : decode cX2_init 34 = .ok (.bipush 80, 2) := by decide +kernel
theorem dX2_init_36 : decode cX2_init 36 = .ok (.newarray .int, 2) := by decide +kernel
theorem dX2_init_38 : decode cX2_init 38 = .ok (.putfield 25, 3) := by decide +kernel
theorem dX2_init_41 : decode cX2_init 41 = .ok (.aload_n 0, 1) := by decide +kernel
theorem dX2_init_42 : decode cX2_init 42 = .ok (.getfield 25, 3) := by decide +kernel
theorem dX2_init_45 : decode cX2_init 45 = .ok (.iconst (-1), 1) := by decide +kernel
theorem dX2_init_46 : decode cX2_init 46 = .ok (.invokestatic 28, 3) := by decide +kernel
theorem dX2_init_49 : decode cX2_init 49 = .ok (.aload_n 0, 1) := by decide +kernel
theorem dX2_init_50 : decode cX2_init 50 = .ok (.iconst 0, 1) := by decide +kernel
theorem dX2_init_51 : decode cX2_init 51 = .ok (.putfield 34, 3) := by decide +kernel
theorem dX2_init_54 : decode cX2_init 54 = .ok (.aload_n 0, 1) := by decide +kernel
theorem dX2_init_55 : decode cX2_init 55 = .ok (.iconst (-1), 1) := by decide +kernel
theorem dX2_init_56 : decode cX2_init 56 = .ok (.putfield 37, 3) := by decide +kernel
theorem dX2_init_59 : decode cX2_init 59 = .ok (.aload_n 0, 1) := by decide +kernel
theorem dX2_init_60 : decode cX2_init 60 = .ok (.bipush 8, 2) := by decide +kernel
theorem dX2_init_62 : decode cX2_init 62 = .ok (.newarray .int, 2) := by decide +kernel
theorem dX2_init_64 : decode cX2_init 64 = .ok (.putfield 40, 3) := by decide +kernel
theorem dX2_init_67 : decode cX2_init 67 = .ok (.aload_n 0, 1) := by decide +kernel
theorem dX2_init_68 : decode cX2_init 68 = .ok (.bipush 10, 2) := by decide +kernel
theorem dX2_init_70 : decode cX2_init 70 = .ok (.newarray .int, 2) := by decide +kernel
theorem dX2_init_72 : decode cX2_init 72 = .ok (.putfield 43, 3) := by decide +kernel
theorem dX2_init_75 : decode cX2_init 75 = .ok (.aload_n 0, 1) := by decide +kernel
theorem dX2_init_76 : decode cX2_init 76 = .ok (.getfield 43, 3) := by decide +kernel
theorem dX2_init_79 : decode cX2_init 79 = .ok (.iconst (-1), 1) := by decide +kernel
theorem dX2_init_80 : decode cX2_init 80 = .ok (.invokestatic 28, 3) := by decide +kernel
theorem dX2_init_83 : decode cX2_init 83 = .ok (.aload_n 0, 1) := by decide +kernel
theorem dX2_init_84 : decode cX2_init 84 = .ok (.bipush 10, 2) := by decide +kernel
theorem dX2_init_86 : decode cX2_init 86 = .ok (.newarray .int, 2) := by decide +kernel
theorem dX2_init_88 : decode cX2_init 88 = .ok (.putfield 46, 3) := by decide +kernel
theorem dX2_init_91 : decode cX2_init 91 = .ok (.aload_n 0, 1) := by decide +kernel
theorem dX2_init_92 : decode cX2_init 92 = .ok (.bipush 10, 2) := by decide +kernel
theorem dX2_init_94 : decode cX2_init 94 = .ok (.newarray .int, 2) := by decide +kernel
theorem dX2_init_96 : decode cX2_init 96 = .ok (.putfield 49, 3) := by decide +kernel
theorem dX2_init_99 : decode cX2_init 99 = .ok (.return_, 1) := by decide +kernel
theorem dX2_cell_0 : decode cX2_cell 0 = .ok (.iload_n 0, 1) := by decide +kernel
theorem dX2_cell_1 : decode cX2_cell 1 = .ok (.bipush 10, 2) := by decide +kernel
theorem dX2_cell_3 : decode cX2_cell 3 = .ok (.imul, 1) := by decide +kernel
theorem dX2_cell_4 : decode cX2_cell 4 = .ok (.iload_n 1, 1) := by decide +kernel
theorem dX2_cell_5 : decode cX2_cell 5 = .ok (.iadd, 1) := by decide +kernel
theorem dX2_cell_6 : decode cX2_cell 6 = .ok (.ireturn, 1) := by decide +kernel
theorem dX2_addCue_0 : decode cX2_addCue 0 = .ok (.aload_n 0, 1) := by decide +kernel
theorem dX2_addCue_1 : decode cX2_addCue 1 = .ok (.getfield 9, 3) := by decide +kernel
theorem dX2_addCue_4 : decode cX2_addCue 4 = .ok (.istore 4, 2) := by decide +kernel
theorem dX2_addCue_6 : decode cX2_addCue 6 = .ok (.aload_n 0, 1) := by decide +kernel
theorem dX2_addCue_7 : decode cX2_addCue 7 = .ok (.dup, 1) := by decide +kernel
theorem dX2_addCue_8 : decode cX2_addCue 8 = .ok (.getfield 9, 3) := by decide +kernel
theorem dX2_addCue_11 : decode cX2_addCue 11 = .ok (.iconst 1, 1) := by decide +kernel
theorem dX2_addCue_12 : decode cX2_addCue 12 = .ok (.iadd, 1) := by decide +kernel
theorem dX2_addCue_13 : decode cX2_addCue 13 = .ok (.putfield 9, 3) := by decide +kernel
theorem dX2_addCue_16 : decode cX2_addCue 16 = .ok (.aload_n 0, 1) := by decide +kernel
theorem dX2_addCue_17 : decode cX2_addCue 17 = .ok (.getfield 15, 3) := by decide +kernel
theorem dX2_addCue_20 : decode cX2_addCue 20 = .ok (.iload 4, 2) := by decide +kernel
theorem dX2_addCue_22 : decode cX2_addCue 22 = .ok (.iload_n 1, 1) := by decide +kernel
theorem dX2_addCue_23 : decode cX2_addCue 23 = .ok (.iastore, 1) := by decide +kernel
theorem dX2_addCue_24 : decode cX2_addCue 24 = .ok (.aload_n 0, 1) := by decide +kernel
theorem dX2_addCue_25 : decode cX2_addCue 25 = .ok (.getfield 19, 3) := by decide +kernel
theorem dX2_addCue_28 : decode cX2_addCue 28 = .ok (.iload 4, 2) := by decide +kernel
theorem dX2_addCue_30 : decode cX2_addCue 30 = .ok (.iload_n 2, 1) := by decide +kernel
theorem dX2_addCue_31 : decode cX2_addCue 31 = .ok (.iastore, 1) := by decide +kernel
theorem dX2_addCue_32 : decode cX2_addCue 32 = .ok (.aload_n 0, 1) := by decide +kernel
theorem dX2_addCue_33 : decode cX2_addCue 33 = .ok (.getfield 22, 3) := by decide +kernel
theorem dX2_addCue_36 : decode cX2_addCue 36 = .ok (.iload 4, 2) := by decide +kernel
theorem dX2_addCue_38 : decode cX2_addCue 38 = .ok (.iload_n 3, 1) := by decide +kernel
theorem dX2_addCue_39 : decode cX2_addCue 39 = .ok (.iastore, 1) := by decide +kernel
theorem dX2_addCue_40 : decode cX2_addCue 40 = .ok (.iload 4, 2) := by decide +kernel
theorem dX2_addCue_42 : decode cX2_addCue 42 = .ok (.ireturn, 1) := by decide +kernel
set_option maxRecDepth 20000 in
theorem ggX2_beginNext_X2_begin : GoodIn wsX2_beginNext wsX2_begin := goodIn_r _ [8, 9, 10, 11, 12, 13, 14, 1, 15, 16, 7, 17, 18, 19, 20, 21, 2, 22, 23, 24, 25, 26, 27, 28, 29, 30, 31, 32, 33, 34, 35, 36, 37, 38, 39, 40, 41] (by decide +kernel) (by decide +kernel)
set_option maxRecDepth 20000 in
theorem gX2_beginNext_X2_begin : GoodIn wsX2_beginNext (wsV RX2 52 RX2 yX2_begin wsX2_begin) := goodIn_app (goodIn_of _ (by decide +kernel)) ggX2_beginNext_X2_begin
theorem dX2_beginNext_0 : decode cX2_beginNext 0 = .ok (.aload_n 0, 1) := by decide +kernel
theorem dX2_beginNext_1 : decode cX2_beginNext 1 = .ok (.getfield 37, 3) := by decide +kernel
theorem dX2_beginNext_4 : decode cX2_beginNext 4 = .ok (.istore_n 1, 1) := by decide +kernel
theorem dX2_beginNext_5 : decode cX2_beginNext 5 = .ok (.iload_n 1, 1) := by decide +kernel
theorem dX2_beginNext_6 : decode cX2_beginNext 6 = .ok (.iconst 1, 1) := by decide +kernel
theorem dX2_beginNext_7 : decode cX2_beginNext 7 = .ok (.iadd, 1) := by decide +kernel
theorem dX2_beginNext_8 : decode cX2_beginNext 8 = .ok (.istore_n 2, 1) := by decide +kernel
theorem dX2_beginNext_9 : decode cX2_beginNext 9 = .ok (.iload_n 2, 1) := by decide +kernel
theorem dX2_beginNext_10 : decode cX2_beginNext 10 = .ok (.aload_n 0, 1) := by decide +kernel
theorem dX2_beginNext_11 : decode cX2_beginNext 11 = .ok (.getfield 9, 3) := by decide +kernel
theorem dX2_beginNext_14 : decode cX2_beginNext 14 = .ok (.if_icmp .ge 26, 3) := by decide +kernel
theorem dX2_beginNext_17 : decode cX2_beginNext 17 = .ok (.aload_n 0, 1) := by decide +kernel
theorem dX2_beginNext_18 : decode cX2_beginNext 18 = .ok (.iload_n 2, 1) := by decide +kernel
theorem dX2_beginNext_19 : decode cX2_beginNext 19 = .ok (.invokevirtual 52, 3) := by decide +kernel
theorem dX2_beginNext_22 : decode cX2_beginNext 22 = .ok (.aload_n 0, 1) := by decide +kernel
theorem dX2_beginNext_23 : decode cX2_beginNext 23 = .ok (.getfield 22, 3) := by decide +kernel
theorem dX2_beginNext_26 : decode cX2_beginNext 26 = .ok (.iload_n 2, 1) := by decide +kernel
theorem dX2_beginNext_27 : decode cX2_beginNext 27 = .ok (.iaload, 1) := by decide +kernel
theorem dX2_beginNext_28 : decode cX2_beginNext 28 = .ok (.ifCond .eq 6, 3) := by decide +kernel
theorem dX2_beginNext_31 : decode cX2_beginNext 31 = .ok (.goto 9, 3) := by decide +kernel
theorem dX2_beginNext_34 : decode cX2_beginNext 34 = .ok (.iinc 2 1, 3) := by decide +kernel
theorem dX2_beginNext_37 : decode cX2_beginNext 37 = .ok (.goto (-28), 3) := by decide +kernel
theorem dX2_beginNext_40 : decode cX2_beginNext 40 = .ok (.aload_n 0, 1) := by decide +kernel
theorem dX2_beginNext_41 : decode cX2_beginNext 41 = .ok (.getfield 37, 3) := by decide +kernel
theorem dX2_beginNext_44 : decode cX2_beginNext 44 = .ok (.iload_n 1, 1) := by decide +kernel
theorem dX2_beginNext_45 : decode cX2_beginNext 45 = .ok (.isub, 1) := by decide +kernel
theorem dX2_beginNext_46 : decode cX2_beginNext 46 = .ok (.ireturn, 1) := by decide +kernel
set_option maxRecDepth 20000 in
theorem ggX2_begin_X2_cell : GoodIn wsX2_begin wsX2_cell := goodIn_r _ [11] (by decide +kernel) (by decide +kernel)
set_option maxRecDepth 20000 in
theorem gX2_begin_X2_cell : GoodIn wsX2_begin (va_wsS RX2 56 yX2_cell wsX2_cell) := goodIn_app (goodIn_of _ (by decide +kernel)) ggX2_begin_X2_cell
set_option maxRecDepth 20000 in
theorem ggX2_begin_X2_wantedLevel : GoodIn wsX2_begin wsX2_wantedLevel := goodIn_r _ [15, 4, 16, 6, 5, 17, 3, 2, 18, 19, 20, 10, 21, 22, 23, 24, 25, 26, 27, 28, 29, 30, 31, 32, 33, 34, 35, 36] (by decide +kernel) (by decide +kernel)
set_option maxRecDepth 20000 in
theorem gX2_begin_X2_wantedLevel : GoodIn wsX2_begin (wsV RX2 60 RX2 yX2_wantedLevel wsX2_wantedLevel) := goodIn_app (goodIn_of _ (by decide +kernel)) ggX2_begin_X2_wantedLevel
theorem dX2_begin_0 : decode cX2_begin 0 = .ok (.iconst 0, 1) := by decide +kernel
theorem dX2_begin_1 : decode cX2_begin 1 = .ok (.istore_n 2, 1) := by decide +kernel
theorem dX2_begin_2 : decode cX2_begin 2 = .ok (.iload_n 2, 1) := by decide +kernel
theorem dX2_begin_3 : decode cX2_begin 3 = .ok (.bipush 10, 2) := by decide +kernel
theorem dX2_begin_5 : decode cX2_begin 5 = .ok (.if_icmp .ge 50, 3) := by decide +kernel
theorem dX2_begin_8 : decode cX2_begin 8 = .ok (.aload_n 0, 1) := by decide +kernel
theorem dX2_begin_9 : decode cX2_begin 9 = .ok (.getfield 25, 3) := by decide +kernel
theorem dX2_begin_12 : decode cX2_begin 12 = .ok (.iload_n 1, 1) := by decide +kernel
theorem dX2_begin_13 : decode cX2_begin 13 = .ok (.iload_n 2, 1) := by decide +kernel
theorem dX2_begin_14 : decode cX2_begin 14 = .ok (.invokestatic 56, 3) := by decide +kernel
theorem dX2_begin_17 : decode cX2_begin 17 = .ok (.iaload, 1) := by decide +kernel
theorem dX2_begin_18 : decode cX2_begin 18 = .ok (.istore_n 3, 1) := by decide +kernel
theorem dX2_begin_19 : decode cX2_begin 19 = .ok (.iload_n 3, 1) := by decide +kernel
theorem dX2_begin_20 : decode cX2_begin 20 = .ok (.iconst (-1), 1) := by decide +kernel
theorem dX2_begin_21 : decode cX2_begin 21 = .ok (.if_icmp .eq 28, 3) := by decide +kernel
theorem dX2_begin_24 : decode cX2_begin 24 = .ok (.aload_n 0, 1) := by decide +kernel
theorem dX2_begin_25 : decode cX2_begin 25 = .ok (.getfield 46, 3) := by decide +kernel
theorem dX2_begin_28 : decode cX2_begin 28 = .ok (.iload_n 2, 1) := by decide +kernel
theorem dX2_begin_29 : decode cX2_begin 29 = .ok (.aload_n 0, 1) := by decide +kernel
theorem dX2_begin_30 : decode cX2_begin 30 = .ok (.iload_n 2, 1) := by decide +kernel
theorem dX2_begin_31 : decode cX2_begin 31 = .ok (.invokevirtual 60, 3) := by decide +kernel
theorem dX2_begin_34 : decode cX2_begin 34 = .ok (.iastore, 1) := by decide +kernel
theorem dX2_begin_35 : decode cX2_begin 35 = .ok (.aload_n 0, 1) := by decide +kernel
theorem dX2_begin_36 : decode cX2_begin 36 = .ok (.getfield 49, 3) := by decide +kernel
theorem dX2_begin_39 : decode cX2_begin 39 = .ok (.iload_n 2, 1) := by decide +kernel
theorem dX2_begin_40 : decode cX2_begin 40 = .ok (.iload_n 3, 1) := by decide +kernel
theorem dX2_begin_41 : decode cX2_begin 41 = .ok (.iastore, 1) := by decide +kernel
theorem dX2_begin_42 : decode cX2_begin 42 = .ok (.aload_n 0, 1) := by decide +kernel
theorem dX2_begin_43 : decode cX2_begin 43 = .ok (.getfield 43, 3) := by decide +kernel
theorem dX2_begin_46 : decode cX2_begin 46 = .ok (.iload_n 2, 1) := by decide +kernel
theorem dX2_begin_47 : decode cX2_begin 47 = .ok (.iload_n 1, 1) := by decide +kernel
theorem dX2_begin_48 : decode cX2_begin 48 = .ok (.iastore, 1) := by decide +kernel
theorem dX2_begin_49 : decode cX2_begin 49 = .ok (.iinc 2 1, 3) := by decide +kernel
theorem dX2_begin_52 : decode cX2_begin 52 = .ok (.goto (-50), 3) := by decide +kernel
theorem dX2_begin_55 : decode cX2_begin 55 = .ok (.aload_n 0, 1) := by decide +kernel
theorem dX2_begin_56 : decode cX2_begin 56 = .ok (.getfield 40, 3) := by decide +kernel
theorem dX2_begin_59 : decode cX2_begin 59 = .ok (.iload_n 1, 1) := by decide +kernel
theorem dX2_begin_60 : decode cX2_begin 60 = .ok (.aload_n 0, 1) := by decide +kernel
theorem dX2_begin_61 : decode cX2_begin 61 = .ok (.getfield 34, 3) := by decide +kernel
theorem dX2_begin_64 : decode cX2_begin 64 = .ok (.iastore, 1) := by decide +kernel
theorem dX2_begin_65 : decode cX2_begin 65 = .ok (.aload_n 0, 1) := by decide +kernel
theorem dX2_begin_66 : decode cX2_begin 66 = .ok (.iload_n 1, 1) := by decide +kernel
theorem dX2_begin_67 : decode cX2_begin 67 = .ok (.putfield 37, 3) := by decide +kernel
theorem dX2_begin_70 : decode cX2_begin 70 = .ok (.return_, 1) := by decide +kernel
set_option maxRecDepth 20000 in
theorem ggX2_advance_X2_beginNext : GoodIn wsX2_advance wsX2_beginNext := goodIn_r _ [10, 2, 3, 4, 11, 12, 13, 9, 14, 15, 16, 17, 18, 5, 1, 19, 20, 21, 22, 23, 24, 25, 26, 27, 28, 29, 30, 31, 32, 33, 34, 35, 36, 37, 38, 39, 40, 41, 42, 43, 44, 45] (by decide +kernel) (by decide +kernel)
set_option maxRecDepth 20000 in
theorem gX2_advance_X2_beginNext : GoodIn wsX2_advance (wsV RX2 64 RX2 yX2_beginNext wsX2_beginNext) := goodIn_app (goodIn_of _ (by decide +kernel)) ggX2_advance_X2_beginNext
theorem dX2_advance_0 : decode cX2_advance 0 = .ok (.aload_n 0, 1) := by decide +kernel
theorem dX2_advance_1 : decode cX2_advance 1 = .ok (.dup, 1) := by decide +kernel
theorem dX2_advance_2 : decode cX2_advance 2 = .ok (.getfield 34, 3) := by decide +kernel
theorem dX2_advance_5 : decode cX2_advance 5 = .ok (.iconst 1, 1) := by decide +kernel
theorem dX2_advance_6 : decode cX2_advance 6 = .ok (.iadd, 1) := by decide +kernel
theorem dX2_advance_7 : decode cX2_advance 7 = .ok (.putfield 34, 3) := by decide +kernel
theorem dX2_advance_10 : decode cX2_advance 10 = .ok (.aload_n 0, 1) := by decide +kernel
theorem dX2_advance_11 : decode cX2_advance 11 = .ok (.getfield 37, 3) := by decide +kernel
theorem dX2_advance_14 : decode cX2_advance 14 = .ok (.ifCond .lt 26, 3) := by decide +kernel
theorem dX2_advance_17 : decode cX2_advance 17 = .ok (.aload_n 0, 1) := by decide +kernel
theorem dX2_advance_18 : decode cX2_advance 18 = .ok (.getfield 37, 3) := by decide +kernel
theorem dX2_advance_21 : decode cX2_advance 21 = .ok (.aload_n 0, 1) := by decide +kernel
theorem dX2_advance_22 : decode cX2_advance 22 = .ok (.getfield 9, 3) := by decide +kernel
theorem dX2_advance_25 : decode cX2_advance 25 = .ok (.if_icmp .ge 15, 3) := by decide +kernel
theorem dX2_advance_28 : decode cX2_advance 28 = .ok (.aload_n 0, 1) := by decide +kernel
theorem dX2_advance_29 : decode cX2_advance 29 = .ok (.getfield 22, 3) := by decide +kernel
theorem dX2_advance_32 : decode cX2_advance 32 = .ok (.aload_n 0, 1) := by decide +kernel
theorem dX2_advance_33 : decode cX2_advance 33 = .ok (.getfield 37, 3) := by decide +kernel
theorem dX2_advance_36 : decode cX2_advance 36 = .ok (.iaload, 1) := by decide +kernel
theorem dX2_advance_37 : decode cX2_advance 37 = .ok (.ifCond .gt 5, 3) := by decide +kernel
theorem dX2_advance_40 : decode cX2_advance 40 = .ok (.iconst 0, 1) := by decide +kernel
theorem dX2_advance_41 : decode cX2_advance 41 = .ok (.ireturn, 1) := by decide +kernel
theorem dX2_advance_42 : decode cX2_advance 42 = .ok (.aload_n 0, 1) := by decide +kernel
theorem dX2_advance_43 : decode cX2_advance 43 = .ok (.getfield 34, 3) := by decide +kernel
theorem dX2_advance_46 : decode cX2_advance 46 = .ok (.aload_n 0, 1) := by decide +kernel
theorem dX2_advance_47 : decode cX2_advance 47 = .ok (.getfield 40, 3) := by decide +kernel
theorem dX2_advance_50 : decode cX2_advance 50 = .ok (.aload_n 0, 1) := by decide +kernel
theorem dX2_advance_51 : decode cX2_advance 51 = .ok (.getfield 37, 3) := by decide +kernel
theorem dX2_advance_54 : decode cX2_advance 54 = .ok (.iaload, 1) := by decide +kernel
theorem dX2_advance_55 : decode cX2_advance 55 = .ok (.isub, 1) := by decide +kernel
theorem dX2_advance_56 : decode cX2_advance 56 = .ok (.aload_n 0, 1) := by decide +kernel
theorem dX2_advance_57 : decode cX2_advance 57 = .ok (.getfield 22, 3) := by decide +kernel
theorem dX2_advance_60 : decode cX2_advance 60 = .ok (.aload_n 0, 1) := by decide +kernel
theorem dX2_advance_61 : decode cX2_advance 61 = .ok (.getfield 37, 3) := by decide +kernel
theorem dX2_advance_64 : decode cX2_advance 64 = .ok (.iaload, 1) := by decide +kernel
theorem dX2_advance_65 : decode cX2_advance 65 = .ok (.if_icmp .ne 10, 3) := by decide +kernel
theorem dX2_advance_68 : decode cX2_advance 68 = .ok (.aload_n 0, 1) := by decide +kernel
theorem dX2_advance_69 : decode cX2_advance 69 = .ok (.invokevirtual 64, 3) := by decide +kernel
theorem dX2_advance_72 : decode cX2_advance 72 = .ok (.goto 4, 3) := by decide +kernel
theorem dX2_advance_75 : decode cX2_advance 75 = .ok (.iconst 0, 1) := by decide +kernel
theorem dX2_advance_76 : decode cX2_advance 76 = .ok (.ireturn, 1) := by decide +kernel
set_option maxRecDepth 20000 in
theorem ggX2_reset_J7_fill_53178 : GoodIn wsX2_reset wsJ7_fill_53178 := goodIn_r _ [6] (by decide +kernel) (by decide +kernel)
set_option maxRecDepth 20000 in
theorem gX2_reset_J7_fill_53178 : GoodIn wsX2_reset (va_wsS RX2 28 yJ7_fill_53178 wsJ7_fill_53178) := goodIn_app (goodIn_of _ (by decide +kernel)) ggX2_reset_J7_fill_53178
theorem dX2_reset_0 : decode cX2_reset 0 = .ok (.aload_n 0, 1) := by decide +kernel
theorem dX2_reset_1 : decode cX2_reset 1 = .ok (.getfield 37, 3) := by decide +kernel
theorem dX2_reset_4 : decode cX2_reset 4 = .ok (.iconst 1, 1) := by decide +kernel
theorem dX2_reset_5 : decode cX2_reset 5 = .ok (.iadd, 1) := by decide +kernel
theorem dX2_reset_6 : decode cX2_reset 6 = .ok (.istore_n 1, 1) := by decide +kernel
theorem dX2_reset_7 : decode cX2_reset 7 = .ok (.aload_n 0, 1) := by decide +kernel
theorem dX2_reset_8 : decode cX2_reset 8 = .ok (.iconst (-1), 1) := by decide +kernel
theorem dX2_reset_9 : decode cX2_reset 9 = .ok (.putfield 37, 3) := by decide +kernel
theorem dX2_reset_12 : decode cX2_reset 12 = .ok (.aload_n 0, 1) := by decide +kernel
theorem dX2_reset_13 : decode cX2_reset 13 = .ok (.getfield 43, 3) := by decide +kernel
theorem dX2_reset_16 : decode cX2_reset 16 = .ok (.iconst (-1), 1) := by decide +kernel
theorem dX2_reset_17 : decode cX2_reset 17 = .ok (.invokestatic 28, 3) := by decide +kernel
theorem dX2_reset_20 : decode cX2_reset 20 = .ok (.iload_n 1, 1) := by decide +kernel
theorem dX2_reset_21 : decode cX2_reset 21 = .ok (.ireturn, 1) := by decide +kernel
set_option maxRecDepth 20000 in
theorem ggX2_wantedLevel_X2_gained : GoodIn wsX2_wantedLevel wsX2_gained := goodIn_r _ [12, 13, 14, 15, 16] (by decide +kernel) (by decide +kernel)
set_option maxRecDepth 20000 in
theorem gX2_wantedLevel_X2_gained : GoodIn wsX2_wantedLevel (va_wsS RX2 68 yX2_gained wsX2_gained) := goodIn_app (goodIn_of _ (by decide +kernel)) ggX2_wantedLevel_X2_gained
theorem dX2_wantedLevel_0 : decode cX2_wantedLevel 0 = .ok (.aload_n 0, 1) := by decide +kernel
theorem dX2_wantedLevel_1 : decode cX2_wantedLevel 1 = .ok (.getfield 43, 3) := by decide +kernel
theorem dX2_wantedLevel_4 : decode cX2_wantedLevel 4 = .ok (.iload_n 1, 1) := by decide +kernel
theorem dX2_wantedLevel_5 : decode cX2_wantedLevel 5 = .ok (.iaload, 1) := by decide +kernel
theorem dX2_wantedLevel_6 : decode cX2_wantedLevel 6 = .ok (.istore_n 2, 1) := by decide +kernel
theorem dX2_wantedLevel_7 : decode cX2_wantedLevel 7 = .ok (.iload_n 2, 1) := by decide +kernel
theorem dX2_wantedLevel_8 : decode cX2_wantedLevel 8 = .ok (.ifCond .lt 11, 3) := by decide +kernel
theorem dX2_wantedLevel_11 : decode cX2_wantedLevel 11 = .ok (.iload_n 2, 1) := by decide +kernel
theorem dX2_wantedLevel_12 : decode cX2_wantedLevel 12 = .ok (.aload_n 0, 1) := by decide +kernel
theorem dX2_wantedLevel_13 : decode cX2_wantedLevel 13 = .ok (.getfield 9, 3) := by decide +kernel
theorem dX2_wantedLevel_16 : decode cX2_wantedLevel 16 = .ok (.if_icmp .lt 5, 3) := by decide +kernel
theorem dX2_wantedLevel_19 : decode cX2_wantedLevel 19 = .ok (.iconst 0, 1) := by decide +kernel
theorem dX2_wantedLevel_20 : decode cX2_wantedLevel 20 = .ok (.ireturn, 1) := by decide +kernel
theorem dX2_wantedLevel_21 : decode cX2_wantedLevel 21 = .ok (.aload_n 0, 1) := by decide +kernel
theorem dX2_wantedLevel_22 : decode cX2_wantedLevel 22 = .ok (.getfield 34, 3) := by decide +kernel
theorem dX2_wantedLevel_25 : decode cX2_wantedLevel 25 = .ok (.aload_n 0, 1) := by decide +kernel
theorem dX2_wantedLevel_26 : decode cX2_wantedLevel 26 = .ok (.getfield 40, 3) := by decide +kernel
theorem dX2_wantedLevel_29 : decode cX2_wantedLevel 29 = .ok (.iload_n 2, 1) := by decide +kernel
theorem dX2_wantedLevel_30 : decode cX2_wantedLevel 30 = .ok (.iaload, 1) := by decide +kernel
theorem dX2_wantedLevel_31 : decode cX2_wantedLevel 31 = .ok (.isub, 1) := by decide +kernel
theorem dX2_wantedLevel_32 : decode cX2_wantedLevel 32 = .ok (.istore_n 3, 1) := by decide +kernel
theorem dX2_wantedLevel_33 : decode cX2_wantedLevel 33 = .ok (.aload_n 0, 1) := by decide +kernel
theorem dX2_wantedLevel_34 : decode cX2_wantedLevel 34 = .ok (.getfield 15, 3) := by decide +kernel
theorem dX2_wantedLevel_37 : decode cX2_wantedLevel 37 = .ok (.iload_n 2, 1) := by decide +kernel
theorem dX2_wantedLevel_38 : decode cX2_wantedLevel 38 = .ok (.iaload, 1) := by decide +kernel
theorem dX2_wantedLevel_39 : decode cX2_wantedLevel 39 = .ok (.istore 4, 2) := by decide +kernel
theorem dX2_wantedLevel_41 : decode cX2_wantedLevel 41 = .ok (.iload 4, 2) := by decide +kernel
theorem dX2_wantedLevel_43 : decode cX2_wantedLevel 43 = .ok (.ifCond .le 9, 3) := by decide +kernel
theorem dX2_wantedLevel_46 : decode cX2_wantedLevel 46 = .ok (.iload_n 3, 1) := by decide +kernel
theorem dX2_wantedLevel_47 : decode cX2_wantedLevel 47 = .ok (.iload 4, 2) := by decide +kernel
theorem dX2_wantedLevel_49 : decode cX2_wantedLevel 49 = .ok (.if_icmp .lt 10, 3) := by decide +kernel
theorem dX2_wantedLevel_52 : decode cX2_wantedLevel 52 = .ok (.aload_n 0, 1) := by decide +kernel
theorem dX2_wantedLevel_53 : decode cX2_wantedLevel 53 = .ok (.getfield 49, 3) := by decide +kernel
theorem dX2_wantedLevel_56 : decode cX2_wantedLevel 56 = .ok (.iload_n 1, 1) := by decide +kernel
theorem dX2_wantedLevel_57 : decode cX2_wantedLevel 57 = .ok (.iaload, 1) := by decide +kernel
theorem dX2_wantedLevel_58 : decode cX2_wantedLevel 58 = .ok (.ireturn, 1) := by decide +kernel
theorem dX2_wantedLevel_59 : decode cX2_wantedLevel 59 = .ok (.aload_n 0, 1) := by decide +kernel
theorem dX2_wantedLevel_60 : decode cX2_wantedLevel 60 = .ok (.getfield 46, 3) := by decide +kernel
theorem dX2_wantedLevel_63 : decode cX2_wantedLevel 63 = .ok (.iload_n 1, 1) := by decide +kernel
theorem dX2_wantedLevel_64 : decode cX2_wantedLevel 64 = .ok (.iaload, 1) := by decide +kernel
theorem dX2_wantedLevel_65 : decode cX2_wantedLevel 65 = .ok (.aload_n 0, 1) := by decide +kernel
theorem dX2_wantedLevel_66 : decode cX2_wantedLevel 66 = .ok (.getfield 49, 3) := by decide +kernel
theorem dX2_wantedLevel_69 : decode cX2_wantedLevel 69 = .ok (.iload_n 1, 1) := by decide +kernel
theorem dX2_wantedLevel_70 : decode cX2_wantedLevel 70 = .ok (.iaload, 1) := by decide +kernel
theorem dX2_wantedLevel_71 : decode cX2_wantedLevel 71 = .ok (.aload_n 0, 1) := by decide +kernel
theorem dX2_wantedLevel_72 : decode cX2_wantedLevel 72 = .ok (.getfield 46, 3) := by decide +kernel
theorem dX2_wantedLevel_75 : decode cX2_wantedLevel 75 = .ok (.iload_n 1, 1) := by decide +kernel
theorem dX2_wantedLevel_76 : decode cX2_wantedLevel 76 = .ok (.iaload, 1) := by decide +kernel
theorem dX2_wantedLevel_77 : decode cX2_wantedLevel 77 = .ok (.isub, 1) := by decide +kernel
theorem dX2_wantedLevel_78 : decode cX2_wantedLevel 78 = .ok (.iload_n 3, 1) := by decide +kernel
theorem dX2_wantedLevel_79 : decode cX2_wantedLevel 79 = .ok (.iload 4, 2) := by decide +kernel
theorem dX2_wantedLevel_81 : decode cX2_wantedLevel 81 = .ok (.aload_n 0, 1) := by decide +kernel
theorem dX2_wantedLevel_82 : decode cX2_wantedLevel 82 = .ok (.getfield 19, 3) := by decide +kernel
theorem dX2_wantedLevel_85 : decode cX2_wantedLevel 85 = .ok (.iload_n 2, 1) := by decide +kernel
theorem dX2_wantedLevel_86 : decode cX2_wantedLevel 86 = .ok (.iaload, 1) := by decide +kernel
theorem dX2_wantedLevel_87 : decode cX2_wantedLevel 87 = .ok (.invokestatic 68, 3) := by decide +kernel
theorem dX2_wantedLevel_90 : decode cX2_wantedLevel 90 = .ok (.iadd, 1) := by decide +kernel
theorem dX2_wantedLevel_91 : decode cX2_wantedLevel 91 = .ok (.ireturn, 1) := by decide +kernel
set_option maxRecDepth 20000 in
theorem ggX2_gained_J9_floorDiv_7cf53 : GoodIn wsX2_gained wsJ9_floorDiv_7cf53 := goodIn_r _ [4] (by decide +kernel) (by decide +kernel)
set_option maxRecDepth 20000 in
theorem gX2_gained_J9_floorDiv_7cf53 : GoodIn wsX2_gained (va_wsS RX2 72 yJ9_floorDiv_7cf53 wsJ9_floorDiv_7cf53) := goodIn_app (goodIn_of _ (by decide +kernel)) ggX2_gained_J9_floorDiv_7cf53
theorem dX2_gained_0 : decode cX2_gained 0 = .ok (.iload_n 3, 1) := by decide +kernel
theorem dX2_gained_1 : decode cX2_gained 1 = .ok (.iconst 2, 1) := by decide +kernel
theorem dX2_gained_2 : decode cX2_gained 2 = .ok (.if_icmp .eq 7, 3) := by decide +kernel
theorem dX2_gained_5 : decode cX2_gained 5 = .ok (.iload_n 2, 1) := by decide +kernel
theorem dX2_gained_6 : decode cX2_gained 6 = .ok (.ifCond .gt 5, 3) := by decide +kernel
theorem dX2_gained_9 : decode cX2_gained 9 = .ok (.iconst 0, 1) := by decide +kernel
theorem dX2_gained_10 : decode cX2_gained 10 = .ok (.ireturn, 1) := by decide +kernel
theorem dX2_gained_11 : decode cX2_gained 11 = .ok (.iload_n 3, 1) := by decide +kernel
theorem dX2_gained_12 : decode cX2_gained 12 = .ok (.iconst 1, 1) := by decide +kernel
theorem dX2_gained_13 : decode cX2_gained 13 = .ok (.if_icmp .ne 15, 3) := by decide +kernel
theorem dX2_gained_16 : decode cX2_gained 16 = .ok (.iload_n 0, 1) := by decide +kernel
theorem dX2_gained_17 : decode cX2_gained 17 = .ok (.iload_n 1, 1) := by decide +kernel
theorem dX2_gained_18 : decode cX2_gained 18 = .ok (.imul, 1) := by decide +kernel
theorem dX2_gained_19 : decode cX2_gained 19 = .ok (.iload_n 1, 1) := by decide +kernel
theorem dX2_gained_20 : decode cX2_gained 20 = .ok (.imul, 1) := by decide +kernel
theorem dX2_gained_21 : decode cX2_gained 21 = .ok (.iload_n 2, 1) := by decide +kernel
theorem dX2_gained_22 : decode cX2_gained 22 = .ok (.iload_n 2, 1) := by decide +kernel
theorem dX2_gained_23 : decode cX2_gained 23 = .ok (.imul, 1) := by decide +kernel
theorem dX2_gained_24 : decode cX2_gained 24 = .ok (.invokestatic 72, 3) := by decide +kernel
theorem dX2_gained_27 : decode cX2_gained 27 = .ok (.ireturn, 1) := by decide +kernel
theorem dX2_gained_28 : decode cX2_gained 28 = .ok (.iload_n 0, 1) := by decide +kernel
theorem dX2_gained_29 : decode cX2_gained 29 = .ok (.iload_n 1, 1) := by decide +kernel
theorem dX2_gained_30 : decode cX2_gained 30 = .ok (.imul, 1) := by decide +kernel
theorem dX2_gained_31 : decode cX2_gained 31 = .ok (.iload_n 2, 1) := by decide +kernel
theorem dX2_gained_32 : decode cX2_gained 32 = .ok (.invokestatic 72, 3) := by decide +kernel
theorem dX2_gained_35 : decode cX2_gained 35 = .ok (.ireturn, 1) := by decide +kernel
set_option maxRecDepth 20000 in
theorem ggX2_handOver_X2_cell : GoodIn wsX2_handOver wsX2_cell := goodIn_r _ [6] (by decide +kernel) (by decide +kernel)
set_option maxRecDepth 20000 in
theorem gX2_handOver_X2_cell : GoodIn wsX2_handOver (va_wsS RX2 56 yX2_cell wsX2_cell) := goodIn_app (goodIn_of _ (by decide +kernel)) ggX2_handOver_X2_cell
theorem dX2_handOver_0 : decode cX2_handOver 0 = .ok (.iconst 0, 1) := by decide +kernel
theorem dX2_handOver_1 : decode cX2_handOver 1 = .ok (.istore_n 3, 1) := by decide +kernel
theorem dX2_handOver_2 : decode cX2_handOver 2 = .ok (.iconst 0, 1) := by decide +kernel
theorem dX2_handOver_3 : decode cX2_handOver 3 = .ok (.istore 4, 2) := by decide +kernel
theorem dX2_handOver_5 : decode cX2_handOver 5 = .ok (.iload 4, 2) := by decide +kernel
theorem dX2_handOver_7 : decode cX2_handOver 7 = .ok (.aload_n 0, 1) := by decide +kernel
theorem dX2_handOver_8 : decode cX2_handOver 8 = .ok (.getfield 9, 3) := by decide +kernel
theorem dX2_handOver_11 : decode cX2_handOver 11 = .ok (.if_icmp .ge 56, 3) := by decide +kernel
theorem dX2_handOver_14 : decode cX2_handOver 14 = .ok (.aload_n 0, 1) := by decide +kernel
theorem dX2_handOver_15 : decode cX2_handOver 15 = .ok (.getfield 25, 3) := by decide +kernel
theorem dX2_handOver_18 : decode cX2_handOver 18 = .ok (.iload 4, 2) := by decide +kernel
theorem dX2_handOver_20 : decode cX2_handOver 20 = .ok (.iload_n 1, 1) := by decide +kernel
theorem dX2_handOver_21 : decode cX2_handOver 21 = .ok (.invokestatic 56, 3) := by decide +kernel
theorem dX2_handOver_24 : decode cX2_handOver 24 = .ok (.iaload, 1) := by decide +kernel
theorem dX2_handOver_25 : decode cX2_handOver 25 = .ok (.istore 5, 2) := by decide +kernel
theorem dX2_handOver_27 : decode cX2_handOver 27 = .ok (.iload 5, 2) := by decide +kernel
theorem dX2_handOver_29 : decode cX2_handOver 29 = .ok (.iconst (-1), 1) := by decide +kernel
theorem dX2_handOver_30 : decode cX2_handOver 30 = .ok (.if_icmp .eq 31, 3) := by decide +kernel
theorem dX2_handOver_33 : decode cX2_handOver 33 = .ok (.aload_n 0, 1) := by decide +kernel
theorem dX2_handOver_34 : decode cX2_handOver 34 = .ok (.getfield 25, 3) := by decide +kernel
theorem dX2_handOver_37 : decode cX2_handOver 37 = .ok (.iload 4, 2) := by decide +kernel
theorem dX2_handOver_39 : decode cX2_handOver 39 = .ok (.iload_n 2, 1) := by decide +kernel
theorem dX2_handOver_40 : decode cX2_handOver 40 = .ok (.invokestatic 56, 3) := by decide +kernel
theorem dX2_handOver_43 : decode cX2_handOver 43 = .ok (.iload 5, 2) := by decide +kernel
theorem dX2_handOver_45 : decode cX2_handOver 45 = .ok (.iastore, 1) := by decide +kernel
theorem dX2_handOver_46 : decode cX2_handOver 46 = .ok (.aload_n 0, 1) := by decide +kernel
theorem dX2_handOver_47 : decode cX2_handOver 47 = .ok (.getfield 25, 3) := by decide +kernel
theorem dX2_handOver_50 : decode cX2_handOver 50 = .ok (.iload 4, 2) := by decide +kernel
theorem dX2_handOver_52 : decode cX2_handOver 52 = .ok (.iload_n 1, 1) := by decide +kernel
theorem dX2_handOver_53 : decode cX2_handOver 53 = .ok (.invokestatic 56, 3) := by decide +kernel
theorem dX2_handOver_56 : decode cX2_handOver 56 = .ok (.iconst (-1), 1) := by decide +kernel
theorem dX2_handOver_57 : decode cX2_handOver 57 = .ok (.iastore, 1) := by decide +kernel
theorem dX2_handOver_58 : decode cX2_handOver 58 = .ok (.iinc 3 1, 3) := by decide +kernel
theorem dX2_handOver_61 : decode cX2_handOver 61 = .ok (.iinc 4 1, 3) := by decide +kernel
theorem dX2_handOver_64 : decode cX2_handOver 64 = .ok (.goto (-59), 3) := by decide +kernel
theorem dX2_handOver_67 : decode cX2_handOver 67 = .ok (.iload_n 3, 1) := by decide +kernel
theorem dX2_handOver_68 : decode cX2_handOver 68 = .ok (.ireturn, 1) := by decide +kernel
set_option maxRecDepth 20000 in
theorem ggX3_init_X1_init : GoodIn wsX3_init wsX1_init := goodIn_r _ [23, 24, 2, 3, 25, 5, 26, 27, 28, 29, 30, 31, 32, 33, 34, 35, 36, 67, 68, 69, 70, 71, 72, 73, 74] (by decide +kernel) (by decide +kernel)
set_option maxRecDepth 20000 in
theorem gX3_init_X1_init_n26 : GoodIn wsX3_init (wsX1_init) := ggX3_init_X1_init
set_option maxRecDepth 20000 in
theorem ggX3_init_X0_init : GoodIn wsX3_init wsX0_init := goodIn_r _ [38, 39, 2, 3, 5, 40, 41, 42, 43, 44, 34, 35, 36, 75, 76, 77, 78] (by decide +kernel) (by decide +kernel)
set_option maxRecDepth 20000 in
theorem gX3_init_X0_init_n33 : GoodIn wsX3_init (wsX0_init) := ggX3_init_X0_init
set_option maxRecDepth 20000 in
theorem ggX3_init_X2_init : GoodIn wsX3_init wsX2_init := goodIn_r _ [46, 47, 2, 3, 48, 5, 49, 50, 51, 52, 53, 54, 55, 56, 57, 58, 59, 34, 35, 36, 79, 80, 81, 82, 83, 84, 85, 86, 87, 88, 89] (by decide +kernel) (by decide +kernel)
set_option maxRecDepth 20000 in
theorem gX3_init_X2_init_n40 : GoodIn wsX3_init (wsX2_init) := ggX3_init_X2_init
theorem dX3_init_0 : decode cX3_init 0 = .ok (.aload_n 0, 1) := by decide +kernel
theorem dX3_init_1 : decode cX3_init 1 = .ok (.invokespecial 1, 3) := by decide +kernel
theorem dX3_init_4 : decode cX3_init 4 = .ok (.aload_n 0, 1) := by decide +kernel
theorem dX3_init_5 : decode cX3_init 5 = .ok (.iconst 0, 1) := by decide +kernel
theorem dX3_init_6 : decode cX3_init 6 = .ok (.putfield 7, 3) := by decide +kernel
theorem dX3_init_9 : decode cX3_init 9 = .ok (.aload_n 0, 1) := by decide +kernel
theorem dX3_init_10 : decode cX3_init 10 = .ok (.bipush 10, 2) := by decide +kernel
theorem dX3_init_12 : decode cX3_init 12 = .ok (.newarray .int, 2) := by decide +kernel
theorem dX3_init_14 : decode cX3_init 14 = .ok (.putfield 13, 3) := by decide +kernel
theorem dX3_init_17 : decode cX3_init 17 = .ok (.aload_n 0, 1) := by decide +kernel
theorem dX3_init_18 : decode cX3_init 18 = .ok (.bipush 10, 2) := by decide +kernel
theorem dX3_init_20 : decode cX3_init 20 = .ok (.newarray .int, 2) := by decide +kernel
theorem dX3_init_22 : decode cX3_init 22 = .ok (.putfield 17, 3) := by decide +kernel
theorem dX3_init_25 : decode cX3_init 25 = .ok (.aload_n 0, 1) := by decide +kernel
theorem dX3_init_26 : decode cX3_init 26 = .ok (.bipush 10, 2) := by decide +kernel
theorem dX3_init_28 : decode cX3_init 28 = .ok (.newarray .boolean, 2) := by decide +kernel
theorem dX3_init_30 : decode cX3_init 30 = .ok (.putfield 20, 3) := by decide +kernel
theorem dX3_init_33 : decode cX3_init 33 = .ok (.aload_n 0, 1) := by decide +kernel
theorem dX3_init_34 : decode cX3_init 34 = .ok (.new 24, 3) := by decide +kernel
theorem dX3_init_37 : decode cX3_init 37 = .ok (.dup, 1) := by decide +kernel
theorem dX3_init_38 : decode cX3_init 38 = .ok (.invokespecial 26, 3) := by decide +kernel
theorem dX3_init_41 : decode cX3_init 41 = .ok (.putfield 27, 3) := by decide +kernel
theorem dX3_init_44 : decode cX3_init 44 = .ok (.aload_n 0, 1) := by decide +kernel
theorem dX3_init_45 : decode cX3_init 45 = .ok (.new 31, 3) := by decide +kernel
theorem dX3_init_48 : decode cX3_init 48 = .ok (.dup, 1) := by decide +kernel
theorem dX3_init_49 : decode cX3_init 49 = .ok (.invokespecial 33, 3) := by decide +kernel
theorem dX3_init_52 : decode cX3_init 52 = .ok (.putfield 34, 3) := by decide +kernel
theorem dX3_init_55 : decode cX3_init 55 = .ok (.aload_n 0, 1) := by decide +kernel
theorem dX3_init_56 : decode cX3_init 56 = .ok (.new 38, 3) := by decide +kernel
theorem dX3_init_59 : decode cX3_init 59 = .ok (.dup, 1) := by decide +kernel
theorem dX3_init_60 : decode cX3_init 60 = .ok (.invokespecial 40, 3) := by decide +kernel
theorem dX3_init_63 : decode cX3_init 63 = .ok (.putfield 41, 3) := by decide +kernel
theorem dX3_init_66 : decode cX3_init 66 = .ok (.return_, 1) := by decide +kernel
set_option maxRecDepth 20000 in
theorem ggX3_bar_X3_checkRange : GoodIn wsX3_bar wsX3_checkRange := goodIn_ca (goodIn_r _ [9, 10, 11] (by decide +kernel) (by decide +kernel)) (goodIn_sub (fun _ h => List.mem_cons_of_mem _ (List.mem_append_right _ h)) (by decide +kernel))
set_option maxRecDepth 20000 in
theorem gX3_bar_X3_checkRange : GoodIn wsX3_bar (va_wsS RX3 52 yX3_checkRange wsX3_checkRange) := goodIn_app (goodIn_of _ (by decide +kernel)) ggX3_bar_X3_checkRange
set_option maxRecDepth 20000 in
theorem ggX3_bar_X1_addBar : GoodIn wsX3_bar wsX1_addBar := goodIn_r _ [15, 16, 17, 18, 19, 20, 13, 21, 29, 30, 31, 32, 33, 34, 35, 36] (by decide +kernel) (by decide +kernel)
set_option maxRecDepth 20000 in
theorem gX3_bar_X1_addBar_n64 : GoodIn wsX3_bar (wsX1_addBar) := ggX3_bar_X1_addBar
theorem dX3_bar_0 : decode cX3_bar 0 = .ok (.iload_n 1, 1) := by decide +kernel
theorem dX3_bar_1 : decode cX3_bar 1 = .ok (.ifCond .lt 8, 3) := by decide +kernel
theorem dX3_bar_4 : decode cX3_bar 4 = .ok (.iload_n 1, 1) := by decide +kernel
theorem dX3_bar_5 : decode cX3_bar 5 = .ok (.iconst 2, 1) := by decide +kernel
theorem dX3_bar_6 : decode cX3_bar 6 = .ok (.if_icmp .lt 13, 3) := by decide +kernel
theorem dX3_bar_9 : decode cX3_bar 9 = .ok (.new 45, 3) := by decide +kernel
theorem dX3_bar_12 : decode cX3_bar 12 = .ok (.dup, 1) := by decide +kernel
theorem dX3_bar_13 : decode cX3_bar 13 = .ok (.ldc 47, 2) := by decide +kernel
theorem dX3_bar_15 : decode cX3_bar 15 = .ok (.invokespecial 49, 3) := by decide +kernel
theorem dX3_bar_18 : decode cX3_bar 18 = .ok (.athrow, 1) := by decide +kernel
theorem dX3_bar_19 : decode cX3_bar 19 = .ok (.iload_n 2, 1) := by decide +kernel
theorem dX3_bar_20 : decode cX3_bar 20 = .ok (.iconst 0, 1) := by decide +kernel
theorem dX3_bar_21 : decode cX3_bar 21 = .ok (.bipush 100, 2) := by decide +kernel
theorem dX3_bar_23 : decode cX3_bar 23 = .ok (.invokestatic 52, 3) := by decide +kernel
theorem dX3_bar_26 : decode cX3_bar 26 = .ok (.iload_n 3, 1) := by decide +kernel
theorem dX3_bar_27 : decode cX3_bar 27 = .ok (.iconst 1, 1) := by decide +kernel
theorem dX3_bar_28 : decode cX3_bar 28 = .ok (.sipush 500, 3) := by decide +kernel
theorem dX3_bar_31 : decode cX3_bar 31 = .ok (.invokestatic 52, 3) := by decide +kernel
theorem dX3_bar_34 : decode cX3_bar 34 = .ok (.aload_n 0, 1) := by decide +kernel
theorem dX3_bar_35 : decode cX3_bar 35 = .ok (.getfield 27, 3) := by decide +kernel
theorem dX3_bar_38 : decode cX3_bar 38 = .ok (.getfield 56, 3) := by decide +kernel
theorem dX3_bar_41 : decode cX3_bar 41 = .ok (.iload_n 1, 1) := by decide +kernel
theorem dX3_bar_42 : decode cX3_bar 42 = .ok (.iaload, 1) := by decide +kernel
theorem dX3_bar_43 : decode cX3_bar 43 = .ok (.iconst 4, 1) := by decide +kernel
theorem dX3_bar_44 : decode cX3_bar 44 = .ok (.if_icmp .lt 13, 3) := by decide +kernel
theorem dX3_bar_47 : decode cX3_bar 47 = .ok (.new 59, 3) := by decide +kernel
theorem dX3_bar_50 : decode cX3_bar 50 = .ok (.dup, 1) := by decide +kernel
theorem dX3_bar_51 : decode cX3_bar 51 = .ok (.ldc 61, 2) := by decide +kernel
theorem dX3_bar_53 : decode cX3_bar 53 = .ok (.invokespecial 63, 3) := by decide +kernel
theorem dX3_bar_56 : decode cX3_bar 56 = .ok (.athrow, 1) := by decide +kernel
theorem dX3_bar_57 : decode cX3_bar 57 = .ok (.aload_n 0, 1) := by decide +kernel
theorem dX3_bar_58 : decode cX3_bar 58 = .ok (.getfield 27, 3) := by decide +kernel
theorem dX3_bar_61 : decode cX3_bar 61 = .ok (.iload_n 1, 1) := by decide +kernel
theorem dX3_bar_62 : decode cX3_bar 62 = .ok (.iload_n 2, 1) := by decide +kernel
theorem dX3_bar_63 : decode cX3_bar 63 = .ok (.iload_n 3, 1) := by decide +kernel
theorem dX3_bar_64 : decode cX3_bar 64 = .ok (.invokevirtual 64, 3) := by decide +kernel
theorem dX3_bar_67 : decode cX3_bar 67 = .ok (.ireturn, 1) := by decide +kernel
set_option maxRecDepth 20000 in
theorem ggX3_lamp_X3_checkRange : GoodIn wsX3_lamp wsX3_checkRange := goodIn_ca (goodIn_r _ [10, 11, 12] (by decide +kernel) (by decide +kernel)) (goodIn_sub (fun _ h => List.mem_cons_of_mem _ (List.mem_append_right _ h)) (by decide +kernel))
set_option maxRecDepth 20000 in
theorem gX3_lamp_X3_checkRange : GoodIn wsX3_lamp (va_wsS RX3 52 yX3_checkRange wsX3_checkRange) := goodIn_app (goodIn_of _ (by decide +kernel)) ggX3_lamp_X3_checkRange
set_option maxRecDepth 20000 in
theorem ggX3_lamp_X3_weightOfKind : GoodIn wsX3_lamp wsX3_weightOfKind := goodIn_r _ [15] (by decide +kernel) (by decide +kernel)
set_option maxRecDepth 20000 in
theorem gX3_lamp_X3_weightOfKind : GoodIn wsX3_lamp (va_wsS RX3 73 yX3_weightOfKind wsX3_weightOfKind) := goodIn_app (goodIn_of _ (by decide +kernel)) ggX3_lamp_X3_weightOfKind
set_option maxRecDepth 20000 in
theorem ggX3_lamp_X3_widthOfKind : GoodIn wsX3_lamp wsX3_widthOfKind := goodIn_r _ [18] (by decide +kernel) (by decide +kernel)
set_option maxRecDepth 20000 in
theorem gX3_lamp_X3_widthOfKind : GoodIn wsX3_lamp (va_wsS RX3 80 yX3_widthOfKind wsX3_widthOfKind) := goodIn_app (goodIn_of _ (by decide +kernel)) ggX3_lamp_X3_widthOfKind
set_option maxRecDepth 20000 in
theorem ggX3_lamp_X3_wattsOfKind : GoodIn wsX3_lamp wsX3_wattsOfKind := goodIn_r _ [21] (by decide +kernel) (by decide +kernel)
set_option maxRecDepth 20000 in
theorem gX3_lamp_X3_wattsOfKind : GoodIn wsX3_lamp (va_wsS RX3 86 yX3_wattsOfKind wsX3_wattsOfKind) := goodIn_app (goodIn_of _ (by decide +kernel)) ggX3_lamp_X3_wattsOfKind
theorem dX3_lamp_0 : decode cX3_lamp 0 = .ok (.iload_n 1, 1) := by decide +kernel
theorem dX3_lamp_1 : decode cX3_lamp 1 = .ok (.iconst 0, 1) := by decide +kernel
theorem dX3_lamp_2 : decode cX3_lamp 2 = .ok (.iconst 3, 1) := by decide +kernel
theorem dX3_lamp_3 : decode cX3_lamp 3 = .ok (.invokestatic 52, 3) := by decide +kernel
theorem dX3_lamp_6 : decode cX3_lamp 6 = .ok (.iload_n 2, 1) := by decide +kernel
theorem dX3_lamp_7 : decode cX3_lamp 7 = .ok (.iconst 0, 1) := by decide +kernel
theorem dX3_lamp_8 : decode cX3_lamp 8 = .ok (.bipush 20, 2) := by decide +kernel
theorem dX3_lamp_10 : decode cX3_lamp 10 = .ok (.invokestatic 52, 3) := by decide +kernel
theorem dX3_lamp_13 : decode cX3_lamp 13 = .ok (.aload_n 0, 1) := by decide +kernel
theorem dX3_lamp_14 : decode cX3_lamp 14 = .ok (.getfield 7, 3) := by decide +kernel
theorem dX3_lamp_17 : decode cX3_lamp 17 = .ok (.bipush 10, 2) := by decide +kernel
theorem dX3_lamp_19 : decode cX3_lamp 19 = .ok (.if_icmp .lt 13, 3) := by decide +kernel
theorem dX3_lamp_22 : decode cX3_lamp 22 = .ok (.new 59, 3) := by decide +kernel
theorem dX3_lamp_25 : decode cX3_lamp 25 = .ok (.dup, 1) := by decide +kernel
theorem dX3_lamp_26 : decode cX3_lamp 26 = .ok (.ldc 68, 2) := by decide +kernel
theorem dX3_lamp_28 : decode cX3_lamp 28 = .ok (.invokespecial 63, 3) := by decide +kernel
theorem dX3_lamp_31 : decode cX3_lamp 31 = .ok (.athrow, 1) := by decide +kernel
theorem dX3_lamp_32 : decode cX3_lamp 32 = .ok (.aload_n 0, 1) := by decide +kernel
theorem dX3_lamp_33 : decode cX3_lamp 33 = .ok (.getfield 7, 3) := by decide +kernel
theorem dX3_lamp_36 : decode cX3_lamp 36 = .ok (.istore_n 3, 1) := by decide +kernel
theorem dX3_lamp_37 : decode cX3_lamp 37 = .ok (.aload_n 0, 1) := by decide +kernel
theorem dX3_lamp_38 : decode cX3_lamp 38 = .ok (.dup, 1) := by decide +kernel
theorem dX3_lamp_39 : decode cX3_lamp 39 = .ok (.getfield 7, 3) := by decide +kernel
theorem dX3_lamp_42 : decode cX3_lamp 42 = .ok (.iconst 1, 1) := by decide +kernel
theorem dX3_lamp_43 : decode cX3_lamp 43 = .ok (.iadd, 1) := by decide +kernel
theorem dX3_lamp_44 : decode cX3_lamp 44 = .ok (.putfield 7, 3) := by decide +kernel
theorem dX3_lamp_47 : decode cX3_lamp 47 = .ok (.aload_n 0, 1) := by decide +kernel
theorem dX3_lamp_48 : decode cX3_lamp 48 = .ok (.getfield 13, 3) := by decide +kernel
theorem dX3_lamp_51 : decode cX3_lamp 51 = .ok (.iload_n 3, 1) := by decide +kernel
theorem dX3_lamp_52 : decode cX3_lamp 52 = .ok (.iload_n 2, 1) := by decide +kernel
theorem dX3_lamp_53 : decode cX3_lamp 53 = .ok (.iastore, 1) := by decide +kernel
theorem dX3_lamp_54 : decode cX3_lamp 54 = .ok (.aload_n 0, 1) := by decide +kernel
theorem dX3_lamp_55 : decode cX3_lamp 55 = .ok (.getfield 27, 3) := by decide +kernel
theorem dX3_lamp_58 : decode cX3_lamp 58 = .ok (.getfield 70, 3) := by decide +kernel
theorem dX3_lamp_61 : decode cX3_lamp 61 = .ok (.iload_n 3, 1) := by decide +kernel
theorem dX3_lamp_62 : decode cX3_lamp 62 = .ok (.iload_n 1, 1) := by decide +kernel
theorem dX3_lamp_63 : decode cX3_lamp 63 = .ok (.invokestatic 73, 3) := by decide +kernel
theorem dX3_lamp_66 : decode cX3_lamp 66 = .ok (.iastore, 1) := by decide +kernel
theorem dX3_lamp_67 : decode cX3_lamp 67 = .ok (.aload_n 0, 1) := by decide +kernel
theorem dX3_lamp_68 : decode cX3_lamp 68 = .ok (.getfield 34, 3) := by decide +kernel
theorem dX3_lamp_71 : decode cX3_lamp 71 = .ok (.getfield 77, 3) := by decide +kernel
theorem dX3_lamp_74 : decode cX3_lamp 74 = .ok (.iload_n 3, 1) := by decide +kernel
theorem dX3_lamp_75 : decode cX3_lamp 75 = .ok (.iload_n 1, 1) := by decide +kernel
theorem dX3_lamp_76 : decode cX3_lamp 76 = .ok (.invokestatic 80, 3) := by decide +kernel
theorem dX3_lamp_79 : decode cX3_lamp 79 = .ok (.iastore, 1) := by decide +kernel
theorem dX3_lamp_80 : decode cX3_lamp 80 = .ok (.aload_n 0, 1) := by decide +kernel
theorem dX3_lamp_81 : decode cX3_lamp 81 = .ok (.getfield 34, 3) := by decide +kernel
theorem dX3_lamp_84 : decode cX3_lamp 84 = .ok (.getfield 83, 3) := by decide +kernel
theorem dX3_lamp_87 : decode cX3_lamp 87 = .ok (.iload_n 3, 1) := by decide +kernel
theorem dX3_lamp_88 : decode cX3_lamp 88 = .ok (.iload_n 1, 1) := by decide +kernel
theorem dX3_lamp_89 : decode cX3_lamp 89 = .ok (.invokestatic 86, 3) := by decide +kernel
theorem dX3_lamp_92 : decode cX3_lamp 92 = .ok (.iastore, 1) := by decide +kernel
theorem dX3_lamp_93 : decode cX3_lamp 93 = .ok (.iload_n 3, 1) := by decide +kernel
theorem dX3_lamp_94 : decode cX3_lamp 94 = .ok (.ireturn, 1) := by decide +kernel
set_option maxRecDepth 20000 in
theorem ggX3_hang_X3_checkLamp : GoodIn wsX3_hang wsX3_checkLamp := goodIn_ca (goodIn_r _ [10, 1, 2, 11, 50, 51, 52, 53, 54, 55, 56] (by decide +kernel) (by decide +kernel)) (goodIn_sub (fun _ h => List.mem_cons_of_mem _ (List.mem_append_left _ (List.mem_append_right _ h))) (by decide +kernel))
set_option maxRecDepth 20000 in
theorem gX3_hang_X3_checkLamp : GoodIn wsX3_hang (wsV RX3 89 RX3 yX3_checkLamp wsX3_checkLamp) := goodIn_app (goodIn_of _ (by decide +kernel)) ggX3_hang_X3_checkLamp
set_option maxRecDepth 20000 in
theorem ggX3_hang_X3_checkBar : GoodIn wsX3_hang wsX3_checkBar := goodIn_ca (goodIn_r _ [15, 1, 2, 5, 16, 17, 18, 19, 20, 21, 50, 51, 52, 53, 54, 55, 56, 57, 58, 59, 60, 61, 62, 63, 64] (by decide +kernel) (by decide +kernel)) (goodIn_sub (fun _ h => List.mem_cons_of_mem _ (List.mem_append_left _ (List.mem_append_right _ h))) (by decide +kernel))
set_option maxRecDepth 20000 in
theorem gX3_hang_X3_checkBar : GoodIn wsX3_hang (wsV RX3 93 RX3 yX3_checkBar wsX3_checkBar) := goodIn_app (goodIn_of _ (by decide +kernel)) ggX3_hang_X3_checkBar
set_option maxRecDepth 20000 in
theorem ggX3_hang_X1_hasPlace : GoodIn wsX3_hang wsX1_hasPlace := goodIn_r _ [24, 25, 21, 26, 27, 17, 28, 57, 58, 59, 60, 61, 62, 63, 64] (by decide +kernel) (by decide +kernel)
set_option maxRecDepth 20000 in
theorem gX3_hang_X1_hasPlace_n96 : GoodIn wsX3_hang (wsX1_hasPlace) := ggX3_hang_X1_hasPlace
set_option maxRecDepth 20000 in
theorem ggX3_hang_X1_bears : GoodIn wsX3_hang wsX1_bears := goodIn_r _ [31, 32, 33, 34, 21, 35, 36, 37, 17, 38, 26, 27, 28, 57, 58, 59, 60, 61, 62, 63, 64] (by decide +kernel) (by decide +kernel)
set_option maxRecDepth 20000 in
theorem gX3_hang_X1_bears_n102 : GoodIn wsX3_hang (wsX1_bears) := ggX3_hang_X1_bears
set_option maxRecDepth 20000 in
theorem ggX3_hang_X1_isClear : GoodIn wsX3_hang wsX1_isClear := goodIn_r _ [41, 32, 42, 43, 44, 45, 46, 57, 58, 59, 60, 61, 62, 63, 64] (by decide +kernel) (by decide +kernel)
set_option maxRecDepth 20000 in
theorem gX3_hang_X1_isClear_n105 : GoodIn wsX3_hang (wsX1_isClear) := ggX3_hang_X1_isClear
set_option maxRecDepth 20000 in
theorem ggX3_hang_X1_put : GoodIn wsX3_hang wsX1_put := goodIn_r _ [49, 32, 42, 57, 58, 59, 60, 61, 62, 63, 64] (by decide +kernel) (by decide +kernel)
set_option maxRecDepth 20000 in
theorem gX3_hang_X1_put_n111 : GoodIn wsX3_hang (wsX1_put) := ggX3_hang_X1_put
set_option maxRecDepth 20000 in
theorem ggX3_hang_X1_weightOn : GoodIn wsX3_hang wsX1_weightOn := goodIn_r _ [38, 32, 33, 57, 58, 59, 60, 61, 62, 63, 64] (by decide +kernel) (by decide +kernel)
set_option maxRecDepth 20000 in
theorem gX3_hang_X1_weightOn_n114 : GoodIn wsX3_hang (wsX1_weightOn) := ggX3_hang_X1_weightOn
theorem dX3_hang_0 : decode cX3_hang 0 = .ok (.aload_n 0, 1) := by decide +kernel
theorem dX3_hang_1 : decode cX3_hang 1 = .ok (.iload_n 1, 1) := by decide +kernel
theorem dX3_hang_2 : decode cX3_hang 2 = .ok (.invokevirtual 89, 3) := by decide +kernel
theorem dX3_hang_5 : decode cX3_hang 5 = .ok (.aload_n 0, 1) := by decide +kernel
theorem dX3_hang_6 : decode cX3_hang 6 = .ok (.iload_n 2, 1) := by decide +kernel
theorem dX3_hang_7 : decode cX3_hang 7 = .ok (.invokevirtual 93, 3) := by decide +kernel
theorem dX3_hang_10 : decode cX3_hang 10 = .ok (.aload_n 0, 1) := by decide +kernel
theorem dX3_hang_11 : decode cX3_hang 11 = .ok (.getfield 27, 3) := by decide +kernel
theorem dX3_hang_14 : decode cX3_hang 14 = .ok (.iload_n 2, 1) := by decide +kernel
theorem dX3_hang_15 : decode cX3_hang 15 = .ok (.iload_n 3, 1) := by decide +kernel
theorem dX3_hang_16 : decode cX3_hang 16 = .ok (.invokevirtual 96, 3) := by decide +kernel
theorem dX3_hang_19 : decode cX3_hang 19 = .ok (.ifCond .ne 13, 3) := by decide +kernel
theorem dX3_hang_22 : decode cX3_hang 22 = .ok (.new 45, 3) := by decide +kernel
theorem dX3_hang_25 : decode cX3_hang 25 = .ok (.dup, 1) := by decide +kernel
theorem dX3_hang_26 : decode cX3_hang 26 = .ok (.ldc 100, 2) := by decide +kernel
theorem dX3_hang_28 : decode cX3_hang 28 = .ok (.invokespecial 49, 3) := by decide +kernel
theorem dX3_hang_31 : decode cX3_hang 31 = .ok (.athrow, 1) := by decide +kernel
theorem dX3_hang_32 : decode cX3_hang 32 = .ok (.aload_n 0, 1) := by decide +kernel
theorem dX3_hang_33 : decode cX3_hang 33 = .ok (.getfield 27, 3) := by decide +kernel
theorem dX3_hang_36 : decode cX3_hang 36 = .ok (.iload_n 1, 1) := by decide +kernel
theorem dX3_hang_37 : decode cX3_hang 37 = .ok (.iload_n 2, 1) := by decide +kernel
theorem dX3_hang_38 : decode cX3_hang 38 = .ok (.invokevirtual 102, 3) := by decide +kernel
theorem dX3_hang_41 : decode cX3_hang 41 = .ok (.ifCond .eq 16, 3) := by decide +kernel
theorem dX3_hang_44 : decode cX3_hang 44 = .ok (.aload_n 0, 1) := by decide +kernel
theorem dX3_hang_45 : decode cX3_hang 45 = .ok (.getfield 27, 3) := by decide +kernel
theorem dX3_hang_48 : decode cX3_hang 48 = .ok (.iload_n 1, 1) := by decide +kernel
theorem dX3_hang_49 : decode cX3_hang 49 = .ok (.iload_n 2, 1) := by decide +kernel
theorem dX3_hang_50 : decode cX3_hang 50 = .ok (.iload_n 3, 1) := by decide +kernel
theorem dX3_hang_51 : decode cX3_hang 51 = .ok (.invokevirtual 105, 3) := by decide +kernel
theorem dX3_hang_54 : decode cX3_hang 54 = .ok (.ifCond .ne 13, 3) := by decide +kernel
theorem dX3_hang_57 : decode cX3_hang 57 = .ok (.new 59, 3) := by decide +kernel
theorem dX3_hang_60 : decode cX3_hang 60 = .ok (.dup, 1) := by decide +kernel
theorem dX3_hang_61 : decode cX3_hang 61 = .ok (.ldc 109, 2) := by decide +kernel
theorem dX3_hang_63 : decode cX3_hang 63 = .ok (.invokespecial 63, 3) := by decide +kernel
theorem dX3_hang_66 : decode cX3_hang 66 = .ok (.athrow, 1) := by decide +kernel
theorem dX3_hang_67 : decode cX3_hang 67 = .ok (.aload_n 0, 1) := by decide +kernel
theorem dX3_hang_68 : decode cX3_hang 68 = .ok (.getfield 27, 3) := by decide +kernel
theorem dX3_hang_71 : decode cX3_hang 71 = .ok (.iload_n 1, 1) := by decide +kernel
theorem dX3_hang_72 : decode cX3_hang 72 = .ok (.iload_n 2, 1) := by decide +kernel
theorem dX3_hang_73 : decode cX3_hang 73 = .ok (.iload_n 3, 1) := by decide +kernel
theorem dX3_hang_74 : decode cX3_hang 74 = .ok (.invokevirtual 111, 3) := by decide +kernel
theorem dX3_hang_77 : decode cX3_hang 77 = .ok (.aload_n 0, 1) := by decide +kernel
theorem dX3_hang_78 : decode cX3_hang 78 = .ok (.getfield 27, 3) := by decide +kernel
theorem dX3_hang_81 : decode cX3_hang 81 = .ok (.iload_n 2, 1) := by decide +kernel
theorem dX3_hang_82 : decode cX3_hang 82 = .ok (.invokevirtual 114, 3) := by decide +kernel
theorem dX3_hang_85 : decode cX3_hang 85 = .ok (.ireturn, 1) := by decide +kernel
set_option maxRecDepth 20000 in
theorem ggX3_down_X3_checkLamp : GoodIn wsX3_down wsX3_checkLamp := goodIn_ca (goodIn_r _ [6, 7, 8, 9, 15, 16, 17, 18, 19, 20, 21] (by decide +kernel) (by decide +kernel)) (goodIn_sub (fun _ h => List.mem_cons_of_mem _ (List.mem_append_right _ h)) (by decide +kernel))
set_option maxRecDepth 20000 in
theorem gX3_down_X3_checkLamp : GoodIn wsX3_down (wsV RX3 89 RX3 yX3_checkLamp wsX3_checkLamp) := goodIn_app (goodIn_of _ (by decide +kernel)) ggX3_down_X3_checkLamp
set_option maxRecDepth 20000 in
theorem ggX3_down_X1_hangs : GoodIn wsX3_down wsX1_hangs := goodIn_r _ [13, 14, 22, 23, 24, 25, 26, 27, 28, 29] (by decide +kernel) (by decide +kernel)
set_option maxRecDepth 20000 in
theorem gX3_down_X1_hangs_n117 : GoodIn wsX3_down (wsX1_hangs) := ggX3_down_X1_hangs
theorem dX3_down_0 : decode cX3_down 0 = .ok (.aload_n 0, 1) := by decide +kernel
theorem dX3_down_1 : decode cX3_down 1 = .ok (.iload_n 1, 1) := by decide +kernel
theorem dX3_down_2 : decode cX3_down 2 = .ok (.invokevirtual 89, 3) := by decide +kernel
theorem dX3_down_5 : decode cX3_down 5 = .ok (.aload_n 0, 1) := by decide +kernel
theorem dX3_down_6 : decode cX3_down 6 = .ok (.getfield 27, 3) := by decide +kernel
theorem dX3_down_9 : decode cX3_down 9 = .ok (.iload_n 1, 1) := by decide +kernel
theorem dX3_down_10 : decode cX3_down 10 = .ok (.invokevirtual 117, 3) := by decide +kernel
theorem dX3_down_13 : decode cX3_down 13 = .ok (.istore_n 2, 1) := by decide +kernel
theorem dX3_down_14 : decode cX3_down 14 = .ok (.aload_n 0, 1) := by decide +kernel
theorem dX3_down_15 : decode cX3_down 15 = .ok (.getfield 27, 3) := by decide +kernel
theorem dX3_down_18 : decode cX3_down 18 = .ok (.getfield 121, 3) := by decide +kernel
theorem dX3_down_21 : decode cX3_down 21 = .ok (.iload_n 1, 1) := by decide +kernel
theorem dX3_down_22 : decode cX3_down 22 = .ok (.iconst (-1), 1) := by decide +kernel
theorem dX3_down_23 : decode cX3_down 23 = .ok (.iastore, 1) := by decide +kernel
theorem dX3_down_24 : decode cX3_down 24 = .ok (.iload_n 2, 1) := by decide +kernel
theorem dX3_down_25 : decode cX3_down 25 = .ok (.ireturn, 1) := by decide +kernel
set_option maxRecDepth 20000 in
theorem ggX3_onBar_X3_checkBar : GoodIn wsX3_onBar wsX3_checkBar := goodIn_ca (goodIn_r _ [8, 1, 2, 3, 9, 10, 11, 12, 13, 14, 24, 25, 26, 27, 28, 29, 30, 31, 32, 33, 34, 35, 36, 37, 38] (by decide +kernel) (by decide +kernel)) (goodIn_sub (fun _ h => List.mem_cons_of_mem _ (List.mem_append_right _ h)) (by decide +kernel))
set_option maxRecDepth 20000 in
theorem gX3_onBar_X3_checkBar : GoodIn wsX3_onBar (wsV RX3 93 RX3 yX3_checkBar wsX3_checkBar) := goodIn_app (goodIn_of _ (by decide +kernel)) ggX3_onBar_X3_checkBar
set_option maxRecDepth 20000 in
theorem ggX3_onBar_X1_ranked : GoodIn wsX3_onBar wsX1_ranked := goodIn_r _ [17, 18, 19, 20, 21, 22, 10, 23, 31, 32, 33, 34, 35, 36, 37, 38] (by decide +kernel) (by decide +kernel)
set_option maxRecDepth 20000 in
theorem gX3_onBar_X1_ranked_n124 : GoodIn wsX3_onBar (wsX1_ranked) := ggX3_onBar_X1_ranked
theorem dX3_onBar_0 : decode cX3_onBar 0 = .ok (.aload_n 0, 1) := by decide +kernel
theorem dX3_onBar_1 : decode cX3_onBar 1 = .ok (.iload_n 1, 1) := by decide +kernel
theorem dX3_onBar_2 : decode cX3_onBar 2 = .ok (.invokevirtual 93, 3) := by decide +kernel
theorem dX3_onBar_5 : decode cX3_onBar 5 = .ok (.aload_n 0, 1) := by decide +kernel
theorem dX3_onBar_6 : decode cX3_onBar 6 = .ok (.getfield 27, 3) := by decide +kernel
theorem dX3_onBar_9 : decode cX3_onBar 9 = .ok (.iload_n 1, 1) := by decide +kernel
theorem dX3_onBar_10 : decode cX3_onBar 10 = .ok (.iload_n 2, 1) := by decide +kernel
theorem dX3_onBar_11 : decode cX3_onBar 11 = .ok (.invokevirtual 124, 3) := by decide +kernel
theorem dX3_onBar_14 : decode cX3_onBar 14 = .ok (.istore_n 3, 1) := by decide +kernel
theorem dX3_onBar_15 : decode cX3_onBar 15 = .ok (.iload_n 3, 1) := by decide +kernel
theorem dX3_onBar_16 : decode cX3_onBar 16 = .ok (.iconst (-1), 1) := by decide +kernel
theorem dX3_onBar_17 : decode cX3_onBar 17 = .ok (.if_icmp .ne 13, 3) := by decide +kernel
theorem dX3_onBar_20 : decode cX3_onBar 20 = .ok (.new 45, 3) := by decide +kernel
theorem dX3_onBar_23 : decode cX3_onBar 23 = .ok (.dup, 1) := by decide +kernel
theorem dX3_onBar_24 : decode cX3_onBar 24 = .ok (.ldc 128, 2) := by decide +kernel
theorem dX3_onBar_26 : decode cX3_onBar 26 = .ok (.invokespecial 49, 3) := by decide +kernel
theorem dX3_onBar_29 : decode cX3_onBar 29 = .ok (.athrow, 1) := by decide +kernel
theorem dX3_onBar_30 : decode cX3_onBar 30 = .ok (.iload_n 3, 1) := by decide +kernel
theorem dX3_onBar_31 : decode cX3_onBar 31 = .ok (.ireturn, 1) := by decide +kernel
set_option maxRecDepth 20000 in
theorem ggX3_where_X3_checkLamp : GoodIn wsX3_where wsX3_checkLamp := goodIn_ca (goodIn_r _ [6, 7, 8, 9, 15, 16, 17, 18, 19, 20, 21] (by decide +kernel) (by decide +kernel)) (goodIn_sub (fun _ h => List.mem_cons_of_mem _ (List.mem_append_right _ h)) (by decide +kernel))
set_option maxRecDepth 20000 in
theorem gX3_where_X3_checkLamp : GoodIn wsX3_where (wsV RX3 89 RX3 yX3_checkLamp wsX3_checkLamp) := goodIn_app (goodIn_of _ (by decide +kernel)) ggX3_where_X3_checkLamp
set_option maxRecDepth 20000 in
theorem ggX3_where_X1_hangs : GoodIn wsX3_where wsX1_hangs := goodIn_r _ [13, 14, 22, 23, 24, 25, 26, 27, 28, 29] (by decide +kernel) (by decide +kernel)
set_option maxRecDepth 20000 in
theorem gX3_where_X1_hangs_n117 : GoodIn wsX3_where (wsX1_hangs) := ggX3_where_X1_hangs
theorem dX3_where_0 : decode cX3_where 0 = .ok (.aload_n 0, 1) := by decide +kernel
theorem dX3_where_1 : decode cX3_where 1 = .ok (.iload_n 1, 1) := by decide +kernel
theorem dX3_where_2 : decode cX3_where 2 = .ok (.invokevirtual 89, 3) := by decide +kernel
theorem dX3_where_5 : decode cX3_where 5 = .ok (.aload_n 0, 1) := by decide +kernel
theorem dX3_where_6 : decode cX3_where 6 = .ok (.getfield 27, 3) := by decide +kernel
theorem dX3_where_9 : decode cX3_where 9 = .ok (.iload_n 1, 1) := by decide +kernel
theorem dX3_where_10 : decode cX3_where 10 = .ok (.invokevirtual 117, 3) := by decide +kernel
theorem dX3_where_13 : decode cX3_where 13 = .ok (.ifCond .eq 29, 3) := by decide +kernel
theorem dX3_where_16 : decode cX3_where 16 = .ok (.sipush 1000, 3) := by decide +kernel
theorem dX3_where_19 : decode cX3_where 19 = .ok (.aload_n 0, 1) := by decide +kernel
theorem dX3_where_20 : decode cX3_where 20 = .ok (.getfield 27, 3) := by decide +kernel
theorem dX3_where_23 : decode cX3_where 23 = .ok (.getfield 121, 3) := by decide +kernel
theorem dX3_where_26 : decode cX3_where 26 = .ok (.iload_n 1, 1) := by decide +kernel
theorem dX3_where_27 : decode cX3_where 27 = .ok (.iaload, 1) := by decide +kernel
theorem dX3_where_28 : decode cX3_where 28 = .ok (.imul, 1) := by decide +kernel
theorem dX3_where_29 : decode cX3_where 29 = .ok (.aload_n 0, 1) := by decide +kernel
theorem dX3_where_30 : decode cX3_where 30 = .ok (.getfield 27, 3) := by decide +kernel
theorem dX3_where_33 : decode cX3_where 33 = .ok (.getfield 130, 3) := by decide +kernel
theorem dX3_where_36 : decode cX3_where 36 = .ok (.iload_n 1, 1) := by decide +kernel
theorem dX3_where_37 : decode cX3_where 37 = .ok (.iaload, 1) := by decide +kernel
theorem dX3_where_38 : decode cX3_where 38 = .ok (.iadd, 1) := by decide +kernel
theorem dX3_where_39 : decode cX3_where 39 = .ok (.goto 4, 3) := by decide +kernel
theorem dX3_where_42 : decode cX3_where 42 = .ok (.iconst (-1), 1) := by decide +kernel
theorem dX3_where_43 : decode cX3_where 43 = .ok (.ireturn, 1) := by decide +kernel
set_option maxRecDepth 20000 in
theorem ggX3_tour_X1_changeHouse : GoodIn wsX3_tour wsX1_changeHouse := goodIn_r _ [5, 6, 7, 8, 9, 10, 11, 3, 12, 13, 14, 15, 16, 17, 18, 19, 20, 21, 22, 23, 24, 25, 26, 27, 28, 29, 30, 31, 32, 33, 34, 35, 36, 37, 38, 39, 40, 41, 42, 43, 44, 45, 46, 47, 48, 49, 50, 51, 52, 60, 61, 62, 63, 64, 65, 66, 67] (by decide +kernel) (by decide +kernel)
set_option maxRecDepth 20000 in
theorem gX3_tour_X1_changeHouse_n133 : GoodIn wsX3_tour (wsX1_changeHouse) := ggX3_tour_X1_changeHouse
theorem dX3_tour_0 : decode cX3_tour 0 = .ok (.aload_n 0, 1) := by decide +kernel
theorem dX3_tour_1 : decode cX3_tour 1 = .ok (.getfield 27, 3) := by decide +kernel
theorem dX3_tour_4 : decode cX3_tour 4 = .ok (.invokevirtual 133, 3) := by decide +kernel
theorem dX3_tour_7 : decode cX3_tour 7 = .ok (.ireturn, 1) := by decide +kernel
set_option maxRecDepth 20000 in
theorem ggX3_patch_X3_checkLamp : GoodIn wsX3_patch wsX3_checkLamp := goodIn_ca (goodIn_r _ [6, 7, 8, 9, 25, 26, 27, 28, 29, 30, 31] (by decide +kernel) (by decide +kernel)) (goodIn_sub (fun _ h => List.mem_cons_of_mem _ (List.mem_append_left _ (List.mem_append_right _ h))) (by decide +kernel))
set_option maxRecDepth 20000 in
theorem gX3_patch_X3_checkLamp : GoodIn wsX3_patch (wsV RX3 89 RX3 yX3_checkLamp wsX3_checkLamp) := goodIn_app (goodIn_of _ (by decide +kernel)) ggX3_patch_X3_checkLamp
set_option maxRecDepth 20000 in
theorem ggX3_patch_X3_checkRange : GoodIn wsX3_patch wsX3_checkRange := goodIn_ca (goodIn_r _ [12, 13, 14] (by decide +kernel) (by decide +kernel)) (goodIn_sub (fun _ h => List.mem_cons_of_mem _ (List.mem_append_right _ h)) (by decide +kernel))
set_option maxRecDepth 20000 in
theorem gX3_patch_X3_checkRange : GoodIn wsX3_patch (va_wsS RX3 52 yX3_checkRange wsX3_checkRange) := goodIn_app (goodIn_of _ (by decide +kernel)) ggX3_patch_X3_checkRange
set_option maxRecDepth 20000 in
theorem ggX3_patch_X0_countDoubles : GoodIn wsX3_patch wsX0_countDoubles := goodIn_r _ [18, 19, 20, 21, 16, 22, 23, 24, 32, 33, 34, 35] (by decide +kernel) (by decide +kernel)
set_option maxRecDepth 20000 in
theorem gX3_patch_X0_countDoubles_n140 : GoodIn wsX3_patch (wsX0_countDoubles) := ggX3_patch_X0_countDoubles
theorem dX3_patch_0 : decode cX3_patch 0 = .ok (.aload_n 0, 1) := by decide +kernel
theorem dX3_patch_1 : decode cX3_patch 1 = .ok (.iload_n 1, 1) := by decide +kernel
theorem dX3_patch_2 : decode cX3_patch 2 = .ok (.invokevirtual 89, 3) := by decide +kernel
theorem dX3_patch_5 : decode cX3_patch 5 = .ok (.iload_n 2, 1) := by decide +kernel
theorem dX3_patch_6 : decode cX3_patch 6 = .ok (.iconst (-1), 1) := by decide +kernel
theorem dX3_patch_7 : decode cX3_patch 7 = .ok (.bipush 100, 2) := by decide +kernel
theorem dX3_patch_9 : decode cX3_patch 9 = .ok (.aload_n 0, 1) := by decide +kernel
theorem dX3_patch_10 : decode cX3_patch 10 = .ok (.getfield 34, 3) := by decide +kernel
theorem dX3_patch_13 : decode cX3_patch 13 = .ok (.getfield 77, 3) := by decide +kernel
theorem dX3_patch_16 : decode cX3_patch 16 = .ok (.iload_n 1, 1) := by decide +kernel
theorem dX3_patch_17 : decode cX3_patch 17 = .ok (.iaload, 1) := by decide +kernel
theorem dX3_patch_18 : decode cX3_patch 18 = .ok (.isub, 1) := by decide +kernel
theorem dX3_patch_19 : decode cX3_patch 19 = .ok (.invokestatic 52, 3) := by decide +kernel
theorem dX3_patch_22 : decode cX3_patch 22 = .ok (.aload_n 0, 1) := by decide +kernel
theorem dX3_patch_23 : decode cX3_patch 23 = .ok (.getfield 34, 3) := by decide +kernel
theorem dX3_patch_26 : decode cX3_patch 26 = .ok (.getfield 137, 3) := by decide +kernel
theorem dX3_patch_29 : decode cX3_patch 29 = .ok (.iload_n 1, 1) := by decide +kernel
theorem dX3_patch_30 : decode cX3_patch 30 = .ok (.iload_n 2, 1) := by decide +kernel
theorem dX3_patch_31 : decode cX3_patch 31 = .ok (.iastore, 1) := by decide +kernel
theorem dX3_patch_32 : decode cX3_patch 32 = .ok (.aload_n 0, 1) := by decide +kernel
theorem dX3_patch_33 : decode cX3_patch 33 = .ok (.getfield 34, 3) := by decide +kernel
theorem dX3_patch_36 : decode cX3_patch 36 = .ok (.invokevirtual 140, 3) := by decide +kernel
theorem dX3_patch_39 : decode cX3_patch 39 = .ok (.ireturn, 1) := by decide +kernel
set_option maxRecDepth 20000 in
theorem ggX3_gap_X3_checkRange : GoodIn wsX3_gap wsX3_checkRange := goodIn_ca (goodIn_r _ [5, 6, 7] (by decide +kernel) (by decide +kernel)) (goodIn_sub (fun _ h => List.mem_cons_of_mem _ (List.mem_append_right _ h)) (by decide +kernel))
set_option maxRecDepth 20000 in
theorem gX3_gap_X3_checkRange : GoodIn wsX3_gap (va_wsS RX3 52 yX3_checkRange wsX3_checkRange) := goodIn_app (goodIn_of _ (by decide +kernel)) ggX3_gap_X3_checkRange
set_option maxRecDepth 20000 in
theorem ggX3_gap_X0_lowestGap : GoodIn wsX3_gap wsX0_lowestGap := goodIn_r _ [11, 12, 13, 14, 9, 15, 16, 17, 25, 26, 27, 28] (by decide +kernel) (by decide +kernel)
set_option maxRecDepth 20000 in
theorem gX3_gap_X0_lowestGap_n143 : GoodIn wsX3_gap (wsX0_lowestGap) := ggX3_gap_X0_lowestGap
theorem dX3_gap_0 : decode cX3_gap 0 = .ok (.iload_n 1, 1) := by decide +kernel
theorem dX3_gap_1 : decode cX3_gap 1 = .ok (.iconst 1, 1) := by decide +kernel
theorem dX3_gap_2 : decode cX3_gap 2 = .ok (.bipush 100, 2) := by decide +kernel
theorem dX3_gap_4 : decode cX3_gap 4 = .ok (.invokestatic 52, 3) := by decide +kernel
theorem dX3_gap_7 : decode cX3_gap 7 = .ok (.aload_n 0, 1) := by decide +kernel
theorem dX3_gap_8 : decode cX3_gap 8 = .ok (.getfield 34, 3) := by decide +kernel
theorem dX3_gap_11 : decode cX3_gap 11 = .ok (.iload_n 1, 1) := by decide +kernel
theorem dX3_gap_12 : decode cX3_gap 12 = .ok (.invokevirtual 143, 3) := by decide +kernel
theorem dX3_gap_15 : decode cX3_gap 15 = .ok (.ireturn, 1) := by decide +kernel
set_option maxRecDepth 20000 in
theorem ggX3_plug_X3_checkLamp : GoodIn wsX3_plug wsX3_checkLamp := goodIn_ca (goodIn_r _ [6, 7, 8, 9, 13, 14, 15, 16, 17, 18, 19] (by decide +kernel) (by decide +kernel)) (goodIn_sub (fun _ h => List.mem_cons_of_mem _ (List.mem_append_right _ h)) (by decide +kernel))
set_option maxRecDepth 20000 in
theorem gX3_plug_X3_checkLamp : GoodIn wsX3_plug (wsV RX3 89 RX3 yX3_checkLamp wsX3_checkLamp) := goodIn_app (goodIn_of _ (by decide +kernel)) ggX3_plug_X3_checkLamp
set_option maxRecDepth 20000 in
theorem ggX3_plug_X3_checkCircuit : GoodIn wsX3_plug wsX3_checkCircuit := goodIn_ca (goodIn_r _ [12, 7, 8] (by decide +kernel) (by decide +kernel)) (goodIn_sub (fun _ h => List.mem_cons_of_mem _ (List.mem_append_right _ h)) (by decide +kernel))
set_option maxRecDepth 20000 in
theorem gX3_plug_X3_checkCircuit : GoodIn wsX3_plug (va_wsS RX3 146 yX3_checkCircuit wsX3_checkCircuit) := goodIn_app (goodIn_of _ (by decide +kernel)) ggX3_plug_X3_checkCircuit
theorem dX3_plug_0 : decode cX3_plug 0 = .ok (.aload_n 0, 1) := by decide +kernel
theorem dX3_plug_1 : decode cX3_plug 1 = .ok (.iload_n 1, 1) := by decide +kernel
theorem dX3_plug_2 : decode cX3_plug 2 = .ok (.invokevirtual 89, 3) := by decide +kernel
theorem dX3_plug_5 : decode cX3_plug 5 = .ok (.iload_n 2, 1) := by decide +kernel
theorem dX3_plug_6 : decode cX3_plug 6 = .ok (.iconst (-1), 1) := by decide +kernel
theorem dX3_plug_7 : decode cX3_plug 7 = .ok (.if_icmp .eq 7, 3) := by decide +kernel
theorem dX3_plug_10 : decode cX3_plug 10 = .ok (.iload_n 2, 1) := by decide +kernel
theorem dX3_plug_11 : decode cX3_plug 11 = .ok (.invokestatic 146, 3) := by decide +kernel
theorem dX3_plug_14 : decode cX3_plug 14 = .ok (.aload_n 0, 1) := by decide +kernel
theorem dX3_plug_15 : decode cX3_plug 15 = .ok (.getfield 34, 3) := by decide +kernel
theorem dX3_plug_18 : decode cX3_plug 18 = .ok (.getfield 149, 3) := by decide +kernel
theorem dX3_plug_21 : decode cX3_plug 21 = .ok (.iload_n 1, 1) := by decide +kernel
theorem dX3_plug_22 : decode cX3_plug 22 = .ok (.iaload, 1) := by decide +kernel
theorem dX3_plug_23 : decode cX3_plug 23 = .ok (.istore_n 3, 1) := by decide +kernel
theorem dX3_plug_24 : decode cX3_plug 24 = .ok (.aload_n 0, 1) := by decide +kernel
theorem dX3_plug_25 : decode cX3_plug 25 = .ok (.getfield 34, 3) := by decide +kernel
theorem dX3_plug_28 : decode cX3_plug 28 = .ok (.getfield 149, 3) := by decide +kernel
theorem dX3_plug_31 : decode cX3_plug 31 = .ok (.iload_n 1, 1) := by decide +kernel
theorem dX3_plug_32 : decode cX3_plug 32 = .ok (.iload_n 2, 1) := by decide +kernel
theorem dX3_plug_33 : decode cX3_plug 33 = .ok (.iastore, 1) := by decide +kernel
theorem dX3_plug_34 : decode cX3_plug 34 = .ok (.iload_n 3, 1) := by decide +kernel
theorem dX3_plug_35 : decode cX3_plug 35 = .ok (.ireturn, 1) := by decide +kernel
set_option maxRecDepth 20000 in
theorem ggX3_load_X3_checkCircuit : GoodIn wsX3_load wsX3_checkCircuit := goodIn_ca (goodIn_r _ [6, 7, 8] (by decide +kernel) (by decide +kernel)) (goodIn_sub (fun _ h => List.mem_cons_of_mem _ (List.mem_append_right _ h)) (by decide +kernel))
set_option maxRecDepth 20000 in
theorem gX3_load_X3_checkCircuit : GoodIn wsX3_load (va_wsS RX3 146 yX3_checkCircuit wsX3_checkCircuit) := goodIn_app (goodIn_of _ (by decide +kernel)) ggX3_load_X3_checkCircuit
set_option maxRecDepth 20000 in
theorem ggX3_load_X3_shownLevel : GoodIn wsX3_load wsX3_shownLevel := goodIn_r _ [12, 13, 14, 15, 16, 17, 18, 19, 20, 21, 22, 23, 24, 25, 26, 27, 28, 29, 30, 31, 32, 33, 34, 35, 36, 37, 38, 39, 40, 41, 42, 43, 44, 45, 46, 51, 52, 53, 54, 55, 56, 57, 58, 59, 60, 61, 62, 63, 64, 65, 66, 67, 68, 69] (by decide +kernel) (by decide +kernel)
set_option maxRecDepth 20000 in
theorem gX3_load_X3_shownLevel : GoodIn wsX3_load (wsV RX3 152 RX3 yX3_shownLevel wsX3_shownLevel) := goodIn_app (goodIn_of _ (by decide +kernel)) ggX3_load_X3_shownLevel
theorem dX3_load_0 : decode cX3_load 0 = .ok (.iload_n 1, 1) := by decide +kernel
theorem dX3_load_1 : decode cX3_load 1 = .ok (.invokestatic 146, 3) := by decide +kernel
theorem dX3_load_4 : decode cX3_load 4 = .ok (.iconst 0, 1) := by decide +kernel
theorem dX3_load_5 : decode cX3_load 5 = .ok (.istore_n 2, 1) := by decide +kernel
theorem dX3_load_6 : decode cX3_load 6 = .ok (.iconst 0, 1) := by decide +kernel
theorem dX3_load_7 : decode cX3_load 7 = .ok (.istore_n 3, 1) := by decide +kernel
theorem dX3_load_8 : decode cX3_load 8 = .ok (.iload_n 3, 1) := by decide +kernel
theorem dX3_load_9 : decode cX3_load 9 = .ok (.aload_n 0, 1) := by decide +kernel
theorem dX3_load_10 : decode cX3_load 10 = .ok (.getfield 7, 3) := by decide +kernel
theorem dX3_load_13 : decode cX3_load 13 = .ok (.if_icmp .ge 43, 3) := by decide +kernel
theorem dX3_load_16 : decode cX3_load 16 = .ok (.aload_n 0, 1) := by decide +kernel
theorem dX3_load_17 : decode cX3_load 17 = .ok (.getfield 34, 3) := by decide +kernel
theorem dX3_load_20 : decode cX3_load 20 = .ok (.getfield 149, 3) := by decide +kernel
theorem dX3_load_23 : decode cX3_load 23 = .ok (.iload_n 3, 1) := by decide +kernel
theorem dX3_load_24 : decode cX3_load 24 = .ok (.iaload, 1) := by decide +kernel
theorem dX3_load_25 : decode cX3_load 25 = .ok (.iload_n 1, 1) := by decide +kernel
theorem dX3_load_26 : decode cX3_load 26 = .ok (.if_icmp .ne 24, 3) := by decide +kernel
theorem dX3_load_29 : decode cX3_load 29 = .ok (.iload_n 2, 1) := by decide +kernel
theorem dX3_load_30 : decode cX3_load 30 = .ok (.aload_n 0, 1) := by decide +kernel
theorem dX3_load_31 : decode cX3_load 31 = .ok (.getfield 34, 3) := by decide +kernel
theorem dX3_load_34 : decode cX3_load 34 = .ok (.getfield 83, 3) := by decide +kernel
theorem dX3_load_37 : decode cX3_load 37 = .ok (.iload_n 3, 1) := by decide +kernel
theorem dX3_load_38 : decode cX3_load 38 = .ok (.iaload, 1) := by decide +kernel
theorem dX3_load_39 : decode cX3_load 39 = .ok (.aload_n 0, 1) := by decide +kernel
theorem dX3_load_40 : decode cX3_load 40 = .ok (.iload_n 3, 1) := by decide +kernel
theorem dX3_load_41 : decode cX3_load 41 = .ok (.invokevirtual 152, 3) := by decide +kernel
theorem dX3_load_44 : decode cX3_load 44 = .ok (.imul, 1) := by decide +kernel
theorem dX3_load_45 : decode cX3_load 45 = .ok (.bipush 100, 2) := by decide +kernel
theorem dX3_load_47 : decode cX3_load 47 = .ok (.idiv, 1) := by decide +kernel
theorem dX3_load_48 : decode cX3_load 48 = .ok (.iadd, 1) := by decide +kernel
theorem dX3_load_49 : decode cX3_load 49 = .ok (.istore_n 2, 1) := by decide +kernel
theorem dX3_load_50 : decode cX3_load 50 = .ok (.iinc 3 1, 3) := by decide +kernel
theorem dX3_load_53 : decode cX3_load 53 = .ok (.goto (-45), 3) := by decide +kernel
theorem dX3_load_56 : decode cX3_load 56 = .ok (.iload_n 2, 1) := by decide +kernel
theorem dX3_load_57 : decode cX3_load 57 = .ok (.ireturn, 1) := by decide +kernel
set_option maxRecDepth 20000 in
theorem ggX3_cue_X3_checkRange : GoodIn wsX3_cue wsX3_checkRange := goodIn_ca (goodIn_r _ [7, 8, 9] (by decide +kernel) (by decide +kernel)) (goodIn_sub (fun _ h => List.mem_cons_of_mem _ (List.mem_append_right _ h)) (by decide +kernel))
set_option maxRecDepth 20000 in
theorem gX3_cue_X3_checkRange : GoodIn wsX3_cue (va_wsS RX3 52 yX3_checkRange wsX3_checkRange) := goodIn_app (goodIn_of _ (by decide +kernel)) ggX3_cue_X3_checkRange
set_option maxRecDepth 20000 in
theorem ggX3_cue_X2_addCue : GoodIn wsX3_cue wsX2_addCue := goodIn_r _ [13, 14, 15, 16, 17, 25, 26, 27, 28, 29, 30, 31, 32, 33, 34, 35] (by decide +kernel) (by decide +kernel)
set_option maxRecDepth 20000 in
theorem gX3_cue_X2_addCue_n160 : GoodIn wsX3_cue (wsX2_addCue) := ggX3_cue_X2_addCue
theorem dX3_cue_0 : decode cX3_cue 0 = .ok (.iload_n 1, 1) := by decide +kernel
theorem dX3_cue_1 : decode cX3_cue 1 = .ok (.iconst 0, 1) := by decide +kernel
theorem dX3_cue_2 : decode cX3_cue 2 = .ok (.bipush 50, 2) := by decide +kernel
theorem dX3_cue_4 : decode cX3_cue 4 = .ok (.invokestatic 52, 3) := by decide +kernel
theorem dX3_cue_7 : decode cX3_cue 7 = .ok (.iload_n 2, 1) := by decide +kernel
theorem dX3_cue_8 : decode cX3_cue 8 = .ok (.iconst 0, 1) := by decide +kernel
theorem dX3_cue_9 : decode cX3_cue 9 = .ok (.iconst 2, 1) := by decide +kernel
theorem dX3_cue_10 : decode cX3_cue 10 = .ok (.invokestatic 52, 3) := by decide +kernel
theorem dX3_cue_13 : decode cX3_cue 13 = .ok (.iload_n 3, 1) := by decide +kernel
theorem dX3_cue_14 : decode cX3_cue 14 = .ok (.iconst (-1), 1) := by decide +kernel
theorem dX3_cue_15 : decode cX3_cue 15 = .ok (.bipush 50, 2) := by decide +kernel
theorem dX3_cue_17 : decode cX3_cue 17 = .ok (.invokestatic 52, 3) := by decide +kernel
theorem dX3_cue_20 : decode cX3_cue 20 = .ok (.aload_n 0, 1) := by decide +kernel
theorem dX3_cue_21 : decode cX3_cue 21 = .ok (.getfield 41, 3) := by decide +kernel
theorem dX3_cue_24 : decode cX3_cue 24 = .ok (.getfield 155, 3) := by decide +kernel
theorem dX3_cue_27 : decode cX3_cue 27 = .ok (.bipush 8, 2) := by decide +kernel
theorem dX3_cue_29 : decode cX3_cue 29 = .ok (.if_icmp .lt 13, 3) := by decide +kernel
theorem dX3_cue_32 : decode cX3_cue 32 = .ok (.new 59, 3) := by decide +kernel
theorem dX3_cue_35 : decode cX3_cue 35 = .ok (.dup, 1) := by decide +kernel
theorem dX3_cue_36 : decode cX3_cue 36 = .ok (.ldc 158, 2) := by decide +kernel
theorem dX3_cue_38 : decode cX3_cue 38 = .ok (.invokespecial 63, 3) := by decide +kernel
theorem dX3_cue_41 : decode cX3_cue 41 = .ok (.athrow, 1) := by decide +kernel
theorem dX3_cue_42 : decode cX3_cue 42 = .ok (.aload_n 0, 1) := by decide +kernel
theorem dX3_cue_43 : decode cX3_cue 43 = .ok (.getfield 41, 3) := by decide +kernel
theorem dX3_cue_46 : decode cX3_cue 46 = .ok (.iload_n 1, 1) := by decide +kernel
theorem dX3_cue_47 : decode cX3_cue 47 = .ok (.iload_n 2, 1) := by decide +kernel
theorem dX3_cue_48 : decode cX3_cue 48 = .ok (.iload_n 3, 1) := by decide +kernel
theorem dX3_cue_49 : decode cX3_cue 49 = .ok (.invokevirtual 160, 3) := by decide +kernel
theorem dX3_cue_52 : decode cX3_cue 52 = .ok (.ireturn, 1) := by decide +kernel
set_option maxRecDepth 20000 in
theorem ggX3_name_X3_checkLamp : GoodIn wsX3_name wsX3_checkLamp := goodIn_ca (goodIn_r _ [8, 1, 2, 9, 18, 19, 20, 21, 22, 23, 24] (by decide +kernel) (by decide +kernel)) (goodIn_sub (fun _ h => List.mem_cons_of_mem _ (List.mem_append_left _ (List.mem_append_right _ h))) (by decide +kernel))
set_option maxRecDepth 20000 in
theorem gX3_name_X3_checkLamp : GoodIn wsX3_name (wsV RX3 89 RX3 yX3_checkLamp wsX3_checkLamp) := goodIn_app (goodIn_of _ (by decide +kernel)) ggX3_name_X3_checkLamp
set_option maxRecDepth 20000 in
theorem ggX3_name_X3_checkRange : GoodIn wsX3_name wsX3_checkRange := goodIn_ca (goodIn_r _ [12, 13, 14] (by decide +kernel) (by decide +kernel)) (goodIn_sub (fun _ h => List.mem_cons_of_mem _ (List.mem_append_right _ h)) (by decide +kernel))
set_option maxRecDepth 20000 in
theorem gX3_name_X3_checkRange : GoodIn wsX3_name (va_wsS RX3 52 yX3_checkRange wsX3_checkRange) := goodIn_app (goodIn_of _ (by decide +kernel)) ggX3_name_X3_checkRange
set_option maxRecDepth 20000 in
theorem ggX3_name_X2_cell : GoodIn wsX3_name wsX2_cell := goodIn_r _ [17] (by decide +kernel) (by decide +kernel)
set_option maxRecDepth 20000 in
theorem gX3_name_X2_cell_n165 : GoodIn wsX3_name (wsX2_cell) := ggX3_name_X2_cell
theorem dX3_name_0 : decode cX3_name 0 = .ok (.iload_n 1, 1) := by decide +kernel
theorem dX3_name_1 : decode cX3_name 1 = .ok (.ifCond .lt 14, 3) := by decide +kernel
theorem dX3_name_4 : decode cX3_name 4 = .ok (.iload_n 1, 1) := by decide +kernel
theorem dX3_name_5 : decode cX3_name 5 = .ok (.aload_n 0, 1) := by decide +kernel
theorem dX3_name_6 : decode cX3_name 6 = .ok (.getfield 41, 3) := by decide +kernel
theorem dX3_name_9 : decode cX3_name 9 = .ok (.getfield 155, 3) := by decide +kernel
theorem dX3_name_12 : decode cX3_name 12 = .ok (.if_icmp .lt 13, 3) := by decide +kernel
theorem dX3_name_15 : decode cX3_name 15 = .ok (.new 45, 3) := by decide +kernel
theorem dX3_name_18 : decode cX3_name 18 = .ok (.dup, 1) := by decide +kernel
theorem dX3_name_19 : decode cX3_name 19 = .ok (.ldc 163, 2) := by decide +kernel
theorem dX3_name_21 : decode cX3_name 21 = .ok (.invokespecial 49, 3) := by decide +kernel
theorem dX3_name_24 : decode cX3_name 24 = .ok (.athrow, 1) := by decide +kernel
theorem dX3_name_25 : decode cX3_name 25 = .ok (.aload_n 0, 1) := by decide +kernel
theorem dX3_name_26 : decode cX3_name 26 = .ok (.iload_n 2, 1) := by decide +kernel
theorem dX3_name_27 : decode cX3_name 27 = .ok (.invokevirtual 89, 3) := by decide +kernel
theorem dX3_name_30 : decode cX3_name 30 = .ok (.iload_n 3, 1) := by decide +kernel
theorem dX3_name_31 : decode cX3_name 31 = .ok (.iconst (-1), 1) := by decide +kernel
theorem dX3_name_32 : decode cX3_name 32 = .ok (.bipush 100, 2) := by decide +kernel
theorem dX3_name_34 : decode cX3_name 34 = .ok (.invokestatic 52, 3) := by decide +kernel
theorem dX3_name_37 : decode cX3_name 37 = .ok (.iload_n 1, 1) := by decide +kernel
theorem dX3_name_38 : decode cX3_name 38 = .ok (.iload_n 2, 1) := by decide +kernel
theorem dX3_name_39 : decode cX3_name 39 = .ok (.invokestatic 165, 3) := by decide +kernel
theorem dX3_name_42 : decode cX3_name 42 = .ok (.istore 4, 2) := by decide +kernel
theorem dX3_name_44 : decode cX3_name 44 = .ok (.aload_n 0, 1) := by decide +kernel
theorem dX3_name_45 : decode cX3_name 45 = .ok (.getfield 41, 3) := by decide +kernel
theorem dX3_name_48 : decode cX3_name 48 = .ok (.getfield 168, 3) := by decide +kernel
theorem dX3_name_51 : decode cX3_name 51 = .ok (.iload 4, 2) := by decide +kernel
theorem dX3_name_53 : decode cX3_name 53 = .ok (.iaload, 1) := by decide +kernel
theorem dX3_name_54 : decode cX3_name 54 = .ok (.istore 5, 2) := by decide +kernel
theorem dX3_name_56 : decode cX3_name 56 = .ok (.aload_n 0, 1) := by decide +kernel
theorem dX3_name_57 : decode cX3_name 57 = .ok (.getfield 41, 3) := by decide +kernel
theorem dX3_name_60 : decode cX3_name 60 = .ok (.getfield 168, 3) := by decide +kernel
theorem dX3_name_63 : decode cX3_name 63 = .ok (.iload 4, 2) := by decide +kernel
theorem dX3_name_65 : decode cX3_name 65 = .ok (.iload_n 3, 1) := by decide +kernel
theorem dX3_name_66 : decode cX3_name 66 = .ok (.iastore, 1) := by decide +kernel
theorem dX3_name_67 : decode cX3_name 67 = .ok (.iload 5, 2) := by decide +kernel
theorem dX3_name_69 : decode cX3_name 69 = .ok (.ireturn, 1) := by decide +kernel
set_option maxRecDepth 20000 in
theorem ggX3_go_X2_beginNext : GoodIn wsX3_go wsX2_beginNext := goodIn_r _ [7, 8, 9, 10, 11, 12, 13, 5, 14, 15, 16, 17, 18, 19, 20, 21, 22, 23, 24, 25, 26, 27, 28, 29, 30, 31, 32, 33, 34, 35, 36, 44, 45, 46, 47, 48, 49, 50, 51, 52, 53, 54] (by decide +kernel) (by decide +kernel)
set_option maxRecDepth 20000 in
theorem gX3_go_X2_beginNext_n171 : GoodIn wsX3_go (wsX2_beginNext) := ggX3_go_X2_beginNext
theorem dX3_go_0 : decode cX3_go 0 = .ok (.aload_n 0, 1) := by decide +kernel
theorem dX3_go_1 : decode cX3_go 1 = .ok (.getfield 41, 3) := by decide +kernel
theorem dX3_go_4 : decode cX3_go 4 = .ok (.invokevirtual 171, 3) := by decide +kernel
theorem dX3_go_7 : decode cX3_go 7 = .ok (.ifCond .ne 13, 3) := by decide +kernel
theorem dX3_go_10 : decode cX3_go 10 = .ok (.new 59, 3) := by decide +kernel
theorem dX3_go_13 : decode cX3_go 13 = .ok (.dup, 1) := by decide +kernel
theorem dX3_go_14 : decode cX3_go 14 = .ok (.ldc 174, 2) := by decide +kernel
theorem dX3_go_16 : decode cX3_go 16 = .ok (.invokespecial 63, 3) := by decide +kernel
theorem dX3_go_19 : decode cX3_go 19 = .ok (.athrow, 1) := by decide +kernel
theorem dX3_go_20 : decode cX3_go 20 = .ok (.aload_n 0, 1) := by decide +kernel
theorem dX3_go_21 : decode cX3_go 21 = .ok (.getfield 41, 3) := by decide +kernel
theorem dX3_go_24 : decode cX3_go 24 = .ok (.getfield 176, 3) := by decide +kernel
theorem dX3_go_27 : decode cX3_go 27 = .ok (.ireturn, 1) := by decide +kernel
set_option maxRecDepth 20000 in
theorem ggX3_tick_X3_checkRange : GoodIn wsX3_tick wsX3_checkRange := goodIn_ca (goodIn_r _ [5, 6, 7] (by decide +kernel) (by decide +kernel)) (goodIn_sub (fun _ h => List.mem_cons_of_mem _ (List.mem_append_right _ h)) (by decide +kernel))
set_option maxRecDepth 20000 in
theorem gX3_tick_X3_checkRange : GoodIn wsX3_tick (va_wsS RX3 52 yX3_checkRange wsX3_checkRange) := goodIn_app (goodIn_of _ (by decide +kernel)) ggX3_tick_X3_checkRange
set_option maxRecDepth 20000 in
theorem ggX3_tick_X2_advance : GoodIn wsX3_tick wsX2_advance := goodIn_r _ [11, 12, 13, 14, 15, 16, 17, 18, 19, 9, 20, 21, 22, 23, 24, 25, 26, 27, 28, 29, 30, 31, 32, 33, 34, 35, 36, 37, 38, 39, 40, 41, 42, 43, 44, 69, 70, 71, 72, 73, 74, 75, 76, 77, 78, 79] (by decide +kernel) (by decide +kernel)
set_option maxRecDepth 20000 in
theorem gX3_tick_X2_advance_n179 : GoodIn wsX3_tick (wsX2_advance) := ggX3_tick_X2_advance
set_option maxRecDepth 20000 in
theorem ggX3_tick_X3_burnColours : GoodIn wsX3_tick wsX3_burnColours := goodIn_r _ [48, 49, 50, 51, 52, 53, 4, 54, 55, 56, 1, 57, 58, 59, 60, 61, 33, 9, 34, 35, 28, 14, 12, 16, 36, 27, 26, 37, 38, 39, 40, 41, 42, 43, 44, 62, 63, 64, 65, 66, 67, 68, 80, 81, 82, 83, 84, 85, 86, 87, 69, 70, 71, 72, 73, 74, 75, 76, 77, 78, 79] (by decide +kernel) (by decide +kernel)
set_option maxRecDepth 20000 in
theorem gX3_tick_X3_burnColours : GoodIn wsX3_tick (wsV RX3 182 RX3 yX3_burnColours wsX3_burnColours) := goodIn_app (goodIn_of _ (by decide +kernel)) ggX3_tick_X3_burnColours
theorem dX3_tick_0 : decode cX3_tick 0 = .ok (.iload_n 1, 1) := by decide +kernel
theorem dX3_tick_1 : decode cX3_tick 1 = .ok (.iconst 1, 1) := by decide +kernel
theorem dX3_tick_2 : decode cX3_tick 2 = .ok (.bipush 50, 2) := by decide +kernel
theorem dX3_tick_4 : decode cX3_tick 4 = .ok (.invokestatic 52, 3) := by decide +kernel
theorem dX3_tick_7 : decode cX3_tick 7 = .ok (.iconst 0, 1) := by decide +kernel
theorem dX3_tick_8 : decode cX3_tick 8 = .ok (.istore_n 2, 1) := by decide +kernel
theorem dX3_tick_9 : decode cX3_tick 9 = .ok (.iconst 0, 1) := by decide +kernel
theorem dX3_tick_10 : decode cX3_tick 10 = .ok (.istore_n 3, 1) := by decide +kernel
theorem dX3_tick_11 : decode cX3_tick 11 = .ok (.iload_n 3, 1) := by decide +kernel
theorem dX3_tick_12 : decode cX3_tick 12 = .ok (.iload_n 1, 1) := by decide +kernel
theorem dX3_tick_13 : decode cX3_tick 13 = .ok (.if_icmp .ge 23, 3) := by decide +kernel
theorem dX3_tick_16 : decode cX3_tick 16 = .ok (.iload_n 2, 1) := by decide +kernel
theorem dX3_tick_17 : decode cX3_tick 17 = .ok (.aload_n 0, 1) := by decide +kernel
theorem dX3_tick_18 : decode cX3_tick 18 = .ok (.getfield 41, 3) := by decide +kernel
theorem dX3_tick_21 : decode cX3_tick 21 = .ok (.invokevirtual 179, 3) := by decide +kernel
theorem dX3_tick_24 : decode cX3_tick 24 = .ok (.iadd, 1) := by decide +kernel
theorem dX3_tick_25 : decode cX3_tick 25 = .ok (.istore_n 2, 1) := by decide +kernel
theorem dX3_tick_26 : decode cX3_tick 26 = .ok (.aload_n 0, 1) := by decide +kernel
theorem dX3_tick_27 : decode cX3_tick 27 = .ok (.invokevirtual 182, 3) := by decide +kernel
theorem dX3_tick_30 : decode cX3_tick 30 = .ok (.iinc 3 1, 3) := by decide +kernel
theorem dX3_tick_33 : decode cX3_tick 33 = .ok (.goto (-22), 3) := by decide +kernel
theorem dX3_tick_36 : decode cX3_tick 36 = .ok (.iload_n 2, 1) := by decide +kernel
theorem dX3_tick_37 : decode cX3_tick 37 = .ok (.ireturn, 1) := by decide +kernel
set_option maxRecDepth 20000 in
theorem ggX3_rewind_X2_reset : GoodIn wsX3_rewind wsX2_reset := goodIn_r _ [5, 6, 7, 8, 9, 10, 11, 19, 20, 21, 22, 23, 24, 25, 26, 27, 28, 29] (by decide +kernel) (by decide +kernel)
set_option maxRecDepth 20000 in
theorem gX3_rewind_X2_reset_n185 : GoodIn wsX3_rewind (wsX2_reset) := ggX3_rewind_X2_reset
theorem dX3_rewind_0 : decode cX3_rewind 0 = .ok (.aload_n 0, 1) := by decide +kernel
theorem dX3_rewind_1 : decode cX3_rewind 1 = .ok (.getfield 41, 3) := by decide +kernel
theorem dX3_rewind_4 : decode cX3_rewind 4 = .ok (.invokevirtual 185, 3) := by decide +kernel
theorem dX3_rewind_7 : decode cX3_rewind 7 = .ok (.ireturn, 1) := by decide +kernel
set_option maxRecDepth 20000 in
theorem ggX3_level_X3_checkLamp : GoodIn wsX3_level wsX3_checkLamp := goodIn_ca (goodIn_r _ [5, 6, 7, 8, 40, 41, 42, 43, 44, 45, 46] (by decide +kernel) (by decide +kernel)) (goodIn_sub (fun _ h => List.mem_cons_of_mem _ (List.mem_append_right _ h)) (by decide +kernel))
set_option maxRecDepth 20000 in
theorem gX3_level_X3_checkLamp : GoodIn wsX3_level (wsV RX3 89 RX3 yX3_checkLamp wsX3_checkLamp) := goodIn_app (goodIn_of _ (by decide +kernel)) ggX3_level_X3_checkLamp
set_option maxRecDepth 20000 in
theorem ggX3_level_X3_shownLevel : GoodIn wsX3_level wsX3_shownLevel := goodIn_r _ [12, 13, 14, 15, 16, 17, 18, 19, 20, 21, 22, 23, 24, 25, 26, 27, 28, 29, 30, 31, 32, 33, 34, 35, 36, 37, 38, 39, 40, 41, 42, 43, 44, 45, 46, 47, 48, 49, 50, 51, 52, 53, 54, 55, 56, 57, 58, 59, 60, 61, 62, 63, 64, 65] (by decide +kernel) (by decide +kernel)
set_option maxRecDepth 20000 in
theorem gX3_level_X3_shownLevel : GoodIn wsX3_level (wsV RX3 152 RX3 yX3_shownLevel wsX3_shownLevel) := goodIn_app (goodIn_of _ (by decide +kernel)) ggX3_level_X3_shownLevel
theorem dX3_level_0 : decode cX3_level 0 = .ok (.aload_n 0, 1) := by decide +kernel
theorem dX3_level_1 : decode cX3_level 1 = .ok (.iload_n 1, 1) := by decide +kernel
theorem dX3_level_2 : decode cX3_level 2 = .ok (.invokevirtual 89, 3) := by decide +kernel
theorem dX3_level_5 : decode cX3_level 5 = .ok (.aload_n 0, 1) := by decide +kernel
theorem dX3_level_6 : decode cX3_level 6 = .ok (.iload_n 1, 1) := by decide +kernel
theorem dX3_level_7 : decode cX3_level 7 = .ok (.invokevirtual 152, 3) := by decide +kernel
theorem dX3_level_10 : decode cX3_level 10 = .ok (.ireturn, 1) := by decide +kernel
set_option maxRecDepth 20000 in
theorem ggX3_wanted_X3_checkLamp : GoodIn wsX3_wanted wsX3_checkLamp := goodIn_ca (goodIn_r _ [6, 7, 8, 9, 29, 30, 31, 32, 33, 34, 35] (by decide +kernel) (by decide +kernel)) (goodIn_sub (fun _ h => List.mem_cons_of_mem _ (List.mem_append_right _ h)) (by decide +kernel))
set_option maxRecDepth 20000 in
theorem gX3_wanted_X3_checkLamp : GoodIn wsX3_wanted (wsV RX3 89 RX3 yX3_checkLamp wsX3_checkLamp) := goodIn_app (goodIn_of _ (by decide +kernel)) ggX3_wanted_X3_checkLamp
set_option maxRecDepth 20000 in
theorem ggX3_wanted_X2_wantedLevel : GoodIn wsX3_wanted wsX2_wantedLevel := goodIn_r _ [13, 14, 15, 16, 17, 18, 19, 20, 21, 22, 23, 11, 24, 25, 26, 27, 28, 36, 37, 38, 39, 40, 41, 42, 43, 44, 45, 46] (by decide +kernel) (by decide +kernel)
set_option maxRecDepth 20000 in
theorem gX3_wanted_X2_wantedLevel_n188 : GoodIn wsX3_wanted (wsX2_wantedLevel) := ggX3_wanted_X2_wantedLevel
theorem dX3_wanted_0 : decode cX3_wanted 0 = .ok (.aload_n 0, 1) := by decide +kernel
theorem dX3_wanted_1 : decode cX3_wanted 1 = .ok (.iload_n 1, 1) := by decide +kernel
theorem dX3_wanted_2 : decode cX3_wanted 2 = .ok (.invokevirtual 89, 3) := by decide +kernel
theorem dX3_wanted_5 : decode cX3_wanted 5 = .ok (.aload_n 0, 1) := by decide +kernel
theorem dX3_wanted_6 : decode cX3_wanted 6 = .ok (.getfield 41, 3) := by decide +kernel
theorem dX3_wanted_9 : decode cX3_wanted 9 = .ok (.iload_n 1, 1) := by decide +kernel
theorem dX3_wanted_10 : decode cX3_wanted 10 = .ok (.invokevirtual 188, 3) := by decide +kernel
theorem dX3_wanted_13 : decode cX3_wanted 13 = .ok (.ireturn, 1) := by decide +kernel
set_option maxRecDepth 20000 in
theorem ggX3_wantedByCues_X3_checkLamp : GoodIn wsX3_wantedByCues wsX3_checkLamp := goodIn_ca (goodIn_r _ [6, 7, 8, 9, 29, 30, 31, 32, 33, 34, 35] (by decide +kernel) (by decide +kernel)) (goodIn_sub (fun _ h => List.mem_cons_of_mem _ (List.mem_append_right _ h)) (by decide +kernel))
set_option maxRecDepth 20000 in
theorem gX3_wantedByCues_X3_checkLamp : GoodIn wsX3_wantedByCues (wsV RX3 89 RX3 yX3_checkLamp wsX3_checkLamp) := goodIn_app (goodIn_of _ (by decide +kernel)) ggX3_wantedByCues_X3_checkLamp
set_option maxRecDepth 20000 in
theorem ggX3_wantedByCues_X2_wantedLevel : GoodIn wsX3_wantedByCues wsX2_wantedLevel := goodIn_r _ [13, 14, 15, 16, 17, 18, 19, 20, 21, 22, 23, 11, 24, 25, 26, 27, 28, 36, 37, 38, 39, 40, 41, 42, 43, 44, 45, 46] (by decide +kernel) (by decide +kernel)
set_option maxRecDepth 20000 in
theorem gX3_wantedByCues_X2_wantedLevel_n188 : GoodIn wsX3_wantedByCues (wsX2_wantedLevel) := ggX3_wantedByCues_X2_wantedLevel
theorem dX3_wantedByCues_0 : decode cX3_wantedByCues 0 = .ok (.aload_n 0, 1) := by decide +kernel
theorem dX3_wantedByCues_1 : decode cX3_wantedByCues 1 = .ok (.iload_n 1, 1) := by decide +kernel
theorem dX3_wantedByCues_2 : decode cX3_wantedByCues 2 = .ok (.invokevirtual 89, 3) := by decide +kernel
theorem dX3_wantedByCues_5 : decode cX3_wantedByCues 5 = .ok (.aload_n 0, 1) := by decide +kernel
theorem dX3_wantedByCues_6 : decode cX3_wantedByCues 6 = .ok (.getfield 41, 3) := by decide +kernel
theorem dX3_wantedByCues_9 : decode cX3_wantedByCues 9 = .ok (.iload_n 1, 1) := by decide +kernel
theorem dX3_wantedByCues_10 : decode cX3_wantedByCues 10 = .ok (.invokevirtual 188, 3) := by decide +kernel
theorem dX3_wantedByCues_13 : decode cX3_wantedByCues 13 = .ok (.ireturn, 1) := by decide +kernel
set_option maxRecDepth 20000 in
theorem ggX3_bulb_X3_checkLamp : GoodIn wsX3_bulb wsX3_checkLamp := goodIn_ca (goodIn_r _ [6, 7, 8, 9, 10, 11, 12, 13, 14, 15, 16] (by decide +kernel) (by decide +kernel)) (goodIn_sub (fun _ h => List.mem_cons_of_mem _ (List.mem_append_right _ h)) (by decide +kernel))
set_option maxRecDepth 20000 in
theorem gX3_bulb_X3_checkLamp : GoodIn wsX3_bulb (wsV RX3 89 RX3 yX3_checkLamp wsX3_checkLamp) := goodIn_app (goodIn_of _ (by decide +kernel)) ggX3_bulb_X3_checkLamp
theorem dX3_bulb_0 : decode cX3_bulb 0 = .ok (.aload_n 0, 1) := by decide +kernel
theorem dX3_bulb_1 : decode cX3_bulb 1 = .ok (.iload_n 1, 1) := by decide +kernel
theorem dX3_bulb_2 : decode cX3_bulb 2 = .ok (.invokevirtual 89, 3) := by decide +kernel
theorem dX3_bulb_5 : decode cX3_bulb 5 = .ok (.aload_n 0, 1) := by decide +kernel
theorem dX3_bulb_6 : decode cX3_bulb 6 = .ok (.getfield 20, 3) := by decide +kernel
theorem dX3_bulb_9 : decode cX3_bulb 9 = .ok (.iload_n 1, 1) := by decide +kernel
theorem dX3_bulb_10 : decode cX3_bulb 10 = .ok (.aload_n 0, 1) := by decide +kernel
theorem dX3_bulb_11 : decode cX3_bulb 11 = .ok (.getfield 20, 3) := by decide +kernel
theorem dX3_bulb_14 : decode cX3_bulb 14 = .ok (.iload_n 1, 1) := by decide +kernel
theorem dX3_bulb_15 : decode cX3_bulb 15 = .ok (.baload, 1) := by decide +kernel
theorem dX3_bulb_16 : decode cX3_bulb 16 = .ok (.ifCond .ne 7, 3) := by decide +kernel
theorem dX3_bulb_19 : decode cX3_bulb 19 = .ok (.iconst 1, 1) := by decide +kernel
theorem dX3_bulb_20 : decode cX3_bulb 20 = .ok (.goto 4, 3) := by decide +kernel
theorem dX3_bulb_23 : decode cX3_bulb 23 = .ok (.iconst 0, 1) := by decide +kernel
theorem dX3_bulb_24 : decode cX3_bulb 24 = .ok (.bastore, 1) := by decide +kernel
theorem dX3_bulb_25 : decode cX3_bulb 25 = .ok (.aload_n 0, 1) := by decide +kernel
theorem dX3_bulb_26 : decode cX3_bulb 26 = .ok (.getfield 20, 3) := by decide +kernel
theorem dX3_bulb_29 : decode cX3_bulb 29 = .ok (.iload_n 1, 1) := by decide +kernel
theorem dX3_bulb_30 : decode cX3_bulb 30 = .ok (.baload, 1) := by decide +kernel
theorem dX3_bulb_31 : decode cX3_bulb 31 = .ok (.ifCond .ne 7, 3) := by decide +kernel
theorem dX3_bulb_34 : decode cX3_bulb 34 = .ok (.iconst 1, 1) := by decide +kernel
theorem dX3_bulb_35 : decode cX3_bulb 35 = .ok (.goto 4, 3) := by decide +kernel
theorem dX3_bulb_38 : decode cX3_bulb 38 = .ok (.iconst 0, 1) := by decide +kernel
theorem dX3_bulb_39 : decode cX3_bulb 39 = .ok (.ireturn, 1) := by decide +kernel
set_option maxRecDepth 20000 in
theorem ggX3_standIn_X3_checkLamp : GoodIn wsX3_standIn wsX3_checkLamp := goodIn_ca (goodIn_r _ [11, 12, 13, 14, 24, 25, 26, 27, 28, 29, 30] (by decide +kernel) (by decide +kernel)) (goodIn_sub (fun _ h => List.mem_cons_of_mem _ (List.mem_append_right _ h)) (by decide +kernel))
set_option maxRecDepth 20000 in
theorem gX3_standIn_X3_checkLamp : GoodIn wsX3_standIn (wsV RX3 89 RX3 yX3_checkLamp wsX3_checkLamp) := goodIn_app (goodIn_of _ (by decide +kernel)) ggX3_standIn_X3_checkLamp
set_option maxRecDepth 20000 in
theorem ggX3_standIn_X2_handOver : GoodIn wsX3_standIn wsX2_handOver := goodIn_r _ [18, 19, 20, 21, 22, 16, 23, 31, 32, 33, 34, 35, 36, 37, 38, 39, 40, 41] (by decide +kernel) (by decide +kernel)
set_option maxRecDepth 20000 in
theorem gX3_standIn_X2_handOver_n198 : GoodIn wsX3_standIn (wsX2_handOver) := ggX3_standIn_X2_handOver
theorem dX3_standIn_0 : decode cX3_standIn 0 = .ok (.aload_n 0, 1) := by decide +kernel
theorem dX3_standIn_1 : decode cX3_standIn 1 = .ok (.iload_n 1, 1) := by decide +kernel
theorem dX3_standIn_2 : decode cX3_standIn 2 = .ok (.invokevirtual 89, 3) := by decide +kernel
theorem dX3_standIn_5 : decode cX3_standIn 5 = .ok (.aload_n 0, 1) := by decide +kernel
theorem dX3_standIn_6 : decode cX3_standIn 6 = .ok (.iload_n 2, 1) := by decide +kernel
theorem dX3_standIn_7 : decode cX3_standIn 7 = .ok (.invokevirtual 89, 3) := by decide +kernel
theorem dX3_standIn_10 : decode cX3_standIn 10 = .ok (.iload_n 1, 1) := by decide +kernel
theorem dX3_standIn_11 : decode cX3_standIn 11 = .ok (.iload_n 2, 1) := by decide +kernel
theorem dX3_standIn_12 : decode cX3_standIn 12 = .ok (.if_icmp .ne 13, 3) := by decide +kernel
theorem dX3_standIn_15 : decode cX3_standIn 15 = .ok (.new 191, 3) := by decide +kernel
theorem dX3_standIn_18 : decode cX3_standIn 18 = .ok (.dup, 1) := by decide +kernel
theorem dX3_standIn_19 : decode cX3_standIn 19 = .ok (.ldc 193, 2) := by decide +kernel
theorem dX3_standIn_21 : decode cX3_standIn 21 = .ok (.invokespecial 195, 3) := by decide +kernel
theorem dX3_standIn_24 : decode cX3_standIn 24 = .ok (.athrow, 1) := by decide +kernel
theorem dX3_standIn_25 : decode cX3_standIn 25 = .ok (.aload_n 0, 1) := by decide +kernel
theorem dX3_standIn_26 : decode cX3_standIn 26 = .ok (.getfield 20, 3) := by decide +kernel
theorem dX3_standIn_29 : decode cX3_standIn 29 = .ok (.iload_n 1, 1) := by decide +kernel
theorem dX3_standIn_30 : decode cX3_standIn 30 = .ok (.baload, 1) := by decide +kernel
theorem dX3_standIn_31 : decode cX3_standIn 31 = .ok (.ifCond .eq 12, 3) := by decide +kernel
theorem dX3_standIn_34 : decode cX3_standIn 34 = .ok (.aload_n 0, 1) := by decide +kernel
theorem dX3_standIn_35 : decode cX3_standIn 35 = .ok (.getfield 20, 3) := by decide +kernel
theorem dX3_standIn_38 : decode cX3_standIn 38 = .ok (.iload_n 2, 1) := by decide +kernel
theorem dX3_standIn_39 : decode cX3_standIn 39 = .ok (.baload, 1) := by decide +kernel
theorem dX3_standIn_40 : decode cX3_standIn 40 = .ok (.ifCond .eq 13, 3) := by decide +kernel
theorem dX3_standIn_43 : decode cX3_standIn 43 = .ok (.new 59, 3) := by decide +kernel
theorem dX3_standIn_46 : decode cX3_standIn 46 = .ok (.dup, 1) := by decide +kernel
theorem dX3_standIn_47 : decode cX3_standIn 47 = .ok (.ldc 196, 2) := by decide +kernel
theorem dX3_standIn_49 : decode cX3_standIn 49 = .ok (.invokespecial 63, 3) := by decide +kernel
theorem dX3_standIn_52 : decode cX3_standIn 52 = .ok (.athrow, 1) := by decide +kernel
theorem dX3_standIn_53 : decode cX3_standIn 53 = .ok (.aload_n 0, 1) := by decide +kernel
theorem dX3_standIn_54 : decode cX3_standIn 54 = .ok (.getfield 41, 3) := by decide +kernel
theorem dX3_standIn_57 : decode cX3_standIn 57 = .ok (.iload_n 1, 1) := by decide +kernel
theorem dX3_standIn_58 : decode cX3_standIn 58 = .ok (.iload_n 2, 1) := by decide +kernel
theorem dX3_standIn_59 : decode cX3_standIn 59 = .ok (.invokevirtual 198, 3) := by decide +kernel
theorem dX3_standIn_62 : decode cX3_standIn 62 = .ok (.ireturn, 1) := by decide +kernel
set_option maxRecDepth 20000 in
theorem ggX3_colour_X3_checkLamp : GoodIn wsX3_colour wsX3_checkLamp := goodIn_ca (goodIn_r _ [7, 8, 9, 10, 16, 17, 18, 19, 20, 21, 22] (by decide +kernel) (by decide +kernel)) (goodIn_sub (fun _ h => List.mem_cons_of_mem _ (List.mem_append_left _ (List.mem_append_right _ h))) (by decide +kernel))
set_option maxRecDepth 20000 in
theorem gX3_colour_X3_checkLamp : GoodIn wsX3_colour (wsV RX3 89 RX3 yX3_checkLamp wsX3_checkLamp) := goodIn_app (goodIn_of _ (by decide +kernel)) ggX3_colour_X3_checkLamp
set_option maxRecDepth 20000 in
theorem ggX3_colour_X3_checkRange : GoodIn wsX3_colour wsX3_checkRange := goodIn_ca (goodIn_r _ [13, 14, 15] (by decide +kernel) (by decide +kernel)) (goodIn_sub (fun _ h => List.mem_cons_of_mem _ (List.mem_append_right _ h)) (by decide +kernel))
set_option maxRecDepth 20000 in
theorem gX3_colour_X3_checkRange : GoodIn wsX3_colour (va_wsS RX3 52 yX3_checkRange wsX3_checkRange) := goodIn_app (goodIn_of _ (by decide +kernel)) ggX3_colour_X3_checkRange
theorem dX3_colour_0 : decode cX3_colour 0 = .ok (.aload_n 0, 1) := by decide +kernel
theorem dX3_colour_1 : decode cX3_colour 1 = .ok (.iload_n 1, 1) := by decide +kernel
theorem dX3_colour_2 : decode cX3_colour 2 = .ok (.invokevirtual 89, 3) := by decide +kernel
theorem dX3_colour_5 : decode cX3_colour 5 = .ok (.iload_n 2, 1) := by decide +kernel
theorem dX3_colour_6 : decode cX3_colour 6 = .ok (.iconst 0, 1) := by decide +kernel
theorem dX3_colour_7 : decode cX3_colour 7 = .ok (.bipush 20, 2) := by decide +kernel
theorem dX3_colour_9 : decode cX3_colour 9 = .ok (.invokestatic 52, 3) := by decide +kernel
theorem dX3_colour_12 : decode cX3_colour 12 = .ok (.aload_n 0, 1) := by decide +kernel
theorem dX3_colour_13 : decode cX3_colour 13 = .ok (.getfield 13, 3) := by decide +kernel
theorem dX3_colour_16 : decode cX3_colour 16 = .ok (.iload_n 1, 1) := by decide +kernel
theorem dX3_colour_17 : decode cX3_colour 17 = .ok (.iaload, 1) := by decide +kernel
theorem dX3_colour_18 : decode cX3_colour 18 = .ok (.istore_n 3, 1) := by decide +kernel
theorem dX3_colour_19 : decode cX3_colour 19 = .ok (.aload_n 0, 1) := by decide +kernel
theorem dX3_colour_20 : decode cX3_colour 20 = .ok (.getfield 13, 3) := by decide +kernel
theorem dX3_colour_23 : decode cX3_colour 23 = .ok (.iload_n 1, 1) := by decide +kernel
theorem dX3_colour_24 : decode cX3_colour 24 = .ok (.iload_n 2, 1) := by decide +kernel
theorem dX3_colour_25 : decode cX3_colour 25 = .ok (.iastore, 1) := by decide +kernel
theorem dX3_colour_26 : decode cX3_colour 26 = .ok (.aload_n 0, 1) := by decide +kernel
theorem dX3_colour_27 : decode cX3_colour 27 = .ok (.getfield 17, 3) := by decide +kernel
theorem dX3_colour_30 : decode cX3_colour 30 = .ok (.iload_n 1, 1) := by decide +kernel
theorem dX3_colour_31 : decode cX3_colour 31 = .ok (.iconst 0, 1) := by decide +kernel
theorem dX3_colour_32 : decode cX3_colour 32 = .ok (.iastore, 1) := by decide +kernel
theorem dX3_colour_33 : decode cX3_colour 33 = .ok (.iload_n 3, 1) := by decide +kernel
theorem dX3_colour_34 : decode cX3_colour 34 = .ok (.ireturn, 1) := by decide +kernel
theorem dX3_burnt_0 : decode cX3_burnt 0 = .ok (.iconst 0, 1) := by decide +kernel
theorem dX3_burnt_1 : decode cX3_burnt 1 = .ok (.istore_n 1, 1) := by decide +kernel
theorem dX3_burnt_2 : decode cX3_burnt 2 = .ok (.iconst 0, 1) := by decide +kernel
theorem dX3_burnt_3 : decode cX3_burnt 3 = .ok (.istore_n 2, 1) := by decide +kernel
theorem dX3_burnt_4 : decode cX3_burnt 4 = .ok (.iload_n 2, 1) := by decide +kernel
theorem dX3_burnt_5 : decode cX3_burnt 5 = .ok (.aload_n 0, 1) := by decide +kernel
theorem dX3_burnt_6 : decode cX3_burnt 6 = .ok (.getfield 7, 3) := by decide +kernel
theorem dX3_burnt_9 : decode cX3_burnt 9 = .ok (.if_icmp .ge 26, 3) := by decide +kernel
theorem dX3_burnt_12 : decode cX3_burnt 12 = .ok (.aload_n 0, 1) := by decide +kernel
theorem dX3_burnt_13 : decode cX3_burnt 13 = .ok (.getfield 17, 3) := by decide +kernel
theorem dX3_burnt_16 : decode cX3_burnt 16 = .ok (.iload_n 2, 1) := by decide +kernel
theorem dX3_burnt_17 : decode cX3_burnt 17 = .ok (.iaload, 1) := by decide +kernel
theorem dX3_burnt_18 : decode cX3_burnt 18 = .ok (.bipush 30, 2) := by decide +kernel
theorem dX3_burnt_20 : decode cX3_burnt 20 = .ok (.if_icmp .lt 9, 3) := by decide +kernel
theorem dX3_burnt_23 : decode cX3_burnt 23 = .ok (.iload_n 1, 1) := by decide +kernel
theorem dX3_burnt_24 : decode cX3_burnt 24 = .ok (.iconst 1, 1) := by decide +kernel
theorem dX3_burnt_25 : decode cX3_burnt 25 = .ok (.iload_n 2, 1) := by decide +kernel
theorem dX3_burnt_26 : decode cX3_burnt 26 = .ok (.ishl, 1) := by decide +kernel
theorem dX3_burnt_27 : decode cX3_burnt 27 = .ok (.ior, 1) := by decide +kernel
theorem dX3_burnt_28 : decode cX3_burnt 28 = .ok (.istore_n 1, 1) := by decide +kernel
theorem dX3_burnt_29 : decode cX3_burnt 29 = .ok (.iinc 2 1, 3) := by decide +kernel
theorem dX3_burnt_32 : decode cX3_burnt 32 = .ok (.goto (-28), 3) := by decide +kernel
theorem dX3_burnt_35 : decode cX3_burnt 35 = .ok (.iload_n 1, 1) := by decide +kernel
theorem dX3_burnt_36 : decode cX3_burnt 36 = .ok (.ireturn, 1) := by decide +kernel
theorem dX3_checkLamp_0 : decode cX3_checkLamp 0 = .ok (.iload_n 1, 1) := by decide +kernel
theorem dX3_checkLamp_1 : decode cX3_checkLamp 1 = .ok (.ifCond .lt 11, 3) := by decide +kernel
theorem dX3_checkLamp_4 : decode cX3_checkLamp 4 = .ok (.iload_n 1, 1) := by decide +kernel
theorem dX3_checkLamp_5 : decode cX3_checkLamp 5 = .ok (.aload_n 0, 1) := by decide +kernel
theorem dX3_checkLamp_6 : decode cX3_checkLamp 6 = .ok (.getfield 7, 3) := by decide +kernel
theorem dX3_checkLamp_9 : decode cX3_checkLamp 9 = .ok (.if_icmp .lt 13, 3) := by decide +kernel
theorem dX3_checkLamp_12 : decode cX3_checkLamp 12 = .ok (.new 45, 3) := by decide +kernel
theorem dX3_checkLamp_15 : decode cX3_checkLamp 15 = .ok (.dup, 1) := by decide +kernel
theorem dX3_checkLamp_16 : decode cX3_checkLamp 16 = .ok (.ldc 201, 2) := by decide +kernel
theorem dX3_checkLamp_18 : decode cX3_checkLamp 18 = .ok (.invokespecial 49, 3) := by decide +kernel
theorem dX3_checkLamp_21 : decode cX3_checkLamp 21 = .ok (.athrow, 1) := by decide +kernel
theorem dX3_checkLamp_22 : decode cX3_checkLamp 22 = .ok (.return_, 1) := by decide +kernel
set_option maxRecDepth 20000 in
theorem ggX3_checkBar_X1_hasBar : GoodIn wsX3_checkBar wsX1_hasBar := goodIn_r _ [7, 8, 9, 17, 18, 19, 20, 21, 22, 23, 24] (by decide +kernel) (by decide +kernel)
set_option maxRecDepth 20000 in
theorem gX3_checkBar_X1_hasBar_n203 : GoodIn wsX3_checkBar (wsX1_hasBar) := ggX3_checkBar_X1_hasBar
theorem dX3_checkBar_0 : decode cX3_checkBar 0 = .ok (.aload_n 0, 1) := by decide +kernel
theorem dX3_checkBar_1 : decode cX3_checkBar 1 = .ok (.getfield 27, 3) := by decide +kernel
theorem dX3_checkBar_4 : decode cX3_checkBar 4 = .ok (.iload_n 1, 1) := by decide +kernel
theorem dX3_checkBar_5 : decode cX3_checkBar 5 = .ok (.invokevirtual 203, 3) := by decide +kernel
theorem dX3_checkBar_8 : decode cX3_checkBar 8 = .ok (.ifCond .ne 13, 3) := by decide +kernel
theorem dX3_checkBar_11 : decode cX3_checkBar 11 = .ok (.new 45, 3) := by decide +kernel
theorem dX3_checkBar_14 : decode cX3_checkBar 14 = .ok (.dup, 1) := by decide +kernel
theorem dX3_checkBar_15 : decode cX3_checkBar 15 = .ok (.ldc 206, 2) := by decide +kernel
theorem dX3_checkBar_17 : decode cX3_checkBar 17 = .ok (.invokespecial 49, 3) := by decide +kernel
theorem dX3_checkBar_20 : decode cX3_checkBar 20 = .ok (.athrow, 1) := by decide +kernel
theorem dX3_checkBar_21 : decode cX3_checkBar 21 = .ok (.return_, 1) := by decide +kernel
theorem dX3_checkCircuit_0 : decode cX3_checkCircuit 0 = .ok (.iload_n 0, 1) := by decide +kernel
theorem dX3_checkCircuit_1 : decode cX3_checkCircuit 1 = .ok (.ifCond .lt 8, 3) := by decide +kernel
theorem dX3_checkCircuit_4 : decode cX3_checkCircuit 4 = .ok (.iload_n 0, 1) := by decide +kernel
theorem dX3_checkCircuit_5 : decode cX3_checkCircuit 5 = .ok (.iconst 4, 1) := by decide +kernel
theorem dX3_checkCircuit_6 : decode cX3_checkCircuit 6 = .ok (.if_icmp .lt 13, 3) := by decide +kernel
theorem dX3_checkCircuit_9 : decode cX3_checkCircuit 9 = .ok (.new 45, 3) := by decide +kernel
theorem dX3_checkCircuit_12 : decode cX3_checkCircuit 12 = .ok (.dup, 1) := by decide +kernel
theorem dX3_checkCircuit_13 : decode cX3_checkCircuit 13 = .ok (.ldc 208, 2) := by decide +kernel
theorem dX3_checkCircuit_15 : decode cX3_checkCircuit 15 = .ok (.invokespecial 49, 3) := by decide +kernel
theorem dX3_checkCircuit_18 : decode cX3_checkCircuit 18 = .ok (.athrow, 1) := by decide +kernel
theorem dX3_checkCircuit_19 : decode cX3_checkCircuit 19 = .ok (.return_, 1) := by decide +kernel
theorem dX3_checkRange_0 : decode cX3_checkRange 0 = .ok (.iload_n 0, 1) := by decide +kernel
theorem dX3_checkRange_1 : decode cX3_checkRange 1 = .ok (.iload_n 1, 1) := by decide +kernel
theorem dX3_checkRange_2 : decode cX3_checkRange 2 = .ok (.if_icmp .lt 8, 3) := by decide +kernel
theorem dX3_checkRange_5 : decode cX3_checkRange 5 = .ok (.iload_n 0, 1) := by decide +kernel
theorem dX3_checkRange_6 : decode cX3_checkRange 6 = .ok (.iload_n 2, 1) := by decide +kernel
theorem dX3_checkRange_7 : decode cX3_checkRange 7 = .ok (.if_icmp .le 13, 3) := by decide +kernel
theorem dX3_checkRange_10 : decode cX3_checkRange 10 = .ok (.new 191, 3) := by decide +kernel
theorem dX3_checkRange_13 : decode cX3_checkRange 13 = .ok (.dup, 1) := by decide +kernel
theorem dX3_checkRange_14 : decode cX3_checkRange 14 = .ok (.ldc 210, 2) := by decide +kernel
theorem dX3_checkRange_16 : decode cX3_checkRange 16 = .ok (.invokespecial 195, 3) := by decide +kernel
theorem dX3_checkRange_19 : decode cX3_checkRange 19 = .ok (.athrow, 1) := by decide +kernel
theorem dX3_checkRange_20 : decode cX3_checkRange 20 = .ok (.return_, 1) := by decide +kernel
set_option maxRecDepth 20000 in
theorem ggX3_shownLevel_X1_hangs : GoodIn wsX3_shownLevel wsX1_hangs := goodIn_r _ [7, 8, 35, 36, 37, 38, 39, 40, 41, 42] (by decide +kernel) (by decide +kernel)
set_option maxRecDepth 20000 in
theorem gX3_shownLevel_X1_hangs_n117 : GoodIn wsX3_shownLevel (wsX1_hangs) := ggX3_shownLevel_X1_hangs
set_option maxRecDepth 20000 in
theorem ggX3_shownLevel_X2_wantedLevel : GoodIn wsX3_shownLevel wsX2_wantedLevel := goodIn_r _ [12, 13, 14, 15, 16, 17, 18, 19, 20, 21, 22, 10, 23, 24, 25, 26, 27, 43, 44, 45, 46, 47, 48, 49, 50, 51, 52, 53] (by decide +kernel) (by decide +kernel)
set_option maxRecDepth 20000 in
theorem gX3_shownLevel_X2_wantedLevel_n188 : GoodIn wsX3_shownLevel (wsX2_wantedLevel) := ggX3_shownLevel_X2_wantedLevel
theorem dX3_shownLevel_0 : decode cX3_shownLevel 0 = .ok (.aload_n 0, 1) := by decide +kernel
theorem dX3_shownLevel_1 : decode cX3_shownLevel 1 = .ok (.getfield 27, 3) := by decide +kernel
theorem dX3_shownLevel_4 : decode cX3_shownLevel 4 = .ok (.iload_n 1, 1) := by decide +kernel
theorem dX3_shownLevel_5 : decode cX3_shownLevel 5 = .ok (.invokevirtual 117, 3) := by decide +kernel
theorem dX3_shownLevel_8 : decode cX3_shownLevel 8 = .ok (.ifCond .eq 23, 3) := by decide +kernel
theorem dX3_shownLevel_11 : decode cX3_shownLevel 11 = .ok (.aload_n 0, 1) := by decide +kernel
theorem dX3_shownLevel_12 : decode cX3_shownLevel 12 = .ok (.getfield 20, 3) := by decide +kernel
theorem dX3_shownLevel_15 : decode cX3_shownLevel 15 = .ok (.iload_n 1, 1) := by decide +kernel
theorem dX3_shownLevel_16 : decode cX3_shownLevel 16 = .ok (.baload, 1) := by decide +kernel
theorem dX3_shownLevel_17 : decode cX3_shownLevel 17 = .ok (.ifCond .ne 14, 3) := by decide +kernel
theorem dX3_shownLevel_20 : decode cX3_shownLevel 20 = .ok (.aload_n 0, 1) := by decide +kernel
theorem dX3_shownLevel_21 : decode cX3_shownLevel 21 = .ok (.getfield 41, 3) := by decide +kernel
theorem dX3_shownLevel_24 : decode cX3_shownLevel 24 = .ok (.iload_n 1, 1) := by decide +kernel
theorem dX3_shownLevel_25 : decode cX3_shownLevel 25 = .ok (.invokevirtual 188, 3) := by decide +kernel
theorem dX3_shownLevel_28 : decode cX3_shownLevel 28 = .ok (.goto 4, 3) := by decide +kernel
theorem dX3_shownLevel_31 : decode cX3_shownLevel 31 = .ok (.iconst 0, 1) := by decide +kernel
theorem dX3_shownLevel_32 : decode cX3_shownLevel 32 = .ok (.ireturn, 1) := by decide +kernel
set_option maxRecDepth 20000 in
theorem ggX3_burnColours_X3_shownLevel : GoodIn wsX3_burnColours wsX3_shownLevel := goodIn_r _ [7, 8, 9, 10, 11, 12, 13, 14, 15, 16, 17, 18, 19, 20, 21, 22, 23, 24, 25, 26, 27, 28, 29, 30, 31, 32, 33, 34, 35, 36, 37, 38, 39, 40, 41, 42, 43, 44, 45, 46, 47, 48, 49, 50, 51, 52, 53, 54, 55, 56, 57, 58, 59, 60] (by decide +kernel) (by decide +kernel)
set_option maxRecDepth 20000 in
theorem gX3_burnColours_X3_shownLevel : GoodIn wsX3_burnColours (wsV RX3 152 RX3 yX3_shownLevel wsX3_shownLevel) := goodIn_app (goodIn_of _ (by decide +kernel)) ggX3_burnColours_X3_shownLevel
theorem dX3_burnColours_0 : decode cX3_burnColours 0 = .ok (.iconst 0, 1) := by decide +kernel
theorem dX3_burnColours_1 : decode cX3_burnColours 1 = .ok (.istore_n 1, 1) := by decide +kernel
theorem dX3_burnColours_2 : decode cX3_burnColours 2 = .ok (.iload_n 1, 1) := by decide +kernel
theorem dX3_burnColours_3 : decode cX3_burnColours 3 = .ok (.aload_n 0, 1) := by decide +kernel
theorem dX3_burnColours_4 : decode cX3_burnColours 4 = .ok (.getfield 7, 3) := by decide +kernel
theorem dX3_burnColours_7 : decode cX3_burnColours 7 = .ok (.if_icmp .ge 29, 3) := by decide +kernel
theorem dX3_burnColours_10 : decode cX3_burnColours 10 = .ok (.aload_n 0, 1) := by decide +kernel
theorem dX3_burnColours_11 : decode cX3_burnColours 11 = .ok (.iload_n 1, 1) := by decide +kernel
theorem dX3_burnColours_12 : decode cX3_burnColours 12 = .ok (.invokevirtual 152, 3) := by decide +kernel
theorem dX3_burnColours_15 : decode cX3_burnColours 15 = .ok (.bipush 80, 2) := by decide +kernel
theorem dX3_burnColours_17 : decode cX3_burnColours 17 = .ok (.if_icmp .le 13, 3) := by decide +kernel
theorem dX3_burnColours_20 : decode cX3_burnColours 20 = .ok (.aload_n 0, 1) := by decide +kernel
theorem dX3_burnColours_21 : decode cX3_burnColours 21 = .ok (.getfield 17, 3) := by decide +kernel
theorem dX3_burnColours_24 : decode cX3_burnColours 24 = .ok (.iload_n 1, 1) := by decide +kernel
theorem dX3_burnColours_25 : decode cX3_burnColours 25 = .ok (.dup2, 1) := by decide +kernel
theorem dX3_burnColours_26 : decode cX3_burnColours 26 = .ok (.iaload, 1) := by decide +kernel
theorem dX3_burnColours_27 : decode cX3_burnColours 27 = .ok (.iconst 1, 1) := by decide +kernel
theorem dX3_burnColours_28 : decode cX3_burnColours 28 = .ok (.iadd, 1) := by decide +kernel
theorem dX3_burnColours_29 : decode cX3_burnColours 29 = .ok (.iastore, 1) := by decide +kernel
theorem dX3_burnColours_30 : decode cX3_burnColours 30 = .ok (.iinc 1 1, 3) := by decide +kernel
theorem dX3_burnColours_33 : decode cX3_burnColours 33 = .ok (.goto (-31), 3) := by decide +kernel
theorem dX3_burnColours_36 : decode cX3_burnColours 36 = .ok (.return_, 1) := by decide +kernel
theorem dX3_weightOfKind_0 : decode cX3_weightOfKind 0 = .ok (.iload_n 0, 1) := by decide +kernel
theorem dX3_weightOfKind_1 : decode cX3_weightOfKind 1 = .ok (.tableswitch 35 0 2 #[27, 29, 32], 27) := by decide +kernel
theorem dX3_weightOfKind_28 : decode cX3_weightOfKind 28 = .ok (.iconst 4, 1) := by decide +kernel
theorem dX3_weightOfKind_29 : decode cX3_weightOfKind 29 = .ok (.ireturn, 1) := by decide +kernel
theorem dX3_weightOfKind_30 : decode cX3_weightOfKind 30 = .ok (.bipush 9, 2) := by decide +kernel
theorem dX3_weightOfKind_32 : decode cX3_weightOfKind 32 = .ok (.ireturn, 1) := by decide +kernel
theorem dX3_weightOfKind_33 : decode cX3_weightOfKind 33 = .ok (.bipush 12, 2) := by decide +kernel
theorem dX3_weightOfKind_35 : decode cX3_weightOfKind 35 = .ok (.ireturn, 1) := by decide +kernel
theorem dX3_weightOfKind_36 : decode cX3_weightOfKind 36 = .ok (.bipush 25, 2) := by decide +kernel
theorem dX3_weightOfKind_38 : decode cX3_weightOfKind 38 = .ok (.ireturn, 1) := by decide +kernel
theorem dX3_wattsOfKind_0 : decode cX3_wattsOfKind 0 = .ok (.iload_n 0, 1) := by decide +kernel
theorem dX3_wattsOfKind_1 : decode cX3_wattsOfKind 1 = .ok (.tableswitch 39 0 2 #[27, 31, 35], 27) := by decide +kernel
theorem dX3_wattsOfKind_28 : decode cX3_wattsOfKind 28 = .ok (.sipush 1000, 3) := by decide +kernel
theorem dX3_wattsOfKind_31 : decode cX3_wattsOfKind 31 = .ok (.ireturn, 1) := by decide +kernel
theorem dX3_wattsOfKind_32 : decode cX3_wattsOfKind 32 = .ok (.sipush 750, 3) := by decide +kernel
theorem dX3_wattsOfKind_35 : decode cX3_wattsOfKind 35 = .ok (.ireturn, 1) := by decide +kernel
theorem dX3_wattsOfKind_36 : decode cX3_wattsOfKind 36 = .ok (.sipush 500, 3) := by decide +kernel
theorem dX3_wattsOfKind_39 : decode cX3_wattsOfKind 39 = .ok (.ireturn, 1) := by decide +kernel
theorem dX3_wattsOfKind_40 : decode cX3_wattsOfKind 40 = .ok (.sipush 800, 3) := by decide +kernel
theorem dX3_wattsOfKind_43 : decode cX3_wattsOfKind 43 = .ok (.ireturn, 1) := by decide +kernel
theorem dX3_widthOfKind_0 : decode cX3_widthOfKind 0 = .ok (.iload_n 0, 1) := by decide +kernel
theorem dX3_widthOfKind_1 : decode cX3_widthOfKind 1 = .ok (.tableswitch 33 0 2 #[27, 29, 31], 27) := by decide +kernel
theorem dX3_widthOfKind_28 : decode cX3_widthOfKind 28 = .ok (.iconst 1, 1) := by decide +kernel
theorem dX3_widthOfKind_29 : decode cX3_widthOfKind 29 = .ok (.ireturn, 1) := by decide +kernel
theorem dX3_widthOfKind_30 : decode cX3_widthOfKind 30 = .ok (.iconst 1, 1) := by decide +kernel
theorem dX3_widthOfKind_31 : decode cX3_widthOfKind 31 = .ok (.ireturn, 1) := by decide +kernel
theorem dX3_widthOfKind_32 : decode cX3_widthOfKind 32 = .ok (.iconst 4, 1) := by decide +kernel
theorem dX3_widthOfKind_33 : decode cX3_widthOfKind 33 = .ok (.ireturn, 1) := by decide +kernel
theorem dX3_widthOfKind_34 : decode cX3_widthOfKind 34 = .ok (.bipush 12, 2) := by decide +kernel
theorem dX3_widthOfKind_36 : decode cX3_widthOfKind 36 = .ok (.ireturn, 1) := by decide +kernel
end
section
theorem dX4_init_0 : decode cX4_init 0 = .ok (.aload_n 0, 1) := by decide +kernel
theorem dX4_init_1 : decode cX4_init 1 = .ok (.invokespecial 1, 3) := by decide +kernel
theorem dX4_init_4 : decode cX4_init 4 = .ok (.aload_n 0, 1) := by decide +kernel
theorem dX4_init_5 : decode cX4_init 5 = .ok (.iconst 2, 1) := by decide +kernel
theorem dX4_init_6 : decode cX4_init 6 = .ok (.newarray .int, 2) := by decide +kernel
theorem dX4_init_8 : decode cX4_init 8 = .ok (.putfield 7, 3) := by decide +kernel
theorem dX4_init_11 : decode cX4_init 11 = .ok (.aload_n 0, 1) := by decide +kernel
theorem dX4_init_12 : decode cX4_init 12 = .ok (.bipush 8, 2) := by decide +kernel
theorem dX4_init_14 : decode cX4_init 14 = .ok (.newarray .int, 2) := by decide +kernel
theorem dX4_init_16 : decode cX4_init 16 = .ok (.putfield 13, 3) := by decide +kernel
theorem dX4_init_19 : decode cX4_init 19 = .ok (.aload_n 0, 1) := by decide +kernel
theorem dX4_init_20 : decode cX4_init 20 = .ok (.bipush 8, 2) := by decide +kernel
theorem dX4_init_22 : decode cX4_init 22 = .ok (.newarray .int, 2) := by decide +kernel
theorem dX4_init_24 : decode cX4_init 24 = .ok (.putfield 16, 3) := by decide +kernel
theorem dX4_init_27 : decode cX4_init 27 = .ok (.aload_n 0, 1) := by decide +kernel
theorem dX4_init_28 : decode cX4_init 28 = .ok (.bipush 10, 2) := by decide +kernel
theorem dX4_init_30 : decode cX4_init 30 = .ok (.newarray .int, 2) := by decide +kernel
theorem dX4_init_32 : decode cX4_init 32 = .ok (.putfield 19, 3) := by decide +kernel
theorem dX4_init_35 : decode cX4_init 35 = .ok (.aload_n 0, 1) := by decide +kernel
theorem dX4_init_36 : decode cX4_init 36 = .ok (.bipush 10, 2) := by decide +kernel
theorem dX4_init_38 : decode cX4_init 38 = .ok (.newarray .int, 2) := by decide +kernel
theorem dX4_init_40 : decode cX4_init 40 = .ok (.putfield 22, 3) := by decide +kernel
theorem dX4_init_43 : decode cX4_init 43 = .ok (.aload_n 0, 1) := by decide +kernel
theorem dX4_init_44 : decode cX4_init 44 = .ok (.bipush 10, 2) := by decide +kernel
theorem dX4_init_46 : decode cX4_init 46 = .ok (.newarray .int, 2) := by decide +kernel
theorem dX4_init_48 : decode cX4_init 48 = .ok (.putfield 25, 3) := by decide +kernel
theorem dX4_init_51 : decode cX4_init 51 = .ok (.aload_n 0, 1) := by decide +kernel
theorem dX4_init_52 : decode cX4_init 52 = .ok (.bipush 10, 2) := by decide +kernel
theorem dX4_init_54 : decode cX4_init 54 = .ok (.newarray .int, 2) := by decide +kernel
theorem dX4_init_56 : decode cX4_init 56 = .ok (.putfield 28, 3) := by decide +kernel
theorem dX4_init_59 : decode cX4_init 59 = .ok (.aload_n 0, 1) := by decide +kernel
theorem dX4_init_60 : decode cX4_init 60 = .ok (.bipush 10, 2) := by decide +kernel
theorem dX4_init_62 : decode cX4_init 62 = .ok (.newarray .int, 2) := by decide +kernel
theorem dX4_init_64 : decode cX4_init 64 = .ok (.putfield 31, 3) := by decide +kernel
theorem dX4_init_67 : decode cX4_init 67 = .ok (.aload_n 0, 1) := by decide +kernel
theorem dX4_init_68 : decode cX4_init 68 = .ok (.bipush 10, 2) := by decide +kernel
theorem dX4_init_70 : decode cX4_init 70 = .ok (.newarray .int, 2) := by decide +kernel
theorem dX4_init_72 : decode cX4_init 72 = .ok (.putfield 34, 3) := by decide +kernel
theorem dX4_init_75 : decode cX4_init 75 = .ok (.aload_n 0, 1) := by decide +kernel
theorem dX4_init_76 : decode cX4_init 76 = .ok (.bipush 10, 2) := by decide +kernel
theorem dX4_init_78 : decode cX4_init 78 = .ok (.newarray .boolean, 2) := by decide +kernel
theorem dX4_init_80 : decode cX4_init 80 = .ok (.putfield 37, 3) := by decide +kernel
theorem dX4_init_83 : decode cX4_init 83 = .ok (.aload_n 0, 1) := by decide +kernel
theorem dX4_init_84 : decode cX4_init 84 = .ok (.bipush 10, 2) := by decide +kernel
theorem dX4_init_86 : decode cX4_init 86 = .ok (.newarray .int, 2) := by decide +kernel
theorem dX4_init_88 : decode cX4_init 88 = .ok (.putfield 41, 3) := by decide +kernel
theorem dX4_init_91 : decode cX4_init 91 = .ok (.aload_n 0, 1) := by decide +kernel
theorem dX4_init_92 : decode cX4_init 92 = .ok (.bipush 10, 2) := by decide +kernel
theorem dX4_init_94 : decode cX4_init 94 = .ok (.newarray .int, 2) := by decide +kernel
theorem dX4_init_96 : decode cX4_init 96 = .ok (.putfield 44, 3) := by decide +kernel
theorem dX4_init_99 : decode cX4_init 99 = .ok (.aload_n 0, 1) := by decide +kernel
theorem dX4_init_100 : decode cX4_init 100 = .ok (.bipush 10, 2) := by decide +kernel
theorem dX4_init_102 : decode cX4_init 102 = .ok (.newarray .int, 2) := by decide +kernel
theorem dX4_init_104 : decode cX4_init 104 = .ok (.putfield 47, 3) := by decide +kernel
theorem dX4_init_107 : decode cX4_init 107 = .ok (.aload_n 0, 1) := by decide +kernel
theorem dX4_init_108 : decode cX4_init 108 = .ok (.bipush 10, 2) := by decide +kernel
theorem dX4_init_110 : decode cX4_init 110 = .ok (.newarray .int, 2) := by decide +kernel
theorem dX4_init_112 : decode cX4_init 112 = .ok (.putfield 50, 3) := by decide +kernel
theorem dX4_init_115 : decode cX4_init 115 = .ok (.aload_n 0, 1) := by decide +kernel
theorem dX4_init_116 : decode cX4_init 116 = .ok (.bipush 10, 2) := by decide +kernel
theorem dX4_init_118 : decode cX4_init 118 = .ok (.newarray .int, 2) := by decide +kernel
theorem dX4_init_120 : decode cX4_init 120 = .ok (.putfield 53, 3) := by decide +kernel
theorem dX4_init_123 : decode cX4_init 123 = .ok (.aload_n 0, 1) := by decide +kernel
theorem dX4_init_124 : decode cX4_init 124 = .ok (.bipush 10, 2) := by decide +kernel
theorem dX4_init_126 : decode cX4_init 126 = .ok (.newarray .int, 2) := by decide +kernel
theorem dX4_init_128 : decode cX4_init 128 = .ok (.putfield 56, 3) := by decide +kernel
theorem dX4_init_131 : decode cX4_init 131 = .ok (.aload_n 0, 1) := by decide +kernel
theorem dX4_init_132 : decode cX4_init 132 = .ok (.bipush 8, 2) := by decide +kernel
theorem dX4_init_134 : decode cX4_init 134 = .ok (.newarray .int, 2) := by decide +kernel
theorem dX4_init_136 : decode cX4_init 136 = .ok (.putfield 59, 3) := by decide +kernel
theorem dX4_init_139 : decode cX4_init 139 = .ok (.aload_n 0, 1) := by decide +kernel
theorem dX4_init_140 : decode cX4_init 140 = .ok (.bipush 8, 2) := by decide +kernel
theorem dX4_init_142 : decode cX4_init 142 = .ok (.newarray .int, 2) := by decide +kernel
theorem dX4_init_144 : decode cX4_init 144 = .ok (.putfield 62, 3) := by decide +kernel
theorem dX4_init_147 : decode cX4_init 147 = .ok (.aload_n 0, 1) := by decide +kernel
theorem dX4_init_148 : decode cX4_init 148 = .ok (.bipush 8, 2) := by decide +kernel
theorem dX4_init_150 : decode cX4_init 150 = .ok (.newarray .int, 2) := by decide +kernel
theorem dX4_init_152 : decode cX4_init 152 = .ok (.putfield 65, 3) := by decide +kernel
theorem dX4_init_155 : decode cX4_init 155 = .ok (.aload_n 0, 1) := by decide +kernel
theorem dX4_init_156 : decode cX4_init 156 = .ok (.bipush 80, 2) := by decide +kernel
theorem dX4_init_158 : decode cX4_init 158 = .ok (.newarray .int, 2) := by decide +kernel
theorem dX4_init_160 : decode cX4_init 160 = .ok (.putfield 68, 3) := by decide +kernel
theorem dX4_init_163 : decode cX4_init 163 = .ok (.aload_n 0, 1) := by decide +kernel
theorem dX4_init_164 : decode cX4_init 164 = .ok (.bipush 10, 2) := by decide +kernel
theorem dX4_init_166 : decode cX4_init 166 = .ok (.newarray .int, 2) := by decide +kernel
theorem dX4_init_168 : decode cX4_init 168 = .ok (.putfield 71, 3) := by decide +kernel
theorem dX4_init_171 : decode cX4_init 171 = .ok (.iconst 0, 1) := by decide +kernel
theorem dX4_init_172 : decode cX4_init 172 = .ok (.istore_n 1, 1) := by decide +kernel
theorem dX4_init_173 : decode cX4_init 173 = .ok (.iload_n 1, 1) := by decide +kernel
theorem dX4_init_174 : decode cX4_init 174 = .ok (.bipush 80, 2) := by decide +kernel
theorem dX4_init_176 : decode cX4_init 176 = .ok (.if_icmp .ge 16, 3) := by decide +kernel
theorem dX4_init_179 : decode cX4_init 179 = .ok (.aload_n 0, 1) := by decide +kernel
theorem dX4_init_180 : decode cX4_init 180 = .ok (.getfield 68, 3) := by decide +kernel
theorem dX4_init_183 : decode cX4_init 183 = .ok (.iload_n 1, 1) := by decide +kernel
theorem dX4_init_184 : decode cX4_init 184 = .ok (.iconst (-1), 1) := by decide +kernel
theorem dX4_init_185 : decode cX4_init 185 = .ok (.iastore, 1) := by decide +kernel
theorem dX4_init_186 : decode cX4_init 186 = .ok (.iinc 1 1, 3) := by decide +kernel
theorem dX4_init_189 : decode cX4_init 189 = .ok (.goto (-16), 3) := by decide +kernel
theorem dX4_init_192 : decode cX4_init 192 = .ok (.return_, 1) := by decide +kernel
theorem dX4_thrown_0 : decode cX4_thrown 0 = .ok (.aload_n 0, 1) := by decide +kernel
theorem dX4_thrown_1 : decode cX4_thrown 1 = .ok (.getfield 74, 3) := by decide +kernel
theorem dX4_thrown_4 : decode cX4_thrown 4 = .ok (.ireturn, 1) := by decide +kernel
theorem dX4_may_0 : decode cX4_may 0 = .ok (.aload_n 0, 1) := by decide +kernel
theorem dX4_may_1 : decode cX4_may 1 = .ok (.iload_n 1, 1) := by decide +kernel
theorem dX4_may_2 : decode cX4_may 2 = .ok (.ifCond .eq 7, 3) := by decide +kernel
theorem dX4_may_5 : decode cX4_may 5 = .ok (.iconst 0, 1) := by decide +kernel
theorem dX4_may_6 : decode cX4_may 6 = .ok (.goto 4, 3) := by decide +kernel
theorem dX4_may_9 : decode cX4_may 9 = .ok (.iconst 1, 1) := by decide +kernel
theorem dX4_may_10 : decode cX4_may 10 = .ok (.putfield 74, 3) := by decide +kernel
theorem dX4_may_13 : decode cX4_may 13 = .ok (.iload_n 1, 1) := by decide +kernel
theorem dX4_may_14 : decode cX4_may 14 = .ok (.ireturn, 1) := by decide +kernel
theorem dX4_mayBoth_0 : decode cX4_mayBoth 0 = .ok (.aload_n 0, 1) := by decide +kernel
theorem dX4_mayBoth_1 : decode cX4_mayBoth 1 = .ok (.iload_n 1, 1) := by decide +kernel
theorem dX4_mayBoth_2 : decode cX4_mayBoth 2 = .ok (.ifCond .ne 7, 3) := by decide +kernel
theorem dX4_mayBoth_5 : decode cX4_mayBoth 5 = .ok (.iconst 1, 1) := by decide +kernel
theorem dX4_mayBoth_6 : decode cX4_mayBoth 6 = .ok (.goto 12, 3) := by decide +kernel
theorem dX4_mayBoth_9 : decode cX4_mayBoth 9 = .ok (.iload_n 2, 1) := by decide +kernel
theorem dX4_mayBoth_10 : decode cX4_mayBoth 10 = .ok (.ifCond .ne 7, 3) := by decide +kernel
theorem dX4_mayBoth_13 : decode cX4_mayBoth 13 = .ok (.iconst 2, 1) := by decide +kernel
theorem dX4_mayBoth_14 : decode cX4_mayBoth 14 = .ok (.goto 4, 3) := by decide +kernel
theorem dX4_mayBoth_17 : decode cX4_mayBoth 17 = .ok (.iconst 0, 1) := by decide +kernel
theorem dX4_mayBoth_18 : decode cX4_mayBoth 18 = .ok (.putfield 74, 3) := by decide +kernel
theorem dX4_mayBoth_21 : decode cX4_mayBoth 21 = .ok (.aload_n 0, 1) := by decide +kernel
theorem dX4_mayBoth_22 : decode cX4_mayBoth 22 = .ok (.getfield 74, 3) := by decide +kernel
theorem dX4_mayBoth_25 : decode cX4_mayBoth 25 = .ok (.ifCond .ne 7, 3) := by decide +kernel
theorem dX4_mayBoth_28 : decode cX4_mayBoth 28 = .ok (.iconst 1, 1) := by decide +kernel
theorem dX4_mayBoth_29 : decode cX4_mayBoth 29 = .ok (.goto 4, 3) := by decide +kernel
theorem dX4_mayBoth_32 : decode cX4_mayBoth 32 = .ok (.iconst 0, 1) := by decide +kernel
theorem dX4_mayBoth_33 : decode cX4_mayBoth 33 = .ok (.ireturn, 1) := by decide +kernel
theorem dX4_mayAll_0 : decode cX4_mayAll 0 = .ok (.aload_n 0, 1) := by decide +kernel
theorem dX4_mayAll_1 : decode cX4_mayAll 1 = .ok (.iload_n 1, 1) := by decide +kernel
theorem dX4_mayAll_2 : decode cX4_mayAll 2 = .ok (.ifCond .ne 7, 3) := by decide +kernel
theorem dX4_mayAll_5 : decode cX4_mayAll 5 = .ok (.iconst 1, 1) := by decide +kernel
theorem dX4_mayAll_6 : decode cX4_mayAll 6 = .ok (.goto 20, 3) := by decide +kernel
theorem dX4_mayAll_9 : decode cX4_mayAll 9 = .ok (.iload_n 2, 1) := by decide +kernel
theorem dX4_mayAll_10 : decode cX4_mayAll 10 = .ok (.ifCond .ne 7, 3) := by decide +kernel
theorem dX4_mayAll_13 : decode cX4_mayAll 13 = .ok (.iconst 2, 1) := by decide +kernel
theorem dX4_mayAll_14 : decode cX4_mayAll 14 = .ok (.goto 12, 3) := by decide +kernel
theorem dX4_mayAll_17 : decode cX4_mayAll 17 = .ok (.iload_n 3, 1) := by decide +kernel
theorem dX4_mayAll_18 : decode cX4_mayAll 18 = .ok (.ifCond .ne 7, 3) := by decide +kernel
theorem dX4_mayAll_21 : decode cX4_mayAll 21 = .ok (.iconst 3, 1) := by decide +kernel
theorem dX4_mayAll_22 : decode cX4_mayAll 22 = .ok (.goto 4, 3) := by decide +kernel
theorem dX4_mayAll_25 : decode cX4_mayAll 25 = .ok (.iconst 0, 1) := by decide +kernel
theorem dX4_mayAll_26 : decode cX4_mayAll 26 = .ok (.putfield 74, 3) := by decide +kernel
theorem dX4_mayAll_29 : decode cX4_mayAll 29 = .ok (.aload_n 0, 1) := by decide +kernel
theorem dX4_mayAll_30 : decode cX4_mayAll 30 = .ok (.getfield 74, 3) := by decide +kernel
theorem dX4_mayAll_33 : decode cX4_mayAll 33 = .ok (.ifCond .ne 7, 3) := by decide +kernel
theorem dX4_mayAll_36 : decode cX4_mayAll 36 = .ok (.iconst 1, 1) := by decide +kernel
theorem dX4_mayAll_37 : decode cX4_mayAll 37 = .ok (.goto 4, 3) := by decide +kernel
theorem dX4_mayAll_40 : decode cX4_mayAll 40 = .ok (.iconst 0, 1) := by decide +kernel
theorem dX4_mayAll_41 : decode cX4_mayAll 41 = .ok (.ireturn, 1) := by decide +kernel
theorem dX4_isIn_0 : decode cX4_isIn 0 = .ok (.iload_n 0, 1) := by decide +kernel
theorem dX4_isIn_1 : decode cX4_isIn 1 = .ok (.iload_n 1, 1) := by decide +kernel
theorem dX4_isIn_2 : decode cX4_isIn 2 = .ok (.if_icmp .lt 12, 3) := by decide +kernel
theorem dX4_isIn_5 : decode cX4_isIn 5 = .ok (.iload_n 0, 1) := by decide +kernel
theorem dX4_isIn_6 : decode cX4_isIn 6 = .ok (.iload_n 2, 1) := by decide +kernel
theorem dX4_isIn_7 : decode cX4_isIn 7 = .ok (.if_icmp .gt 7, 3) := by decide +kernel
theorem dX4_isIn_10 : decode cX4_isIn 10 = .ok (.iconst 1, 1) := by decide +kernel
theorem dX4_isIn_11 : decode cX4_isIn 11 = .ok (.goto 4, 3) := by decide +kernel
theorem dX4_isIn_14 : decode cX4_isIn 14 = .ok (.iconst 0, 1) := by decide +kernel
theorem dX4_isIn_15 : decode cX4_isIn 15 = .ok (.ireturn, 1) := by decide +kernel
set_option maxRecDepth 20000 in
theorem ggX4_isLamp_X4_isIn : GoodIn wsX4_isLamp wsX4_isIn := goodIn_r _ [5] (by decide +kernel) (by decide +kernel)
set_option maxRecDepth 20000 in
theorem gX4_isLamp_X4_isIn : GoodIn wsX4_isLamp (va_wsS RX4 81 yX4_isIn wsX4_isIn) := goodIn_app (goodIn_of _ (by decide +kernel)) ggX4_isLamp_X4_isIn
theorem dX4_isLamp_0 : decode cX4_isLamp 0 = .ok (.iload_n 1, 1) := by decide +kernel
theorem dX4_isLamp_1 : decode cX4_isLamp 1 = .ok (.iconst 0, 1) := by decide +kernel
theorem dX4_isLamp_2 : decode cX4_isLamp 2 = .ok (.aload_n 0, 1) := by decide +kernel
theorem dX4_isLamp_3 : decode cX4_isLamp 3 = .ok (.getfield 78, 3) := by decide +kernel
theorem dX4_isLamp_6 : decode cX4_isLamp 6 = .ok (.iconst 1, 1) := by decide +kernel
theorem dX4_isLamp_7 : decode cX4_isLamp 7 = .ok (.isub, 1) := by decide +kernel
theorem dX4_isLamp_8 : decode cX4_isLamp 8 = .ok (.invokestatic 81, 3) := by decide +kernel
theorem dX4_isLamp_11 : decode cX4_isLamp 11 = .ok (.ireturn, 1) := by decide +kernel
set_option maxRecDepth 20000 in
theorem ggX4_isBar_X4_isIn : GoodIn wsX4_isBar wsX4_isIn := goodIn_r _ [6] (by decide +kernel) (by decide +kernel)
set_option maxRecDepth 20000 in
theorem gX4_isBar_X4_isIn : GoodIn wsX4_isBar (va_wsS RX4 81 yX4_isIn wsX4_isIn) := goodIn_app (goodIn_of _ (by decide +kernel)) ggX4_isBar_X4_isIn
theorem dX4_isBar_0 : decode cX4_isBar 0 = .ok (.iload_n 1, 1) := by decide +kernel
theorem dX4_isBar_1 : decode cX4_isBar 1 = .ok (.iconst 0, 1) := by decide +kernel
theorem dX4_isBar_2 : decode cX4_isBar 2 = .ok (.aload_n 0, 1) := by decide +kernel
theorem dX4_isBar_3 : decode cX4_isBar 3 = .ok (.getfield 7, 3) := by decide +kernel
theorem dX4_isBar_6 : decode cX4_isBar 6 = .ok (.aload_n 0, 1) := by decide +kernel
theorem dX4_isBar_7 : decode cX4_isBar 7 = .ok (.getfield 85, 3) := by decide +kernel
theorem dX4_isBar_10 : decode cX4_isBar 10 = .ok (.iaload, 1) := by decide +kernel
theorem dX4_isBar_11 : decode cX4_isBar 11 = .ok (.iconst 1, 1) := by decide +kernel
theorem dX4_isBar_12 : decode cX4_isBar 12 = .ok (.isub, 1) := by decide +kernel
theorem dX4_isBar_13 : decode cX4_isBar 13 = .ok (.invokestatic 81, 3) := by decide +kernel
theorem dX4_isBar_16 : decode cX4_isBar 16 = .ok (.ireturn, 1) := by decide +kernel
set_option maxRecDepth 20000 in
theorem ggX4_isCue_X4_isIn : GoodIn wsX4_isCue wsX4_isIn := goodIn_r _ [5] (by decide +kernel) (by decide +kernel)
set_option maxRecDepth 20000 in
theorem gX4_isCue_X4_isIn : GoodIn wsX4_isCue (va_wsS RX4 81 yX4_isIn wsX4_isIn) := goodIn_app (goodIn_of _ (by decide +kernel)) ggX4_isCue_X4_isIn
theorem dX4_isCue_0 : decode cX4_isCue 0 = .ok (.iload_n 1, 1) := by decide +kernel
theorem dX4_isCue_1 : decode cX4_isCue 1 = .ok (.iconst 0, 1) := by decide +kernel
theorem dX4_isCue_2 : decode cX4_isCue 2 = .ok (.aload_n 0, 1) := by decide +kernel
theorem dX4_isCue_3 : decode cX4_isCue 3 = .ok (.getfield 88, 3) := by decide +kernel
theorem dX4_isCue_6 : decode cX4_isCue 6 = .ok (.iconst 1, 1) := by decide +kernel
theorem dX4_isCue_7 : decode cX4_isCue 7 = .ok (.isub, 1) := by decide +kernel
theorem dX4_isCue_8 : decode cX4_isCue 8 = .ok (.invokestatic 81, 3) := by decide +kernel
theorem dX4_isCue_11 : decode cX4_isCue 11 = .ok (.ireturn, 1) := by decide +kernel
theorem dX4_weighs_0 : decode cX4_weighs 0 = .ok (.iload_n 0, 1) := by decide +kernel
theorem dX4_weighs_1 : decode cX4_weighs 1 = .ok (.ifCond .ne 7, 3) := by decide +kernel
theorem dX4_weighs_4 : decode cX4_weighs 4 = .ok (.iconst 4, 1) := by decide +kernel
theorem dX4_weighs_5 : decode cX4_weighs 5 = .ok (.goto 25, 3) := by decide +kernel
theorem dX4_weighs_8 : decode cX4_weighs 8 = .ok (.iload_n 0, 1) := by decide +kernel
theorem dX4_weighs_9 : decode cX4_weighs 9 = .ok (.iconst 1, 1) := by decide +kernel
theorem dX4_weighs_10 : decode cX4_weighs 10 = .ok (.if_icmp .ne 8, 3) := by decide +kernel
theorem dX4_weighs_13 : decode cX4_weighs 13 = .ok (.bipush 9, 2) := by decide +kernel
theorem dX4_weighs_15 : decode cX4_weighs 15 = .ok (.goto 15, 3) := by decide +kernel
theorem dX4_weighs_18 : decode cX4_weighs 18 = .ok (.iload_n 0, 1) := by decide +kernel
theorem dX4_weighs_19 : decode cX4_weighs 19 = .ok (.iconst 2, 1) := by decide +kernel
theorem dX4_weighs_20 : decode cX4_weighs 20 = .ok (.if_icmp .ne 8, 3) := by decide +kernel
theorem dX4_weighs_23 : decode cX4_weighs 23 = .ok (.bipush 12, 2) := by decide +kernel
theorem dX4_weighs_25 : decode cX4_weighs 25 = .ok (.goto 5, 3) := by decide +kernel
theorem dX4_weighs_28 : decode cX4_weighs 28 = .ok (.bipush 25, 2) := by decide +kernel
theorem dX4_weighs_30 : decode cX4_weighs 30 = .ok (.ireturn, 1) := by decide +kernel
theorem dX4_draws_0 : decode cX4_draws 0 = .ok (.iload_n 0, 1) := by decide +kernel
theorem dX4_draws_1 : decode cX4_draws 1 = .ok (.ifCond .ne 9, 3) := by decide +kernel
theorem dX4_draws_4 : decode cX4_draws 4 = .ok (.sipush 1000, 3) := by decide +kernel
theorem dX4_draws_7 : decode cX4_draws 7 = .ok (.goto 28, 3) := by decide +kernel
theorem dX4_draws_10 : decode cX4_draws 10 = .ok (.iload_n 0, 1) := by decide +kernel
theorem dX4_draws_11 : decode cX4_draws 11 = .ok (.iconst 1, 1) := by decide +kernel
theorem dX4_draws_12 : decode cX4_draws 12 = .ok (.if_icmp .ne 9, 3) := by decide +kernel
theorem dX4_draws_15 : decode cX4_draws 15 = .ok (.sipush 750, 3) := by decide +kernel
theorem dX4_draws_18 : decode cX4_draws 18 = .ok (.goto 17, 3) := by decide +kernel
theorem dX4_draws_21 : decode cX4_draws 21 = .ok (.iload_n 0, 1) := by decide +kernel
theorem dX4_draws_22 : decode cX4_draws 22 = .ok (.iconst 2, 1) := by decide +kernel
theorem dX4_draws_23 : decode cX4_draws 23 = .ok (.if_icmp .ne 9, 3) := by decide +kernel
theorem dX4_draws_26 : decode cX4_draws 26 = .ok (.sipush 500, 3) := by decide +kernel
theorem dX4_draws_29 : decode cX4_draws 29 = .ok (.goto 6, 3) := by decide +kernel
theorem dX4_draws_32 : decode cX4_draws 32 = .ok (.sipush 800, 3) := by decide +kernel
theorem dX4_draws_35 : decode cX4_draws 35 = .ok (.ireturn, 1) := by decide +kernel
theorem dX4_has_0 : decode cX4_has 0 = .ok (.iload_n 0, 1) := by decide +kernel
theorem dX4_has_1 : decode cX4_has 1 = .ok (.iconst 2, 1) := by decide +kernel
theorem dX4_has_2 : decode cX4_has 2 = .ok (.if_icmp .ne 7, 3) := by decide +kernel
theorem dX4_has_5 : decode cX4_has 5 = .ok (.iconst 4, 1) := by decide +kernel
theorem dX4_has_6 : decode cX4_has 6 = .ok (.goto 14, 3) := by decide +kernel
theorem dX4_has_9 : decode cX4_has 9 = .ok (.iload_n 0, 1) := by decide +kernel
theorem dX4_has_10 : decode cX4_has 10 = .ok (.iconst 3, 1) := by decide +kernel
theorem dX4_has_11 : decode cX4_has 11 = .ok (.if_icmp .ne 8, 3) := by decide +kernel
theorem dX4_has_14 : decode cX4_has 14 = .ok (.bipush 12, 2) := by decide +kernel
theorem dX4_has_16 : decode cX4_has 16 = .ok (.goto 4, 3) := by decide +kernel
theorem dX4_has_19 : decode cX4_has 19 = .ok (.iconst 1, 1) := by decide +kernel
theorem dX4_has_20 : decode cX4_has 20 = .ok (.ireturn, 1) := by decide +kernel
set_option maxRecDepth 20000 in
theorem ggX4_bar_X4_isIn : GoodIn wsX4_bar wsX4_isIn := goodIn_r _ [7] (by decide +kernel) (by decide +kernel)
set_option maxRecDepth 20000 in
theorem gX4_bar_X4_isIn : GoodIn wsX4_bar (va_wsS RX4 81 yX4_isIn wsX4_isIn) := goodIn_app (goodIn_of _ (by decide +kernel)) ggX4_bar_X4_isIn
set_option maxRecDepth 20000 in
theorem ggX4_bar_X4_mayAll : GoodIn wsX4_bar wsX4_mayAll := goodIn_r _ [11, 12, 13, 14, 15, 16, 17, 18, 19, 20, 21, 22, 23, 24, 25, 26, 27, 28, 29, 30, 31, 32, 33, 34, 35, 36, 37, 38, 39, 40] (by decide +kernel) (by decide +kernel)
set_option maxRecDepth 20000 in
theorem gX4_bar_X4_mayAll : GoodIn wsX4_bar (wsV RX4 91 RX4 yX4_mayAll wsX4_mayAll) := goodIn_app (goodIn_of _ (by decide +kernel)) ggX4_bar_X4_mayAll
theorem dX4_bar_0 : decode cX4_bar 0 = .ok (.iload_n 1, 1) := by decide +kernel
theorem dX4_bar_1 : decode cX4_bar 1 = .ok (.iconst 0, 1) := by decide +kernel
theorem dX4_bar_2 : decode cX4_bar 2 = .ok (.iconst 1, 1) := by decide +kernel
theorem dX4_bar_3 : decode cX4_bar 3 = .ok (.invokestatic 81, 3) := by decide +kernel
theorem dX4_bar_6 : decode cX4_bar 6 = .ok (.istore 4, 2) := by decide +kernel
theorem dX4_bar_8 : decode cX4_bar 8 = .ok (.aload_n 0, 1) := by decide +kernel
theorem dX4_bar_9 : decode cX4_bar 9 = .ok (.iload 4, 2) := by decide +kernel
theorem dX4_bar_11 : decode cX4_bar 11 = .ok (.iload_n 2, 1) := by decide +kernel
theorem dX4_bar_12 : decode cX4_bar 12 = .ok (.iconst 0, 1) := by decide +kernel
theorem dX4_bar_13 : decode cX4_bar 13 = .ok (.bipush 100, 2) := by decide +kernel
theorem dX4_bar_15 : decode cX4_bar 15 = .ok (.invokestatic 81, 3) := by decide +kernel
theorem dX4_bar_18 : decode cX4_bar 18 = .ok (.ifCond .eq 18, 3) := by decide +kernel
theorem dX4_bar_21 : decode cX4_bar 21 = .ok (.iload_n 3, 1) := by decide +kernel
theorem dX4_bar_22 : decode cX4_bar 22 = .ok (.iconst 1, 1) := by decide +kernel
theorem dX4_bar_23 : decode cX4_bar 23 = .ok (.sipush 500, 3) := by decide +kernel
theorem dX4_bar_26 : decode cX4_bar 26 = .ok (.invokestatic 81, 3) := by decide +kernel
theorem dX4_bar_29 : decode cX4_bar 29 = .ok (.ifCond .eq 7, 3) := by decide +kernel
theorem dX4_bar_32 : decode cX4_bar 32 = .ok (.iconst 1, 1) := by decide +kernel
theorem dX4_bar_33 : decode cX4_bar 33 = .ok (.goto 4, 3) := by decide +kernel
theorem dX4_bar_36 : decode cX4_bar 36 = .ok (.iconst 0, 1) := by decide +kernel
theorem dX4_bar_37 : decode cX4_bar 37 = .ok (.iload 4, 2) := by decide +kernel
theorem dX4_bar_39 : decode cX4_bar 39 = .ok (.ifCond .eq 17, 3) := by decide +kernel
theorem dX4_bar_42 : decode cX4_bar 42 = .ok (.aload_n 0, 1) := by decide +kernel
theorem dX4_bar_43 : decode cX4_bar 43 = .ok (.getfield 7, 3) := by decide +kernel
theorem dX4_bar_46 : decode cX4_bar 46 = .ok (.iload_n 1, 1) := by decide +kernel
theorem dX4_bar_47 : decode cX4_bar 47 = .ok (.iaload, 1) := by decide +kernel
theorem dX4_bar_48 : decode cX4_bar 48 = .ok (.iconst 4, 1) := by decide +kernel
theorem dX4_bar_49 : decode cX4_bar 49 = .ok (.if_icmp .ge 7, 3) := by decide +kernel
theorem dX4_bar_52 : decode cX4_bar 52 = .ok (.iconst 1, 1) := by decide +kernel
theorem dX4_bar_53 : decode cX4_bar 53 = .ok (.goto 4, 3) := by decide +kernel
theorem dX4_bar_56 : decode cX4_bar 56 = .ok (.iconst 0, 1) := by decide +kernel
theorem dX4_bar_57 : decode cX4_bar 57 = .ok (.invokevirtual 91, 3) := by decide +kernel
theorem dX4_bar_60 : decode cX4_bar 60 = .ok (.ifCond .ne 5, 3) := by decide +kernel
theorem dX4_bar_63 : decode cX4_bar 63 = .ok (.iconst 0, 1) := by decide +kernel
theorem dX4_bar_64 : decode cX4_bar 64 = .ok (.ireturn, 1) := by decide +kernel
theorem dX4_bar_65 : decode cX4_bar 65 = .ok (.aload_n 0, 1) := by decide +kernel
theorem dX4_bar_66 : decode cX4_bar 66 = .ok (.getfield 13, 3) := by decide +kernel
theorem dX4_bar_69 : decode cX4_bar 69 = .ok (.iconst 4, 1) := by decide +kernel
theorem dX4_bar_70 : decode cX4_bar 70 = .ok (.iload_n 1, 1) := by decide +kernel
theorem dX4_bar_71 : decode cX4_bar 71 = .ok (.imul, 1) := by decide +kernel
theorem dX4_bar_72 : decode cX4_bar 72 = .ok (.aload_n 0, 1) := by decide +kernel
theorem dX4_bar_73 : decode cX4_bar 73 = .ok (.getfield 7, 3) := by decide +kernel
theorem dX4_bar_76 : decode cX4_bar 76 = .ok (.iload_n 1, 1) := by decide +kernel
theorem dX4_bar_77 : decode cX4_bar 77 = .ok (.iaload, 1) := by decide +kernel
theorem dX4_bar_78 : decode cX4_bar 78 = .ok (.iadd, 1) := by decide +kernel
theorem dX4_bar_79 : decode cX4_bar 79 = .ok (.iload_n 2, 1) := by decide +kernel
theorem dX4_bar_80 : decode cX4_bar 80 = .ok (.iastore, 1) := by decide +kernel
theorem dX4_bar_81 : decode cX4_bar 81 = .ok (.aload_n 0, 1) := by decide +kernel
theorem dX4_bar_82 : decode cX4_bar 82 = .ok (.getfield 16, 3) := by decide +kernel
theorem dX4_bar_85 : decode cX4_bar 85 = .ok (.iconst 4, 1) := by decide +kernel
theorem dX4_bar_86 : decode cX4_bar 86 = .ok (.iload_n 1, 1) := by decide +kernel
theorem dX4_bar_87 : decode cX4_bar 87 = .ok (.imul, 1) := by decide +kernel
theorem dX4_bar_88 : decode cX4_bar 88 = .ok (.aload_n 0, 1) := by decide +kernel
theorem dX4_bar_89 : decode cX4_bar 89 = .ok (.getfield 7, 3) := by decide +kernel
theorem dX4_bar_92 : decode cX4_bar 92 = .ok (.iload_n 1, 1) := by decide +kernel
theorem dX4_bar_93 : decode cX4_bar 93 = .ok (.iaload, 1) := by decide +kernel
theorem dX4_bar_94 : decode cX4_bar 94 = .ok (.iadd, 1) := by decide +kernel
theorem dX4_bar_95 : decode cX4_bar 95 = .ok (.iload_n 3, 1) := by decide +kernel
theorem dX4_bar_96 : decode cX4_bar 96 = .ok (.iastore, 1) := by decide +kernel
theorem dX4_bar_97 : decode cX4_bar 97 = .ok (.aload_n 0, 1) := by decide +kernel
theorem dX4_bar_98 : decode cX4_bar 98 = .ok (.getfield 7, 3) := by decide +kernel
theorem dX4_bar_101 : decode cX4_bar 101 = .ok (.iload_n 1, 1) := by decide +kernel
theorem dX4_bar_102 : decode cX4_bar 102 = .ok (.dup2, 1) := by decide +kernel
theorem dX4_bar_103 : decode cX4_bar 103 = .ok (.iaload, 1) := by decide +kernel
theorem dX4_bar_104 : decode cX4_bar 104 = .ok (.iconst 1, 1) := by decide +kernel
theorem dX4_bar_105 : decode cX4_bar 105 = .ok (.iadd, 1) := by decide +kernel
theorem dX4_bar_106 : decode cX4_bar 106 = .ok (.iastore, 1) := by decide +kernel
theorem dX4_bar_107 : decode cX4_bar 107 = .ok (.aload_n 0, 1) := by decide +kernel
theorem dX4_bar_108 : decode cX4_bar 108 = .ok (.getfield 7, 3) := by decide +kernel
theorem dX4_bar_111 : decode cX4_bar 111 = .ok (.iload_n 1, 1) := by decide +kernel
theorem dX4_bar_112 : decode cX4_bar 112 = .ok (.iaload, 1) := by decide +kernel
theorem dX4_bar_113 : decode cX4_bar 113 = .ok (.iconst 1, 1) := by decide +kernel
theorem dX4_bar_114 : decode cX4_bar 114 = .ok (.isub, 1) := by decide +kernel
theorem dX4_bar_115 : decode cX4_bar 115 = .ok (.ireturn, 1) := by decide +kernel
set_option maxRecDepth 20000 in
theorem ggX4_lamp_X4_isIn : GoodIn wsX4_lamp wsX4_isIn := goodIn_r _ [10] (by decide +kernel) (by decide +kernel)
set_option maxRecDepth 20000 in
theorem gX4_lamp_X4_isIn : GoodIn wsX4_lamp (va_wsS RX4 81 yX4_isIn wsX4_isIn) := goodIn_app (goodIn_of _ (by decide +kernel)) ggX4_lamp_X4_isIn
set_option maxRecDepth 20000 in
theorem ggX4_lamp_X4_mayBoth : GoodIn wsX4_lamp wsX4_mayBoth := goodIn_r _ [14, 15, 16, 17, 18, 19, 20, 21, 22, 23, 24, 25, 26, 27, 28, 29, 30, 31, 32, 33, 34, 35, 36, 37, 38, 39, 40, 41, 42, 43] (by decide +kernel) (by decide +kernel)
set_option maxRecDepth 20000 in
theorem gX4_lamp_X4_mayBoth : GoodIn wsX4_lamp (wsV RX4 95 RX4 yX4_mayBoth wsX4_mayBoth) := goodIn_app (goodIn_of _ (by decide +kernel)) ggX4_lamp_X4_mayBoth
theorem dX4_lamp_0 : decode cX4_lamp 0 = .ok (.aload_n 0, 1) := by decide +kernel
theorem dX4_lamp_1 : decode cX4_lamp 1 = .ok (.iload_n 1, 1) := by decide +kernel
theorem dX4_lamp_2 : decode cX4_lamp 2 = .ok (.iconst 0, 1) := by decide +kernel
theorem dX4_lamp_3 : decode cX4_lamp 3 = .ok (.iconst 3, 1) := by decide +kernel
theorem dX4_lamp_4 : decode cX4_lamp 4 = .ok (.invokestatic 81, 3) := by decide +kernel
theorem dX4_lamp_7 : decode cX4_lamp 7 = .ok (.ifCond .eq 17, 3) := by decide +kernel
theorem dX4_lamp_10 : decode cX4_lamp 10 = .ok (.iload_n 2, 1) := by decide +kernel
theorem dX4_lamp_11 : decode cX4_lamp 11 = .ok (.iconst 0, 1) := by decide +kernel
theorem dX4_lamp_12 : decode cX4_lamp 12 = .ok (.bipush 20, 2) := by decide +kernel
theorem dX4_lamp_14 : decode cX4_lamp 14 = .ok (.invokestatic 81, 3) := by decide +kernel
theorem dX4_lamp_17 : decode cX4_lamp 17 = .ok (.ifCond .eq 7, 3) := by decide +kernel
theorem dX4_lamp_20 : decode cX4_lamp 20 = .ok (.iconst 1, 1) := by decide +kernel
theorem dX4_lamp_21 : decode cX4_lamp 21 = .ok (.goto 4, 3) := by decide +kernel
theorem dX4_lamp_24 : decode cX4_lamp 24 = .ok (.iconst 0, 1) := by decide +kernel
theorem dX4_lamp_25 : decode cX4_lamp 25 = .ok (.aload_n 0, 1) := by decide +kernel
theorem dX4_lamp_26 : decode cX4_lamp 26 = .ok (.getfield 78, 3) := by decide +kernel
theorem dX4_lamp_29 : decode cX4_lamp 29 = .ok (.bipush 10, 2) := by decide +kernel
theorem dX4_lamp_31 : decode cX4_lamp 31 = .ok (.if_icmp .ge 7, 3) := by decide +kernel
theorem dX4_lamp_34 : decode cX4_lamp 34 = .ok (.iconst 1, 1) := by decide +kernel
theorem dX4_lamp_35 : decode cX4_lamp 35 = .ok (.goto 4, 3) := by decide +kernel
theorem dX4_lamp_38 : decode cX4_lamp 38 = .ok (.iconst 0, 1) := by decide +kernel
theorem dX4_lamp_39 : decode cX4_lamp 39 = .ok (.invokevirtual 95, 3) := by decide +kernel
theorem dX4_lamp_42 : decode cX4_lamp 42 = .ok (.ifCond .ne 5, 3) := by decide +kernel
theorem dX4_lamp_45 : decode cX4_lamp 45 = .ok (.iconst 0, 1) := by decide +kernel
theorem dX4_lamp_46 : decode cX4_lamp 46 = .ok (.ireturn, 1) := by decide +kernel
theorem dX4_lamp_47 : decode cX4_lamp 47 = .ok (.aload_n 0, 1) := by decide +kernel
theorem dX4_lamp_48 : decode cX4_lamp 48 = .ok (.getfield 19, 3) := by decide +kernel
theorem dX4_lamp_51 : decode cX4_lamp 51 = .ok (.aload_n 0, 1) := by decide +kernel
theorem dX4_lamp_52 : decode cX4_lamp 52 = .ok (.getfield 78, 3) := by decide +kernel
theorem dX4_lamp_55 : decode cX4_lamp 55 = .ok (.iload_n 1, 1) := by decide +kernel
theorem dX4_lamp_56 : decode cX4_lamp 56 = .ok (.iastore, 1) := by decide +kernel
theorem dX4_lamp_57 : decode cX4_lamp 57 = .ok (.aload_n 0, 1) := by decide +kernel
theorem dX4_lamp_58 : decode cX4_lamp 58 = .ok (.getfield 22, 3) := by decide +kernel
theorem dX4_lamp_61 : decode cX4_lamp 61 = .ok (.aload_n 0, 1) := by decide +kernel
theorem dX4_lamp_62 : decode cX4_lamp 62 = .ok (.getfield 78, 3) := by decide +kernel
theorem dX4_lamp_65 : decode cX4_lamp 65 = .ok (.iload_n 2, 1) := by decide +kernel
theorem dX4_lamp_66 : decode cX4_lamp 66 = .ok (.iastore, 1) := by decide +kernel
theorem dX4_lamp_67 : decode cX4_lamp 67 = .ok (.aload_n 0, 1) := by decide +kernel
theorem dX4_lamp_68 : decode cX4_lamp 68 = .ok (.getfield 25, 3) := by decide +kernel
theorem dX4_lamp_71 : decode cX4_lamp 71 = .ok (.aload_n 0, 1) := by decide +kernel
theorem dX4_lamp_72 : decode cX4_lamp 72 = .ok (.getfield 78, 3) := by decide +kernel
theorem dX4_lamp_75 : decode cX4_lamp 75 = .ok (.iconst (-1), 1) := by decide +kernel
theorem dX4_lamp_76 : decode cX4_lamp 76 = .ok (.iastore, 1) := by decide +kernel
theorem dX4_lamp_77 : decode cX4_lamp 77 = .ok (.aload_n 0, 1) := by decide +kernel
theorem dX4_lamp_78 : decode cX4_lamp 78 = .ok (.getfield 31, 3) := by decide +kernel
theorem dX4_lamp_81 : decode cX4_lamp 81 = .ok (.aload_n 0, 1) := by decide +kernel
theorem dX4_lamp_82 : decode cX4_lamp 82 = .ok (.getfield 78, 3) := by decide +kernel
theorem dX4_lamp_85 : decode cX4_lamp 85 = .ok (.iconst (-1), 1) := by decide +kernel
theorem dX4_lamp_86 : decode cX4_lamp 86 = .ok (.iastore, 1) := by decide +kernel
theorem dX4_lamp_87 : decode cX4_lamp 87 = .ok (.aload_n 0, 1) := by decide +kernel
theorem dX4_lamp_88 : decode cX4_lamp 88 = .ok (.getfield 34, 3) := by decide +kernel
theorem dX4_lamp_91 : decode cX4_lamp 91 = .ok (.aload_n 0, 1) := by decide +kernel
theorem dX4_lamp_92 : decode cX4_lamp 92 = .ok (.getfield 78, 3) := by decide +kernel
theorem dX4_lamp_95 : decode cX4_lamp 95 = .ok (.iconst (-1), 1) := by decide +kernel
theorem dX4_lamp_96 : decode cX4_lamp 96 = .ok (.iastore, 1) := by decide +kernel
theorem dX4_lamp_97 : decode cX4_lamp 97 = .ok (.aload_n 0, 1) := by decide +kernel
theorem dX4_lamp_98 : decode cX4_lamp 98 = .ok (.dup, 1) := by decide +kernel
theorem dX4_lamp_99 : decode cX4_lamp 99 = .ok (.getfield 78, 3) := by decide +kernel
theorem dX4_lamp_102 : decode cX4_lamp 102 = .ok (.iconst 1, 1) := by decide +kernel
theorem dX4_lamp_103 : decode cX4_lamp 103 = .ok (.iadd, 1) := by decide +kernel
theorem dX4_lamp_104 : decode cX4_lamp 104 = .ok (.putfield 78, 3) := by decide +kernel
theorem dX4_lamp_107 : decode cX4_lamp 107 = .ok (.aload_n 0, 1) := by decide +kernel
theorem dX4_lamp_108 : decode cX4_lamp 108 = .ok (.getfield 78, 3) := by decide +kernel
theorem dX4_lamp_111 : decode cX4_lamp 111 = .ok (.iconst 1, 1) := by decide +kernel
theorem dX4_lamp_112 : decode cX4_lamp 112 = .ok (.isub, 1) := by decide +kernel
theorem dX4_lamp_113 : decode cX4_lamp 113 = .ok (.ireturn, 1) := by decide +kernel
set_option maxRecDepth 20000 in
theorem ggX4_weightOn_X4_weighs : GoodIn wsX4_weightOn wsX4_weighs := goodIn_r _ [7] (by decide +kernel) (by decide +kernel)
set_option maxRecDepth 20000 in
theorem gX4_weightOn_X4_weighs : GoodIn wsX4_weightOn (va_wsS RX4 99 yX4_weighs wsX4_weighs) := goodIn_app (goodIn_of _ (by decide +kernel)) ggX4_weightOn_X4_weighs
theorem dX4_weightOn_0 : decode cX4_weightOn 0 = .ok (.iconst 0, 1) := by decide +kernel
theorem dX4_weightOn_1 : decode cX4_weightOn 1 = .ok (.istore_n 3, 1) := by decide +kernel
theorem dX4_weightOn_2 : decode cX4_weightOn 2 = .ok (.iconst 0, 1) := by decide +kernel
theorem dX4_weightOn_3 : decode cX4_weightOn 3 = .ok (.istore 4, 2) := by decide +kernel
theorem dX4_weightOn_5 : decode cX4_weightOn 5 = .ok (.iload 4, 2) := by decide +kernel
theorem dX4_weightOn_7 : decode cX4_weightOn 7 = .ok (.aload_n 0, 1) := by decide +kernel
theorem dX4_weightOn_8 : decode cX4_weightOn 8 = .ok (.getfield 78, 3) := by decide +kernel
theorem dX4_weightOn_11 : decode cX4_weightOn 11 = .ok (.if_icmp .ge 43, 3) := by decide +kernel
theorem dX4_weightOn_14 : decode cX4_weightOn 14 = .ok (.iload_n 3, 1) := by decide +kernel
theorem dX4_weightOn_15 : decode cX4_weightOn 15 = .ok (.aload_n 0, 1) := by decide +kernel
theorem dX4_weightOn_16 : decode cX4_weightOn 16 = .ok (.getfield 25, 3) := by decide +kernel
theorem dX4_weightOn_19 : decode cX4_weightOn 19 = .ok (.iload 4, 2) := by decide +kernel
theorem dX4_weightOn_21 : decode cX4_weightOn 21 = .ok (.iaload, 1) := by decide +kernel
theorem dX4_weightOn_22 : decode cX4_weightOn 22 = .ok (.iload_n 1, 1) := by decide +kernel
theorem dX4_weightOn_23 : decode cX4_weightOn 23 = .ok (.if_icmp .ne 22, 3) := by decide +kernel
theorem dX4_weightOn_26 : decode cX4_weightOn 26 = .ok (.iload 4, 2) := by decide +kernel
theorem dX4_weightOn_28 : decode cX4_weightOn 28 = .ok (.iload_n 2, 1) := by decide +kernel
theorem dX4_weightOn_29 : decode cX4_weightOn 29 = .ok (.if_icmp .eq 16, 3) := by decide +kernel
theorem dX4_weightOn_32 : decode cX4_weightOn 32 = .ok (.aload_n 0, 1) := by decide +kernel
theorem dX4_weightOn_33 : decode cX4_weightOn 33 = .ok (.getfield 19, 3) := by decide +kernel
theorem dX4_weightOn_36 : decode cX4_weightOn 36 = .ok (.iload 4, 2) := by decide +kernel
theorem dX4_weightOn_38 : decode cX4_weightOn 38 = .ok (.iaload, 1) := by decide +kernel
theorem dX4_weightOn_39 : decode cX4_weightOn 39 = .ok (.invokestatic 99, 3) := by decide +kernel
theorem dX4_weightOn_42 : decode cX4_weightOn 42 = .ok (.goto 4, 3) := by decide +kernel
theorem dX4_weightOn_45 : decode cX4_weightOn 45 = .ok (.iconst 0, 1) := by decide +kernel
theorem dX4_weightOn_46 : decode cX4_weightOn 46 = .ok (.iadd, 1) := by decide +kernel
theorem dX4_weightOn_47 : decode cX4_weightOn 47 = .ok (.istore_n 3, 1) := by decide +kernel
theorem dX4_weightOn_48 : decode cX4_weightOn 48 = .ok (.iinc 4 1, 3) := by decide +kernel
theorem dX4_weightOn_51 : decode cX4_weightOn 51 = .ok (.goto (-46), 3) := by decide +kernel
theorem dX4_weightOn_54 : decode cX4_weightOn 54 = .ok (.iload_n 3, 1) := by decide +kernel
theorem dX4_weightOn_55 : decode cX4_weightOn 55 = .ok (.ireturn, 1) := by decide +kernel
set_option maxRecDepth 20000 in
theorem ggX4_canHang_X4_weightOn : GoodIn wsX4_canHang wsX4_weightOn := goodIn_r _ [11, 4, 5, 1, 12, 13, 10, 14, 15, 16, 17, 18, 19, 20, 21, 22, 23, 24, 25, 26, 27, 28, 29, 30, 31, 32, 33, 34, 35, 36, 37, 38, 39, 40, 41, 42] (by decide +kernel) (by decide +kernel)
set_option maxRecDepth 20000 in
theorem gX4_canHang_X4_weightOn : GoodIn wsX4_canHang (wsV RX4 103 RX4 yX4_weightOn wsX4_weightOn) := goodIn_app (goodIn_of _ (by decide +kernel)) ggX4_canHang_X4_weightOn
set_option maxRecDepth 20000 in
theorem ggX4_canHang_X4_weighs : GoodIn wsX4_canHang wsX4_weighs := goodIn_r _ [14] (by decide +kernel) (by decide +kernel)
set_option maxRecDepth 20000 in
theorem gX4_canHang_X4_weighs : GoodIn wsX4_canHang (va_wsS RX4 99 yX4_weighs wsX4_weighs) := goodIn_app (goodIn_of _ (by decide +kernel)) ggX4_canHang_X4_weighs
theorem dX4_canHang_0 : decode cX4_canHang 0 = .ok (.aload_n 0, 1) := by decide +kernel
theorem dX4_canHang_1 : decode cX4_canHang 1 = .ok (.iload_n 2, 1) := by decide +kernel
theorem dX4_canHang_2 : decode cX4_canHang 2 = .ok (.iload_n 1, 1) := by decide +kernel
theorem dX4_canHang_3 : decode cX4_canHang 3 = .ok (.invokevirtual 103, 3) := by decide +kernel
theorem dX4_canHang_6 : decode cX4_canHang 6 = .ok (.aload_n 0, 1) := by decide +kernel
theorem dX4_canHang_7 : decode cX4_canHang 7 = .ok (.getfield 19, 3) := by decide +kernel
theorem dX4_canHang_10 : decode cX4_canHang 10 = .ok (.iload_n 1, 1) := by decide +kernel
theorem dX4_canHang_11 : decode cX4_canHang 11 = .ok (.iaload, 1) := by decide +kernel
theorem dX4_canHang_12 : decode cX4_canHang 12 = .ok (.invokestatic 99, 3) := by decide +kernel
theorem dX4_canHang_15 : decode cX4_canHang 15 = .ok (.iadd, 1) := by decide +kernel
theorem dX4_canHang_16 : decode cX4_canHang 16 = .ok (.aload_n 0, 1) := by decide +kernel
theorem dX4_canHang_17 : decode cX4_canHang 17 = .ok (.getfield 16, 3) := by decide +kernel
theorem dX4_canHang_20 : decode cX4_canHang 20 = .ok (.iconst 4, 1) := by decide +kernel
theorem dX4_canHang_21 : decode cX4_canHang 21 = .ok (.aload_n 0, 1) := by decide +kernel
theorem dX4_canHang_22 : decode cX4_canHang 22 = .ok (.getfield 85, 3) := by decide +kernel
theorem dX4_canHang_25 : decode cX4_canHang 25 = .ok (.imul, 1) := by decide +kernel
theorem dX4_canHang_26 : decode cX4_canHang 26 = .ok (.iload_n 2, 1) := by decide +kernel
theorem dX4_canHang_27 : decode cX4_canHang 27 = .ok (.iadd, 1) := by decide +kernel
theorem dX4_canHang_28 : decode cX4_canHang 28 = .ok (.iaload, 1) := by decide +kernel
theorem dX4_canHang_29 : decode cX4_canHang 29 = .ok (.if_icmp .gt 7, 3) := by decide +kernel
theorem dX4_canHang_32 : decode cX4_canHang 32 = .ok (.iconst 1, 1) := by decide +kernel
theorem dX4_canHang_33 : decode cX4_canHang 33 = .ok (.goto 4, 3) := by decide +kernel
theorem dX4_canHang_36 : decode cX4_canHang 36 = .ok (.iconst 0, 1) := by decide +kernel
theorem dX4_canHang_37 : decode cX4_canHang 37 = .ok (.istore 4, 2) := by decide +kernel
theorem dX4_canHang_39 : decode cX4_canHang 39 = .ok (.iconst 0, 1) := by decide +kernel
theorem dX4_canHang_40 : decode cX4_canHang 40 = .ok (.istore 5, 2) := by decide +kernel
theorem dX4_canHang_42 : decode cX4_canHang 42 = .ok (.iload 5, 2) := by decide +kernel
theorem dX4_canHang_44 : decode cX4_canHang 44 = .ok (.aload_n 0, 1) := by decide +kernel
theorem dX4_canHang_45 : decode cX4_canHang 45 = .ok (.getfield 78, 3) := by decide +kernel
theorem dX4_canHang_48 : decode cX4_canHang 48 = .ok (.if_icmp .ge 64, 3) := by decide +kernel
theorem dX4_canHang_51 : decode cX4_canHang 51 = .ok (.iload 5, 2) := by decide +kernel
theorem dX4_canHang_53 : decode cX4_canHang 53 = .ok (.iload_n 1, 1) := by decide +kernel
theorem dX4_canHang_54 : decode cX4_canHang 54 = .ok (.if_icmp .eq 52, 3) := by decide +kernel
theorem dX4_canHang_57 : decode cX4_canHang 57 = .ok (.aload_n 0, 1) := by decide +kernel
theorem dX4_canHang_58 : decode cX4_canHang 58 = .ok (.getfield 25, 3) := by decide +kernel
theorem dX4_canHang_61 : decode cX4_canHang 61 = .ok (.iload 5, 2) := by decide +kernel
theorem dX4_canHang_63 : decode cX4_canHang 63 = .ok (.iaload, 1) := by decide +kernel
theorem dX4_canHang_64 : decode cX4_canHang 64 = .ok (.iload_n 2, 1) := by decide +kernel
theorem dX4_canHang_65 : decode cX4_canHang 65 = .ok (.if_icmp .ne 41, 3) := by decide +kernel
theorem dX4_canHang_68 : decode cX4_canHang 68 = .ok (.iload 4, 2) := by decide +kernel
theorem dX4_canHang_70 : decode cX4_canHang 70 = .ok (.ifCond .eq 33, 3) := by decide +kernel
theorem dX4_canHang_73 : decode cX4_canHang 73 = .ok (.aload_n 0, 1) := by decide +kernel
theorem dX4_canHang_74 : decode cX4_canHang 74 = .ok (.getfield 28, 3) := by decide +kernel
theorem dX4_canHang_77 : decode cX4_canHang 77 = .ok (.iload 5, 2) := by decide +kernel
theorem dX4_canHang_79 : decode cX4_canHang 79 = .ok (.iaload, 1) := by decide +kernel
theorem dX4_canHang_80 : decode cX4_canHang 80 = .ok (.iload_n 3, 1) := by decide +kernel
theorem dX4_canHang_81 : decode cX4_canHang 81 = .ok (.isub, 1) := by decide +kernel
theorem dX4_canHang_82 : decode cX4_canHang 82 = .ok (.iconst 3, 1) := by decide +kernel
theorem dX4_canHang_83 : decode cX4_canHang 83 = .ok (.if_icmp .ge 16, 3) := by decide +kernel
theorem dX4_canHang_86 : decode cX4_canHang 86 = .ok (.iload_n 3, 1) := by decide +kernel
theorem dX4_canHang_87 : decode cX4_canHang 87 = .ok (.aload_n 0, 1) := by decide +kernel
theorem dX4_canHang_88 : decode cX4_canHang 88 = .ok (.getfield 28, 3) := by decide +kernel
theorem dX4_canHang_91 : decode cX4_canHang 91 = .ok (.iload 5, 2) := by decide +kernel
theorem dX4_canHang_93 : decode cX4_canHang 93 = .ok (.iaload, 1) := by decide +kernel
theorem dX4_canHang_94 : decode cX4_canHang 94 = .ok (.isub, 1) := by decide +kernel
theorem dX4_canHang_95 : decode cX4_canHang 95 = .ok (.iconst 3, 1) := by decide +kernel
theorem dX4_canHang_96 : decode cX4_canHang 96 = .ok (.if_icmp .lt 7, 3) := by decide +kernel
theorem dX4_canHang_99 : decode cX4_canHang 99 = .ok (.iconst 1, 1) := by decide +kernel
theorem dX4_canHang_100 : decode cX4_canHang 100 = .ok (.goto 4, 3) := by decide +kernel
theorem dX4_canHang_103 : decode cX4_canHang 103 = .ok (.iconst 0, 1) := by decide +kernel
theorem dX4_canHang_104 : decode cX4_canHang 104 = .ok (.istore 4, 2) := by decide +kernel
theorem dX4_canHang_106 : decode cX4_canHang 106 = .ok (.iinc 5 1, 3) := by decide +kernel
theorem dX4_canHang_109 : decode cX4_canHang 109 = .ok (.goto (-67), 3) := by decide +kernel
theorem dX4_canHang_112 : decode cX4_canHang 112 = .ok (.iload 4, 2) := by decide +kernel
theorem dX4_canHang_114 : decode cX4_canHang 114 = .ok (.ireturn, 1) := by decide +kernel
set_option maxRecDepth 20000 in
theorem ggX4_hang_X4_isLamp : GoodIn wsX4_hang wsX4_isLamp := goodIn_r _ [9, 10, 11, 12, 8, 13, 37, 38, 39, 40, 41, 42, 43, 44, 45, 46, 47, 48, 49, 50, 51, 52, 53, 54, 55, 56, 57, 58, 59, 60, 61, 62, 63, 64] (by decide +kernel) (by decide +kernel)
set_option maxRecDepth 20000 in
theorem gX4_hang_X4_isLamp : GoodIn wsX4_hang (wsV RX4 107 RX4 yX4_isLamp wsX4_isLamp) := goodIn_app (goodIn_of _ (by decide +kernel)) ggX4_hang_X4_isLamp
set_option maxRecDepth 20000 in
theorem ggX4_hang_X4_isBar : GoodIn wsX4_hang wsX4_isBar := goodIn_r _ [17, 18, 2, 11, 12, 8, 13, 37, 38, 39, 40, 41, 42, 43, 44, 45, 46, 47, 48, 49, 50, 51, 52, 53, 54, 55, 56, 57, 58, 59, 60, 61, 62, 63, 64] (by decide +kernel) (by decide +kernel)
set_option maxRecDepth 20000 in
theorem gX4_hang_X4_isBar : GoodIn wsX4_hang (wsV RX4 111 RX4 yX4_isBar wsX4_isBar) := goodIn_app (goodIn_of _ (by decide +kernel)) ggX4_hang_X4_isBar
set_option maxRecDepth 20000 in
theorem ggX4_hang_X4_isIn : GoodIn wsX4_hang wsX4_isIn := goodIn_r _ [13] (by decide +kernel) (by decide +kernel)
set_option maxRecDepth 20000 in
theorem gX4_hang_X4_isIn : GoodIn wsX4_hang (va_wsS RX4 81 yX4_isIn wsX4_isIn) := goodIn_app (goodIn_of _ (by decide +kernel)) ggX4_hang_X4_isIn
set_option maxRecDepth 20000 in
theorem ggX4_hang_X4_canHang : GoodIn wsX4_hang wsX4_canHang := goodIn_r _ [22, 23, 24, 2, 10, 3, 4, 25, 26, 27, 8, 28, 29, 30, 31, 37, 38, 39, 40, 41, 42, 43, 44, 45, 46, 47, 48, 49, 50, 51, 52, 53, 54, 55, 56, 57, 58, 59, 60, 61, 62, 63, 64] (by decide +kernel) (by decide +kernel)
set_option maxRecDepth 20000 in
theorem gX4_hang_X4_canHang : GoodIn wsX4_hang (wsV RX4 114 RX4 yX4_canHang wsX4_canHang) := goodIn_app (goodIn_of _ (by decide +kernel)) ggX4_hang_X4_canHang
set_option maxRecDepth 20000 in
theorem ggX4_hang_X4_mayBoth : GoodIn wsX4_hang wsX4_mayBoth := goodIn_r _ [35, 36, 37, 38, 39, 40, 41, 42, 43, 44, 45, 46, 47, 48, 49, 50, 51, 52, 53, 54, 55, 56, 57, 58, 59, 60, 61, 62, 63, 64] (by decide +kernel) (by decide +kernel)
set_option maxRecDepth 20000 in
theorem gX4_hang_X4_mayBoth : GoodIn wsX4_hang (wsV RX4 95 RX4 yX4_mayBoth wsX4_mayBoth) := goodIn_app (goodIn_of _ (by decide +kernel)) ggX4_hang_X4_mayBoth
set_option maxRecDepth 20000 in
theorem ggX4_hang_X4_weightOn : GoodIn wsX4_hang wsX4_weightOn := goodIn_r _ [28, 10, 3, 23, 29, 30, 8, 31, 37, 38, 39, 40, 41, 42, 43, 44, 45, 46, 47, 48, 49, 50, 51, 52, 53, 54, 55, 56, 57, 58, 59, 60, 61, 62, 63, 64] (by decide +kernel) (by decide +kernel)
set_option maxRecDepth 20000 in
theorem gX4_hang_X4_weightOn : GoodIn wsX4_hang (wsV RX4 103 RX4 yX4_weightOn wsX4_weightOn) := goodIn_app (goodIn_of _ (by decide +kernel)) ggX4_hang_X4_weightOn
theorem dX4_hang_0 : decode cX4_hang 0 = .ok (.aload_n 0, 1) := by decide +kernel
theorem dX4_hang_1 : decode cX4_hang 1 = .ok (.iload_n 1, 1) := by decide +kernel
theorem dX4_hang_2 : decode cX4_hang 2 = .ok (.invokevirtual 107, 3) := by decide +kernel
theorem dX4_hang_5 : decode cX4_hang 5 = .ok (.ifCond .eq 36, 3) := by decide +kernel
theorem dX4_hang_8 : decode cX4_hang 8 = .ok (.aload_n 0, 1) := by decide +kernel
theorem dX4_hang_9 : decode cX4_hang 9 = .ok (.iload_n 2, 1) := by decide +kernel
theorem dX4_hang_10 : decode cX4_hang 10 = .ok (.invokevirtual 111, 3) := by decide +kernel
theorem dX4_hang_13 : decode cX4_hang 13 = .ok (.ifCond .eq 28, 3) := by decide +kernel
theorem dX4_hang_16 : decode cX4_hang 16 = .ok (.iload_n 3, 1) := by decide +kernel
theorem dX4_hang_17 : decode cX4_hang 17 = .ok (.iconst 0, 1) := by decide +kernel
theorem dX4_hang_18 : decode cX4_hang 18 = .ok (.aload_n 0, 1) := by decide +kernel
theorem dX4_hang_19 : decode cX4_hang 19 = .ok (.getfield 13, 3) := by decide +kernel
theorem dX4_hang_22 : decode cX4_hang 22 = .ok (.iconst 4, 1) := by decide +kernel
theorem dX4_hang_23 : decode cX4_hang 23 = .ok (.aload_n 0, 1) := by decide +kernel
theorem dX4_hang_24 : decode cX4_hang 24 = .ok (.getfield 85, 3) := by decide +kernel
theorem dX4_hang_27 : decode cX4_hang 27 = .ok (.imul, 1) := by decide +kernel
theorem dX4_hang_28 : decode cX4_hang 28 = .ok (.iload_n 2, 1) := by decide +kernel
theorem dX4_hang_29 : decode cX4_hang 29 = .ok (.iadd, 1) := by decide +kernel
theorem dX4_hang_30 : decode cX4_hang 30 = .ok (.iaload, 1) := by decide +kernel
theorem dX4_hang_31 : decode cX4_hang 31 = .ok (.invokestatic 81, 3) := by decide +kernel
theorem dX4_hang_34 : decode cX4_hang 34 = .ok (.ifCond .eq 7, 3) := by decide +kernel
theorem dX4_hang_37 : decode cX4_hang 37 = .ok (.iconst 1, 1) := by decide +kernel
theorem dX4_hang_38 : decode cX4_hang 38 = .ok (.goto 4, 3) := by decide +kernel
theorem dX4_hang_41 : decode cX4_hang 41 = .ok (.iconst 0, 1) := by decide +kernel
theorem dX4_hang_42 : decode cX4_hang 42 = .ok (.istore 4, 2) := by decide +kernel
theorem dX4_hang_44 : decode cX4_hang 44 = .ok (.aload_n 0, 1) := by decide +kernel
theorem dX4_hang_45 : decode cX4_hang 45 = .ok (.iload 4, 2) := by decide +kernel
theorem dX4_hang_47 : decode cX4_hang 47 = .ok (.iload 4, 2) := by decide +kernel
theorem dX4_hang_49 : decode cX4_hang 49 = .ok (.ifCond .eq 17, 3) := by decide +kernel
theorem dX4_hang_52 : decode cX4_hang 52 = .ok (.aload_n 0, 1) := by decide +kernel
theorem dX4_hang_53 : decode cX4_hang 53 = .ok (.iload_n 1, 1) := by decide +kernel
theorem dX4_hang_54 : decode cX4_hang 54 = .ok (.iload_n 2, 1) := by decide +kernel
theorem dX4_hang_55 : decode cX4_hang 55 = .ok (.iload_n 3, 1) := by decide +kernel
theorem dX4_hang_56 : decode cX4_hang 56 = .ok (.invokevirtual 114, 3) := by decide +kernel
theorem dX4_hang_59 : decode cX4_hang 59 = .ok (.ifCond .eq 7, 3) := by decide +kernel
theorem dX4_hang_62 : decode cX4_hang 62 = .ok (.iconst 1, 1) := by decide +kernel
theorem dX4_hang_63 : decode cX4_hang 63 = .ok (.goto 4, 3) := by decide +kernel
theorem dX4_hang_66 : decode cX4_hang 66 = .ok (.iconst 0, 1) := by decide +kernel
theorem dX4_hang_67 : decode cX4_hang 67 = .ok (.invokevirtual 95, 3) := by decide +kernel
theorem dX4_hang_70 : decode cX4_hang 70 = .ok (.ifCond .ne 5, 3) := by decide +kernel
theorem dX4_hang_73 : decode cX4_hang 73 = .ok (.iconst 0, 1) := by decide +kernel
theorem dX4_hang_74 : decode cX4_hang 74 = .ok (.ireturn, 1) := by decide +kernel
theorem dX4_hang_75 : decode cX4_hang 75 = .ok (.aload_n 0, 1) := by decide +kernel
theorem dX4_hang_76 : decode cX4_hang 76 = .ok (.getfield 25, 3) := by decide +kernel
theorem dX4_hang_79 : decode cX4_hang 79 = .ok (.iload_n 1, 1) := by decide +kernel
theorem dX4_hang_80 : decode cX4_hang 80 = .ok (.iload_n 2, 1) := by decide +kernel
theorem dX4_hang_81 : decode cX4_hang 81 = .ok (.iastore, 1) := by decide +kernel
theorem dX4_hang_82 : decode cX4_hang 82 = .ok (.aload_n 0, 1) := by decide +kernel
theorem dX4_hang_83 : decode cX4_hang 83 = .ok (.getfield 28, 3) := by decide +kernel
theorem dX4_hang_86 : decode cX4_hang 86 = .ok (.iload_n 1, 1) := by decide +kernel
theorem dX4_hang_87 : decode cX4_hang 87 = .ok (.iload_n 3, 1) := by decide +kernel
theorem dX4_hang_88 : decode cX4_hang 88 = .ok (.iastore, 1) := by decide +kernel
theorem dX4_hang_89 : decode cX4_hang 89 = .ok (.aload_n 0, 1) := by decide +kernel
theorem dX4_hang_90 : decode cX4_hang 90 = .ok (.iload_n 2, 1) := by decide +kernel
theorem dX4_hang_91 : decode cX4_hang 91 = .ok (.iconst (-1), 1) := by decide +kernel
theorem dX4_hang_92 : decode cX4_hang 92 = .ok (.invokevirtual 103, 3) := by decide +kernel
theorem dX4_hang_95 : decode cX4_hang 95 = .ok (.ireturn, 1) := by decide +kernel
set_option maxRecDepth 20000 in
theorem ggX4_down_X4_isLamp : GoodIn wsX4_down wsX4_isLamp := goodIn_r _ [6, 7, 8, 9, 5, 10, 16, 17, 18, 19, 20, 21, 22, 23, 24, 25, 26, 27, 28, 29, 30, 31, 32, 33, 34, 35, 36, 37, 38, 39, 40, 41, 42, 43] (by decide +kernel) (by decide +kernel)
set_option maxRecDepth 20000 in
theorem gX4_down_X4_isLamp : GoodIn wsX4_down (wsV RX4 107 RX4 yX4_isLamp wsX4_isLamp) := goodIn_app (goodIn_of _ (by decide +kernel)) ggX4_down_X4_isLamp
set_option maxRecDepth 20000 in
theorem ggX4_down_X4_may : GoodIn wsX4_down wsX4_may := goodIn_r _ [14, 15, 16, 17, 18, 19, 20, 21, 22, 23, 24, 25, 26, 27, 28, 29, 30, 31, 32, 33, 34, 35, 36, 37, 38, 39, 40, 41, 42, 43] (by decide +kernel) (by decide +kernel)
set_option maxRecDepth 20000 in
theorem gX4_down_X4_may : GoodIn wsX4_down (wsV RX4 117 RX4 yX4_may wsX4_may) := goodIn_app (goodIn_of _ (by decide +kernel)) ggX4_down_X4_may
theorem dX4_down_0 : decode cX4_down 0 = .ok (.aload_n 0, 1) := by decide +kernel
theorem dX4_down_1 : decode cX4_down 1 = .ok (.aload_n 0, 1) := by decide +kernel
theorem dX4_down_2 : decode cX4_down 2 = .ok (.iload_n 1, 1) := by decide +kernel
theorem dX4_down_3 : decode cX4_down 3 = .ok (.invokevirtual 107, 3) := by decide +kernel
theorem dX4_down_6 : decode cX4_down 6 = .ok (.invokevirtual 117, 3) := by decide +kernel
theorem dX4_down_9 : decode cX4_down 9 = .ok (.ifCond .ne 5, 3) := by decide +kernel
theorem dX4_down_12 : decode cX4_down 12 = .ok (.iconst 0, 1) := by decide +kernel
theorem dX4_down_13 : decode cX4_down 13 = .ok (.ireturn, 1) := by decide +kernel
theorem dX4_down_14 : decode cX4_down 14 = .ok (.aload_n 0, 1) := by decide +kernel
theorem dX4_down_15 : decode cX4_down 15 = .ok (.getfield 25, 3) := by decide +kernel
theorem dX4_down_18 : decode cX4_down 18 = .ok (.iload_n 1, 1) := by decide +kernel
theorem dX4_down_19 : decode cX4_down 19 = .ok (.iaload, 1) := by decide +kernel
theorem dX4_down_20 : decode cX4_down 20 = .ok (.iconst (-1), 1) := by decide +kernel
theorem dX4_down_21 : decode cX4_down 21 = .ok (.if_icmp .eq 7, 3) := by decide +kernel
theorem dX4_down_24 : decode cX4_down 24 = .ok (.iconst 1, 1) := by decide +kernel
theorem dX4_down_25 : decode cX4_down 25 = .ok (.goto 4, 3) := by decide +kernel
theorem dX4_down_28 : decode cX4_down 28 = .ok (.iconst 0, 1) := by decide +kernel
theorem dX4_down_29 : decode cX4_down 29 = .ok (.istore_n 2, 1) := by decide +kernel
theorem dX4_down_30 : decode cX4_down 30 = .ok (.aload_n 0, 1) := by decide +kernel
theorem dX4_down_31 : decode cX4_down 31 = .ok (.getfield 25, 3) := by decide +kernel
theorem dX4_down_34 : decode cX4_down 34 = .ok (.iload_n 1, 1) := by decide +kernel
theorem dX4_down_35 : decode cX4_down 35 = .ok (.iconst (-1), 1) := by decide +kernel
theorem dX4_down_36 : decode cX4_down 36 = .ok (.iastore, 1) := by decide +kernel
theorem dX4_down_37 : decode cX4_down 37 = .ok (.iload_n 2, 1) := by decide +kernel
theorem dX4_down_38 : decode cX4_down 38 = .ok (.ireturn, 1) := by decide +kernel
theorem dX4_ranked_0 : decode cX4_ranked 0 = .ok (.iconst 0, 1) := by decide +kernel
theorem dX4_ranked_1 : decode cX4_ranked 1 = .ok (.istore_n 3, 1) := by decide +kernel
theorem dX4_ranked_2 : decode cX4_ranked 2 = .ok (.iload_n 3, 1) := by decide +kernel
theorem dX4_ranked_3 : decode cX4_ranked 3 = .ok (.aload_n 0, 1) := by decide +kernel
theorem dX4_ranked_4 : decode cX4_ranked 4 = .ok (.getfield 78, 3) := by decide +kernel
theorem dX4_ranked_7 : decode cX4_ranked 7 = .ok (.if_icmp .ge 85, 3) := by decide +kernel
theorem dX4_ranked_10 : decode cX4_ranked 10 = .ok (.iconst 0, 1) := by decide +kernel
theorem dX4_ranked_11 : decode cX4_ranked 11 = .ok (.istore 4, 2) := by decide +kernel
theorem dX4_ranked_13 : decode cX4_ranked 13 = .ok (.iconst 0, 1) := by decide +kernel
theorem dX4_ranked_14 : decode cX4_ranked 14 = .ok (.istore 5, 2) := by decide +kernel
theorem dX4_ranked_16 : decode cX4_ranked 16 = .ok (.iload 5, 2) := by decide +kernel
theorem dX4_ranked_18 : decode cX4_ranked 18 = .ok (.aload_n 0, 1) := by decide +kernel
theorem dX4_ranked_19 : decode cX4_ranked 19 = .ok (.getfield 78, 3) := by decide +kernel
theorem dX4_ranked_22 : decode cX4_ranked 22 = .ok (.if_icmp .ge 46, 3) := by decide +kernel
theorem dX4_ranked_25 : decode cX4_ranked 25 = .ok (.iload 4, 2) := by decide +kernel
theorem dX4_ranked_27 : decode cX4_ranked 27 = .ok (.aload_n 0, 1) := by decide +kernel
theorem dX4_ranked_28 : decode cX4_ranked 28 = .ok (.getfield 25, 3) := by decide +kernel
theorem dX4_ranked_31 : decode cX4_ranked 31 = .ok (.iload 5, 2) := by decide +kernel
theorem dX4_ranked_33 : decode cX4_ranked 33 = .ok (.iaload, 1) := by decide +kernel
theorem dX4_ranked_34 : decode cX4_ranked 34 = .ok (.iload_n 1, 1) := by decide +kernel
theorem dX4_ranked_35 : decode cX4_ranked 35 = .ok (.if_icmp .ne 23, 3) := by decide +kernel
theorem dX4_ranked_38 : decode cX4_ranked 38 = .ok (.aload_n 0, 1) := by decide +kernel
theorem dX4_ranked_39 : decode cX4_ranked 39 = .ok (.getfield 28, 3) := by decide +kernel
theorem dX4_ranked_42 : decode cX4_ranked 42 = .ok (.iload 5, 2) := by decide +kernel
theorem dX4_ranked_44 : decode cX4_ranked 44 = .ok (.iaload, 1) := by decide +kernel
theorem dX4_ranked_45 : decode cX4_ranked 45 = .ok (.aload_n 0, 1) := by decide +kernel
theorem dX4_ranked_46 : decode cX4_ranked 46 = .ok (.getfield 28, 3) := by decide +kernel
theorem dX4_ranked_49 : decode cX4_ranked 49 = .ok (.iload_n 3, 1) := by decide +kernel
theorem dX4_ranked_50 : decode cX4_ranked 50 = .ok (.iaload, 1) := by decide +kernel
theorem dX4_ranked_51 : decode cX4_ranked 51 = .ok (.if_icmp .ge 7, 3) := by decide +kernel
theorem dX4_ranked_54 : decode cX4_ranked 54 = .ok (.iconst 1, 1) := by decide +kernel
theorem dX4_ranked_55 : decode cX4_ranked 55 = .ok (.goto 4, 3) := by decide +kernel
theorem dX4_ranked_58 : decode cX4_ranked 58 = .ok (.iconst 0, 1) := by decide +kernel
theorem dX4_ranked_59 : decode cX4_ranked 59 = .ok (.iadd, 1) := by decide +kernel
theorem dX4_ranked_60 : decode cX4_ranked 60 = .ok (.istore 4, 2) := by decide +kernel
theorem dX4_ranked_62 : decode cX4_ranked 62 = .ok (.iinc 5 1, 3) := by decide +kernel
theorem dX4_ranked_65 : decode cX4_ranked 65 = .ok (.goto (-49), 3) := by decide +kernel
theorem dX4_ranked_68 : decode cX4_ranked 68 = .ok (.aload_n 0, 1) := by decide +kernel
theorem dX4_ranked_69 : decode cX4_ranked 69 = .ok (.getfield 25, 3) := by decide +kernel
theorem dX4_ranked_72 : decode cX4_ranked 72 = .ok (.iload_n 3, 1) := by decide +kernel
theorem dX4_ranked_73 : decode cX4_ranked 73 = .ok (.iaload, 1) := by decide +kernel
theorem dX4_ranked_74 : decode cX4_ranked 74 = .ok (.iload_n 1, 1) := by decide +kernel
theorem dX4_ranked_75 : decode cX4_ranked 75 = .ok (.if_icmp .ne 11, 3) := by decide +kernel
theorem dX4_ranked_78 : decode cX4_ranked 78 = .ok (.iload 4, 2) := by decide +kernel
theorem dX4_ranked_80 : decode cX4_ranked 80 = .ok (.iload_n 2, 1) := by decide +kernel
theorem dX4_ranked_81 : decode cX4_ranked 81 = .ok (.if_icmp .ne 5, 3) := by decide +kernel
theorem dX4_ranked_84 : decode cX4_ranked 84 = .ok (.iload_n 3, 1) := by decide +kernel
theorem dX4_ranked_85 : decode cX4_ranked 85 = .ok (.ireturn, 1) := by decide +kernel
theorem dX4_ranked_86 : decode cX4_ranked 86 = .ok (.iinc 3 1, 3) := by decide +kernel
theorem dX4_ranked_89 : decode cX4_ranked 89 = .ok (.goto (-87), 3) := by decide +kernel
theorem dX4_ranked_92 : decode cX4_ranked 92 = .ok (.iconst (-1), 1) := by decide +kernel
theorem dX4_ranked_93 : decode cX4_ranked 93 = .ok (.ireturn, 1) := by decide +kernel
set_option maxRecDepth 20000 in
theorem ggX4_onBar_X4_isBar : GoodIn wsX4_onBar wsX4_isBar := goodIn_r _ [5, 6, 7, 8, 9, 4, 10, 23, 24, 25, 26, 27, 28, 29, 30, 31, 32, 33, 34, 35, 36, 37, 38, 39, 40, 41, 42, 43, 44, 45, 46, 47, 48, 49, 50] (by decide +kernel) (by decide +kernel)
set_option maxRecDepth 20000 in
theorem gX4_onBar_X4_isBar : GoodIn wsX4_onBar (wsV RX4 111 RX4 yX4_isBar wsX4_isBar) := goodIn_app (goodIn_of _ (by decide +kernel)) ggX4_onBar_X4_isBar
set_option maxRecDepth 20000 in
theorem ggX4_onBar_X4_isIn : GoodIn wsX4_onBar wsX4_isIn := goodIn_r _ [10] (by decide +kernel) (by decide +kernel)
set_option maxRecDepth 20000 in
theorem gX4_onBar_X4_isIn : GoodIn wsX4_onBar (va_wsS RX4 81 yX4_isIn wsX4_isIn) := goodIn_app (goodIn_of _ (by decide +kernel)) ggX4_onBar_X4_isIn
set_option maxRecDepth 20000 in
theorem ggX4_onBar_X4_ranked : GoodIn wsX4_onBar wsX4_ranked := goodIn_r _ [14, 15, 16, 17, 23, 24, 25, 26, 27, 28, 29, 30, 31, 32, 33, 34, 35, 36, 37, 38, 39, 40, 41, 42, 43, 44, 45, 46, 47, 48, 49, 50] (by decide +kernel) (by decide +kernel)
set_option maxRecDepth 20000 in
theorem gX4_onBar_X4_ranked : GoodIn wsX4_onBar (wsV RX4 121 RX4 yX4_ranked wsX4_ranked) := goodIn_app (goodIn_of _ (by decide +kernel)) ggX4_onBar_X4_ranked
set_option maxRecDepth 20000 in
theorem ggX4_onBar_X4_may : GoodIn wsX4_onBar wsX4_may := goodIn_r _ [21, 22, 23, 24, 25, 26, 27, 28, 29, 30, 31, 32, 33, 34, 35, 36, 37, 38, 39, 40, 41, 42, 43, 44, 45, 46, 47, 48, 49, 50] (by decide +kernel) (by decide +kernel)
set_option maxRecDepth 20000 in
theorem gX4_onBar_X4_may : GoodIn wsX4_onBar (wsV RX4 117 RX4 yX4_may wsX4_may) := goodIn_app (goodIn_of _ (by decide +kernel)) ggX4_onBar_X4_may
theorem dX4_onBar_0 : decode cX4_onBar 0 = .ok (.aload_n 0, 1) := by decide +kernel
theorem dX4_onBar_1 : decode cX4_onBar 1 = .ok (.iload_n 1, 1) := by decide +kernel
theorem dX4_onBar_2 : decode cX4_onBar 2 = .ok (.invokevirtual 111, 3) := by decide +kernel
theorem dX4_onBar_5 : decode cX4_onBar 5 = .ok (.ifCond .eq 17, 3) := by decide +kernel
theorem dX4_onBar_8 : decode cX4_onBar 8 = .ok (.iload_n 2, 1) := by decide +kernel
theorem dX4_onBar_9 : decode cX4_onBar 9 = .ok (.iconst 0, 1) := by decide +kernel
theorem dX4_onBar_10 : decode cX4_onBar 10 = .ok (.bipush 9, 2) := by decide +kernel
theorem dX4_onBar_12 : decode cX4_onBar 12 = .ok (.invokestatic 81, 3) := by decide +kernel
theorem dX4_onBar_15 : decode cX4_onBar 15 = .ok (.ifCond .eq 7, 3) := by decide +kernel
theorem dX4_onBar_18 : decode cX4_onBar 18 = .ok (.iconst 1, 1) := by decide +kernel
theorem dX4_onBar_19 : decode cX4_onBar 19 = .ok (.goto 4, 3) := by decide +kernel
theorem dX4_onBar_22 : decode cX4_onBar 22 = .ok (.iconst 0, 1) := by decide +kernel
theorem dX4_onBar_23 : decode cX4_onBar 23 = .ok (.istore_n 3, 1) := by decide +kernel
theorem dX4_onBar_24 : decode cX4_onBar 24 = .ok (.iload_n 3, 1) := by decide +kernel
theorem dX4_onBar_25 : decode cX4_onBar 25 = .ok (.ifCond .eq 12, 3) := by decide +kernel
theorem dX4_onBar_28 : decode cX4_onBar 28 = .ok (.aload_n 0, 1) := by decide +kernel
theorem dX4_onBar_29 : decode cX4_onBar 29 = .ok (.iload_n 1, 1) := by decide +kernel
theorem dX4_onBar_30 : decode cX4_onBar 30 = .ok (.iload_n 2, 1) := by decide +kernel
theorem dX4_onBar_31 : decode cX4_onBar 31 = .ok (.invokevirtual 121, 3) := by decide +kernel
theorem dX4_onBar_34 : decode cX4_onBar 34 = .ok (.goto 4, 3) := by decide +kernel
theorem dX4_onBar_37 : decode cX4_onBar 37 = .ok (.iconst (-1), 1) := by decide +kernel
theorem dX4_onBar_38 : decode cX4_onBar 38 = .ok (.istore 4, 2) := by decide +kernel
theorem dX4_onBar_40 : decode cX4_onBar 40 = .ok (.aload_n 0, 1) := by decide +kernel
theorem dX4_onBar_41 : decode cX4_onBar 41 = .ok (.iload 4, 2) := by decide +kernel
theorem dX4_onBar_43 : decode cX4_onBar 43 = .ok (.iconst (-1), 1) := by decide +kernel
theorem dX4_onBar_44 : decode cX4_onBar 44 = .ok (.if_icmp .eq 7, 3) := by decide +kernel
theorem dX4_onBar_47 : decode cX4_onBar 47 = .ok (.iconst 1, 1) := by decide +kernel
theorem dX4_onBar_48 : decode cX4_onBar 48 = .ok (.goto 4, 3) := by decide +kernel
theorem dX4_onBar_51 : decode cX4_onBar 51 = .ok (.iconst 0, 1) := by decide +kernel
theorem dX4_onBar_52 : decode cX4_onBar 52 = .ok (.invokevirtual 117, 3) := by decide +kernel
theorem dX4_onBar_55 : decode cX4_onBar 55 = .ok (.ifCond .eq 8, 3) := by decide +kernel
theorem dX4_onBar_58 : decode cX4_onBar 58 = .ok (.iload 4, 2) := by decide +kernel
theorem dX4_onBar_60 : decode cX4_onBar 60 = .ok (.goto 4, 3) := by decide +kernel
theorem dX4_onBar_63 : decode cX4_onBar 63 = .ok (.iconst 0, 1) := by decide +kernel
theorem dX4_onBar_64 : decode cX4_onBar 64 = .ok (.ireturn, 1) := by decide +kernel
set_option maxRecDepth 20000 in
theorem ggX4_where_X4_isLamp : GoodIn wsX4_where wsX4_isLamp := goodIn_r _ [7, 8, 9, 10, 6, 11, 17, 18, 19, 20, 21, 22, 23, 24, 25, 26, 27, 28, 29, 30, 31, 32, 33, 34, 35, 36, 37, 38, 39, 40, 41, 42, 43, 44] (by decide +kernel) (by decide +kernel)
set_option maxRecDepth 20000 in
theorem gX4_where_X4_isLamp : GoodIn wsX4_where (wsV RX4 107 RX4 yX4_isLamp wsX4_isLamp) := goodIn_app (goodIn_of _ (by decide +kernel)) ggX4_where_X4_isLamp
set_option maxRecDepth 20000 in
theorem ggX4_where_X4_may : GoodIn wsX4_where wsX4_may := goodIn_r _ [15, 16, 17, 18, 19, 20, 21, 22, 23, 24, 25, 26, 27, 28, 29, 30, 31, 32, 33, 34, 35, 36, 37, 38, 39, 40, 41, 42, 43, 44] (by decide +kernel) (by decide +kernel)
set_option maxRecDepth 20000 in
theorem gX4_where_X4_may : GoodIn wsX4_where (wsV RX4 117 RX4 yX4_may wsX4_may) := goodIn_app (goodIn_of _ (by decide +kernel)) ggX4_where_X4_may
theorem dX4_where_0 : decode cX4_where 0 = .ok (.aload_n 0, 1) := by decide +kernel
theorem dX4_where_1 : decode cX4_where 1 = .ok (.aload_n 0, 1) := by decide +kernel
theorem dX4_where_2 : decode cX4_where 2 = .ok (.iload_n 1, 1) := by decide +kernel
theorem dX4_where_3 : decode cX4_where 3 = .ok (.invokevirtual 107, 3) := by decide +kernel
theorem dX4_where_6 : decode cX4_where 6 = .ok (.invokevirtual 117, 3) := by decide +kernel
theorem dX4_where_9 : decode cX4_where 9 = .ok (.ifCond .ne 5, 3) := by decide +kernel
theorem dX4_where_12 : decode cX4_where 12 = .ok (.iconst 0, 1) := by decide +kernel
theorem dX4_where_13 : decode cX4_where 13 = .ok (.ireturn, 1) := by decide +kernel
theorem dX4_where_14 : decode cX4_where 14 = .ok (.aload_n 0, 1) := by decide +kernel
theorem dX4_where_15 : decode cX4_where 15 = .ok (.getfield 25, 3) := by decide +kernel
theorem dX4_where_18 : decode cX4_where 18 = .ok (.iload_n 1, 1) := by decide +kernel
theorem dX4_where_19 : decode cX4_where 19 = .ok (.iaload, 1) := by decide +kernel
theorem dX4_where_20 : decode cX4_where 20 = .ok (.iconst (-1), 1) := by decide +kernel
theorem dX4_where_21 : decode cX4_where 21 = .ok (.if_icmp .ne 7, 3) := by decide +kernel
theorem dX4_where_24 : decode cX4_where 24 = .ok (.iconst (-1), 1) := by decide +kernel
theorem dX4_where_25 : decode cX4_where 25 = .ok (.goto 20, 3) := by decide +kernel
theorem dX4_where_28 : decode cX4_where 28 = .ok (.sipush 1000, 3) := by decide +kernel
theorem dX4_where_31 : decode cX4_where 31 = .ok (.aload_n 0, 1) := by decide +kernel
theorem dX4_where_32 : decode cX4_where 32 = .ok (.getfield 25, 3) := by decide +kernel
theorem dX4_where_35 : decode cX4_where 35 = .ok (.iload_n 1, 1) := by decide +kernel
theorem dX4_where_36 : decode cX4_where 36 = .ok (.iaload, 1) := by decide +kernel
theorem dX4_where_37 : decode cX4_where 37 = .ok (.imul, 1) := by decide +kernel
theorem dX4_where_38 : decode cX4_where 38 = .ok (.aload_n 0, 1) := by decide +kernel
theorem dX4_where_39 : decode cX4_where 39 = .ok (.getfield 28, 3) := by decide +kernel
theorem dX4_where_42 : decode cX4_where 42 = .ok (.iload_n 1, 1) := by decide +kernel
theorem dX4_where_43 : decode cX4_where 43 = .ok (.iaload, 1) := by decide +kernel
theorem dX4_where_44 : decode cX4_where 44 = .ok (.iadd, 1) := by decide +kernel
theorem dX4_where_45 : decode cX4_where 45 = .ok (.ireturn, 1) := by decide +kernel
set_option maxRecDepth 20000 in
theorem ggX4_tour_X4_isBar : GoodIn wsX4_tour wsX4_isBar := goodIn_r _ [12, 13, 2, 14, 15, 11, 16, 30, 31, 32, 33, 34, 35, 36, 37, 38, 39, 40, 41, 42, 43, 44, 45, 46, 47, 48, 49, 50, 51, 52, 53, 54, 55, 56, 57] (by decide +kernel) (by decide +kernel)
set_option maxRecDepth 20000 in
theorem gX4_tour_X4_isBar : GoodIn wsX4_tour (wsV RX4 111 RX4 yX4_isBar wsX4_isBar) := goodIn_app (goodIn_of _ (by decide +kernel)) ggX4_tour_X4_isBar
set_option maxRecDepth 20000 in
theorem ggX4_tour_X4_canHang : GoodIn wsX4_tour wsX4_canHang := goodIn_r _ [20, 21, 22, 2, 3, 5, 7, 23, 24, 25, 11, 26, 27, 28, 29, 30, 31, 32, 33, 34, 35, 36, 37, 38, 39, 40, 41, 42, 43, 44, 45, 46, 47, 48, 49, 50, 51, 52, 53, 54, 55, 56, 57] (by decide +kernel) (by decide +kernel)
set_option maxRecDepth 20000 in
theorem gX4_tour_X4_canHang : GoodIn wsX4_tour (wsV RX4 114 RX4 yX4_canHang wsX4_canHang) := goodIn_app (goodIn_of _ (by decide +kernel)) ggX4_tour_X4_canHang
theorem dX4_tour_0 : decode cX4_tour 0 = .ok (.aload_n 0, 1) := by decide +kernel
theorem dX4_tour_1 : decode cX4_tour 1 = .ok (.iconst 0, 1) := by decide +kernel
theorem dX4_tour_2 : decode cX4_tour 2 = .ok (.putfield 74, 3) := by decide +kernel
theorem dX4_tour_5 : decode cX4_tour 5 = .ok (.aload_n 0, 1) := by decide +kernel
theorem dX4_tour_6 : decode cX4_tour 6 = .ok (.iconst 1, 1) := by decide +kernel
theorem dX4_tour_7 : decode cX4_tour 7 = .ok (.aload_n 0, 1) := by decide +kernel
theorem dX4_tour_8 : decode cX4_tour 8 = .ok (.getfield 85, 3) := by decide +kernel
theorem dX4_tour_11 : decode cX4_tour 11 = .ok (.isub, 1) := by decide +kernel
theorem dX4_tour_12 : decode cX4_tour 12 = .ok (.putfield 85, 3) := by decide +kernel
theorem dX4_tour_15 : decode cX4_tour 15 = .ok (.iconst 0, 1) := by decide +kernel
theorem dX4_tour_16 : decode cX4_tour 16 = .ok (.istore_n 1, 1) := by decide +kernel
theorem dX4_tour_17 : decode cX4_tour 17 = .ok (.iload_n 1, 1) := by decide +kernel
theorem dX4_tour_18 : decode cX4_tour 18 = .ok (.aload_n 0, 1) := by decide +kernel
theorem dX4_tour_19 : decode cX4_tour 19 = .ok (.getfield 78, 3) := by decide +kernel
theorem dX4_tour_22 : decode cX4_tour 22 = .ok (.if_icmp .ge 28, 3) := by decide +kernel
theorem dX4_tour_25 : decode cX4_tour 25 = .ok (.aload_n 0, 1) := by decide +kernel
theorem dX4_tour_26 : decode cX4_tour 26 = .ok (.getfield 71, 3) := by decide +kernel
theorem dX4_tour_29 : decode cX4_tour 29 = .ok (.iload_n 1, 1) := by decide +kernel
theorem dX4_tour_30 : decode cX4_tour 30 = .ok (.aload_n 0, 1) := by decide +kernel
theorem dX4_tour_31 : decode cX4_tour 31 = .ok (.getfield 25, 3) := by decide +kernel
theorem dX4_tour_34 : decode cX4_tour 34 = .ok (.iload_n 1, 1) := by decide +kernel
theorem dX4_tour_35 : decode cX4_tour 35 = .ok (.iaload, 1) := by decide +kernel
theorem dX4_tour_36 : decode cX4_tour 36 = .ok (.iastore, 1) := by decide +kernel
theorem dX4_tour_37 : decode cX4_tour 37 = .ok (.aload_n 0, 1) := by decide +kernel
theorem dX4_tour_38 : decode cX4_tour 38 = .ok (.getfield 25, 3) := by decide +kernel
theorem dX4_tour_41 : decode cX4_tour 41 = .ok (.iload_n 1, 1) := by decide +kernel
theorem dX4_tour_42 : decode cX4_tour 42 = .ok (.iconst (-1), 1) := by decide +kernel
theorem dX4_tour_43 : decode cX4_tour 43 = .ok (.iastore, 1) := by decide +kernel
theorem dX4_tour_44 : decode cX4_tour 44 = .ok (.iinc 1 1, 3) := by decide +kernel
theorem dX4_tour_47 : decode cX4_tour 47 = .ok (.goto (-30), 3) := by decide +kernel
theorem dX4_tour_50 : decode cX4_tour 50 = .ok (.iconst 0, 1) := by decide +kernel
theorem dX4_tour_51 : decode cX4_tour 51 = .ok (.istore_n 1, 1) := by decide +kernel
theorem dX4_tour_52 : decode cX4_tour 52 = .ok (.iconst 0, 1) := by decide +kernel
theorem dX4_tour_53 : decode cX4_tour 53 = .ok (.istore_n 2, 1) := by decide +kernel
theorem dX4_tour_54 : decode cX4_tour 54 = .ok (.iload_n 2, 1) := by decide +kernel
theorem dX4_tour_55 : decode cX4_tour 55 = .ok (.aload_n 0, 1) := by decide +kernel
theorem dX4_tour_56 : decode cX4_tour 56 = .ok (.getfield 78, 3) := by decide +kernel
theorem dX4_tour_59 : decode cX4_tour 59 = .ok (.if_icmp .ge 165, 3) := by decide +kernel
theorem dX4_tour_62 : decode cX4_tour 62 = .ok (.aload_n 0, 1) := by decide +kernel
theorem dX4_tour_63 : decode cX4_tour 63 = .ok (.getfield 71, 3) := by decide +kernel
theorem dX4_tour_66 : decode cX4_tour 66 = .ok (.iload_n 2, 1) := by decide +kernel
theorem dX4_tour_67 : decode cX4_tour 67 = .ok (.iaload, 1) := by decide +kernel
theorem dX4_tour_68 : decode cX4_tour 68 = .ok (.iconst (-1), 1) := by decide +kernel
theorem dX4_tour_69 : decode cX4_tour 69 = .ok (.if_icmp .eq 149, 3) := by decide +kernel
theorem dX4_tour_72 : decode cX4_tour 72 = .ok (.iconst (-1), 1) := by decide +kernel
theorem dX4_tour_73 : decode cX4_tour 73 = .ok (.istore_n 3, 1) := by decide +kernel
theorem dX4_tour_74 : decode cX4_tour 74 = .ok (.sipush 1000, 3) := by decide +kernel
theorem dX4_tour_77 : decode cX4_tour 77 = .ok (.istore 4, 2) := by decide +kernel
theorem dX4_tour_79 : decode cX4_tour 79 = .ok (.iconst 0, 1) := by decide +kernel
theorem dX4_tour_80 : decode cX4_tour 80 = .ok (.istore 5, 2) := by decide +kernel
theorem dX4_tour_82 : decode cX4_tour 82 = .ok (.aload_n 0, 1) := by decide +kernel
theorem dX4_tour_83 : decode cX4_tour 83 = .ok (.aload_n 0, 1) := by decide +kernel
theorem dX4_tour_84 : decode cX4_tour 84 = .ok (.getfield 71, 3) := by decide +kernel
theorem dX4_tour_87 : decode cX4_tour 87 = .ok (.iload_n 2, 1) := by decide +kernel
theorem dX4_tour_88 : decode cX4_tour 88 = .ok (.iaload, 1) := by decide +kernel
theorem dX4_tour_89 : decode cX4_tour 89 = .ok (.invokevirtual 111, 3) := by decide +kernel
theorem dX4_tour_92 : decode cX4_tour 92 = .ok (.ifCond .eq 96, 3) := by decide +kernel
theorem dX4_tour_95 : decode cX4_tour 95 = .ok (.iload 5, 2) := by decide +kernel
theorem dX4_tour_97 : decode cX4_tour 97 = .ok (.aload_n 0, 1) := by decide +kernel
theorem dX4_tour_98 : decode cX4_tour 98 = .ok (.getfield 13, 3) := by decide +kernel
theorem dX4_tour_101 : decode cX4_tour 101 = .ok (.iconst 4, 1) := by decide +kernel
theorem dX4_tour_102 : decode cX4_tour 102 = .ok (.aload_n 0, 1) := by decide +kernel
theorem dX4_tour_103 : decode cX4_tour 103 = .ok (.getfield 85, 3) := by decide +kernel
theorem dX4_tour_106 : decode cX4_tour 106 = .ok (.imul, 1) := by decide +kernel
theorem dX4_tour_107 : decode cX4_tour 107 = .ok (.aload_n 0, 1) := by decide +kernel
theorem dX4_tour_108 : decode cX4_tour 108 = .ok (.getfield 71, 3) := by decide +kernel
theorem dX4_tour_111 : decode cX4_tour 111 = .ok (.iload_n 2, 1) := by decide +kernel
theorem dX4_tour_112 : decode cX4_tour 112 = .ok (.iaload, 1) := by decide +kernel
theorem dX4_tour_113 : decode cX4_tour 113 = .ok (.iadd, 1) := by decide +kernel
theorem dX4_tour_114 : decode cX4_tour 114 = .ok (.iaload, 1) := by decide +kernel
theorem dX4_tour_115 : decode cX4_tour 115 = .ok (.if_icmp .gt 73, 3) := by decide +kernel
theorem dX4_tour_118 : decode cX4_tour 118 = .ok (.iload 5, 2) := by decide +kernel
theorem dX4_tour_120 : decode cX4_tour 120 = .ok (.aload_n 0, 1) := by decide +kernel
theorem dX4_tour_121 : decode cX4_tour 121 = .ok (.getfield 28, 3) := by decide +kernel
theorem dX4_tour_124 : decode cX4_tour 124 = .ok (.iload_n 2, 1) := by decide +kernel
theorem dX4_tour_125 : decode cX4_tour 125 = .ok (.iaload, 1) := by decide +kernel
theorem dX4_tour_126 : decode cX4_tour 126 = .ok (.if_icmp .ge 15, 3) := by decide +kernel
theorem dX4_tour_129 : decode cX4_tour 129 = .ok (.aload_n 0, 1) := by decide +kernel
theorem dX4_tour_130 : decode cX4_tour 130 = .ok (.getfield 28, 3) := by decide +kernel
theorem dX4_tour_133 : decode cX4_tour 133 = .ok (.iload_n 2, 1) := by decide +kernel
theorem dX4_tour_134 : decode cX4_tour 134 = .ok (.iaload, 1) := by decide +kernel
theorem dX4_tour_135 : decode cX4_tour 135 = .ok (.iload 5, 2) := by decide +kernel
theorem dX4_tour_137 : decode cX4_tour 137 = .ok (.isub, 1) := by decide +kernel
theorem dX4_tour_138 : decode cX4_tour 138 = .ok (.goto 12, 3) := by decide +kernel
theorem dX4_tour_141 : decode cX4_tour 141 = .ok (.iload 5, 2) := by decide +kernel
theorem dX4_tour_143 : decode cX4_tour 143 = .ok (.aload_n 0, 1) := by decide +kernel
theorem dX4_tour_144 : decode cX4_tour 144 = .ok (.getfield 28, 3) := by decide +kernel
theorem dX4_tour_147 : decode cX4_tour 147 = .ok (.iload_n 2, 1) := by decide +kernel
theorem dX4_tour_148 : decode cX4_tour 148 = .ok (.iaload, 1) := by decide +kernel
theorem dX4_tour_149 : decode cX4_tour 149 = .ok (.isub, 1) := by decide +kernel
theorem dX4_tour_150 : decode cX4_tour 150 = .ok (.istore 6, 2) := by decide +kernel
theorem dX4_tour_152 : decode cX4_tour 152 = .ok (.iload 6, 2) := by decide +kernel
theorem dX4_tour_154 : decode cX4_tour 154 = .ok (.iload 4, 2) := by decide +kernel
theorem dX4_tour_156 : decode cX4_tour 156 = .ok (.if_icmp .ge 26, 3) := by decide +kernel
theorem dX4_tour_159 : decode cX4_tour 159 = .ok (.aload_n 0, 1) := by decide +kernel
theorem dX4_tour_160 : decode cX4_tour 160 = .ok (.iload_n 2, 1) := by decide +kernel
theorem dX4_tour_161 : decode cX4_tour 161 = .ok (.aload_n 0, 1) := by decide +kernel
theorem dX4_tour_162 : decode cX4_tour 162 = .ok (.getfield 71, 3) := by decide +kernel
theorem dX4_tour_165 : decode cX4_tour 165 = .ok (.iload_n 2, 1) := by decide +kernel
theorem dX4_tour_166 : decode cX4_tour 166 = .ok (.iaload, 1) := by decide +kernel
theorem dX4_tour_167 : decode cX4_tour 167 = .ok (.iload 5, 2) := by decide +kernel
theorem dX4_tour_169 : decode cX4_tour 169 = .ok (.invokevirtual 114, 3) := by decide +kernel
theorem dX4_tour_172 : decode cX4_tour 172 = .ok (.ifCond .eq 10, 3) := by decide +kernel
theorem dX4_tour_175 : decode cX4_tour 175 = .ok (.iload 5, 2) := by decide +kernel
theorem dX4_tour_177 : decode cX4_tour 177 = .ok (.istore_n 3, 1) := by decide +kernel
theorem dX4_tour_178 : decode cX4_tour 178 = .ok (.iload 6, 2) := by decide +kernel
theorem dX4_tour_180 : decode cX4_tour 180 = .ok (.istore 4, 2) := by decide +kernel
theorem dX4_tour_182 : decode cX4_tour 182 = .ok (.iinc 5 1, 3) := by decide +kernel
theorem dX4_tour_185 : decode cX4_tour 185 = .ok (.goto (-103), 3) := by decide +kernel
theorem dX4_tour_188 : decode cX4_tour 188 = .ok (.iload_n 3, 1) := by decide +kernel
theorem dX4_tour_189 : decode cX4_tour 189 = .ok (.iconst (-1), 1) := by decide +kernel
theorem dX4_tour_190 : decode cX4_tour 190 = .ok (.if_icmp .ne 9, 3) := by decide +kernel
theorem dX4_tour_193 : decode cX4_tour 193 = .ok (.iinc 1 1, 3) := by decide +kernel
theorem dX4_tour_196 : decode cX4_tour 196 = .ok (.goto 22, 3) := by decide +kernel
theorem dX4_tour_199 : decode cX4_tour 199 = .ok (.aload_n 0, 1) := by decide +kernel
theorem dX4_tour_200 : decode cX4_tour 200 = .ok (.getfield 25, 3) := by decide +kernel
theorem dX4_tour_203 : decode cX4_tour 203 = .ok (.iload_n 2, 1) := by decide +kernel
theorem dX4_tour_204 : decode cX4_tour 204 = .ok (.aload_n 0, 1) := by decide +kernel
theorem dX4_tour_205 : decode cX4_tour 205 = .ok (.getfield 71, 3) := by decide +kernel
theorem dX4_tour_208 : decode cX4_tour 208 = .ok (.iload_n 2, 1) := by decide +kernel
theorem dX4_tour_209 : decode cX4_tour 209 = .ok (.iaload, 1) := by decide +kernel
theorem dX4_tour_210 : decode cX4_tour 210 = .ok (.iastore, 1) := by decide +kernel
theorem dX4_tour_211 : decode cX4_tour 211 = .ok (.aload_n 0, 1) := by decide +kernel
theorem dX4_tour_212 : decode cX4_tour 212 = .ok (.getfield 28, 3) := by decide +kernel
theorem dX4_tour_215 : decode cX4_tour 215 = .ok (.iload_n 2, 1) := by decide +kernel
theorem dX4_tour_216 : decode cX4_tour 216 = .ok (.iload_n 3, 1) := by decide +kernel
theorem dX4_tour_217 : decode cX4_tour 217 = .ok (.iastore, 1) := by decide +kernel
theorem dX4_tour_218 : decode cX4_tour 218 = .ok (.iinc 2 1, 3) := by decide +kernel
theorem dX4_tour_221 : decode cX4_tour 221 = .ok (.goto (-167), 3) := by decide +kernel
theorem dX4_tour_224 : decode cX4_tour 224 = .ok (.iload_n 1, 1) := by decide +kernel
theorem dX4_tour_225 : decode cX4_tour 225 = .ok (.ireturn, 1) := by decide +kernel
set_option maxRecDepth 20000 in
theorem ggX4_lampsAt_X4_has : GoodIn wsX4_lampsAt wsX4_has := goodIn_r _ [7] (by decide +kernel) (by decide +kernel)
set_option maxRecDepth 20000 in
theorem gX4_lampsAt_X4_has : GoodIn wsX4_lampsAt (va_wsS RX4 124 yX4_has wsX4_has) := goodIn_app (goodIn_of _ (by decide +kernel)) ggX4_lampsAt_X4_has
set_option maxRecDepth 20000 in
theorem ggX4_lampsAt_X4_isIn : GoodIn wsX4_lampsAt wsX4_isIn := goodIn_r _ [10] (by decide +kernel) (by decide +kernel)
set_option maxRecDepth 20000 in
theorem gX4_lampsAt_X4_isIn : GoodIn wsX4_lampsAt (va_wsS RX4 81 yX4_isIn wsX4_isIn) := goodIn_app (goodIn_of _ (by decide +kernel)) ggX4_lampsAt_X4_isIn
theorem dX4_lampsAt_0 : decode cX4_lampsAt 0 = .ok (.iconst 0, 1) := by decide +kernel
theorem dX4_lampsAt_1 : decode cX4_lampsAt 1 = .ok (.istore_n 2, 1) := by decide +kernel
theorem dX4_lampsAt_2 : decode cX4_lampsAt 2 = .ok (.iconst 0, 1) := by decide +kernel
theorem dX4_lampsAt_3 : decode cX4_lampsAt 3 = .ok (.istore_n 3, 1) := by decide +kernel
theorem dX4_lampsAt_4 : decode cX4_lampsAt 4 = .ok (.iload_n 3, 1) := by decide +kernel
theorem dX4_lampsAt_5 : decode cX4_lampsAt 5 = .ok (.aload_n 0, 1) := by decide +kernel
theorem dX4_lampsAt_6 : decode cX4_lampsAt 6 = .ok (.getfield 78, 3) := by decide +kernel
theorem dX4_lampsAt_9 : decode cX4_lampsAt 9 = .ok (.if_icmp .ge 58, 3) := by decide +kernel
theorem dX4_lampsAt_12 : decode cX4_lampsAt 12 = .ok (.iload_n 2, 1) := by decide +kernel
theorem dX4_lampsAt_13 : decode cX4_lampsAt 13 = .ok (.aload_n 0, 1) := by decide +kernel
theorem dX4_lampsAt_14 : decode cX4_lampsAt 14 = .ok (.getfield 31, 3) := by decide +kernel
theorem dX4_lampsAt_17 : decode cX4_lampsAt 17 = .ok (.iload_n 3, 1) := by decide +kernel
theorem dX4_lampsAt_18 : decode cX4_lampsAt 18 = .ok (.iaload, 1) := by decide +kernel
theorem dX4_lampsAt_19 : decode cX4_lampsAt 19 = .ok (.iconst (-1), 1) := by decide +kernel
theorem dX4_lampsAt_20 : decode cX4_lampsAt 20 = .ok (.if_icmp .eq 38, 3) := by decide +kernel
theorem dX4_lampsAt_23 : decode cX4_lampsAt 23 = .ok (.iload_n 1, 1) := by decide +kernel
theorem dX4_lampsAt_24 : decode cX4_lampsAt 24 = .ok (.aload_n 0, 1) := by decide +kernel
theorem dX4_lampsAt_25 : decode cX4_lampsAt 25 = .ok (.getfield 31, 3) := by decide +kernel
theorem dX4_lampsAt_28 : decode cX4_lampsAt 28 = .ok (.iload_n 3, 1) := by decide +kernel
theorem dX4_lampsAt_29 : decode cX4_lampsAt 29 = .ok (.iaload, 1) := by decide +kernel
theorem dX4_lampsAt_30 : decode cX4_lampsAt 30 = .ok (.aload_n 0, 1) := by decide +kernel
theorem dX4_lampsAt_31 : decode cX4_lampsAt 31 = .ok (.getfield 31, 3) := by decide +kernel
theorem dX4_lampsAt_34 : decode cX4_lampsAt 34 = .ok (.iload_n 3, 1) := by decide +kernel
theorem dX4_lampsAt_35 : decode cX4_lampsAt 35 = .ok (.iaload, 1) := by decide +kernel
theorem dX4_lampsAt_36 : decode cX4_lampsAt 36 = .ok (.aload_n 0, 1) := by decide +kernel
theorem dX4_lampsAt_37 : decode cX4_lampsAt 37 = .ok (.getfield 19, 3) := by decide +kernel
theorem dX4_lampsAt_40 : decode cX4_lampsAt 40 = .ok (.iload_n 3, 1) := by decide +kernel
theorem dX4_lampsAt_41 : decode cX4_lampsAt 41 = .ok (.iaload, 1) := by decide +kernel
theorem dX4_lampsAt_42 : decode cX4_lampsAt 42 = .ok (.invokestatic 124, 3) := by decide +kernel
theorem dX4_lampsAt_45 : decode cX4_lampsAt 45 = .ok (.iadd, 1) := by decide +kernel
theorem dX4_lampsAt_46 : decode cX4_lampsAt 46 = .ok (.iconst 1, 1) := by decide +kernel
theorem dX4_lampsAt_47 : decode cX4_lampsAt 47 = .ok (.isub, 1) := by decide +kernel
theorem dX4_lampsAt_48 : decode cX4_lampsAt 48 = .ok (.invokestatic 81, 3) := by decide +kernel
theorem dX4_lampsAt_51 : decode cX4_lampsAt 51 = .ok (.ifCond .eq 7, 3) := by decide +kernel
theorem dX4_lampsAt_54 : decode cX4_lampsAt 54 = .ok (.iconst 1, 1) := by decide +kernel
theorem dX4_lampsAt_55 : decode cX4_lampsAt 55 = .ok (.goto 4, 3) := by decide +kernel
theorem dX4_lampsAt_58 : decode cX4_lampsAt 58 = .ok (.iconst 0, 1) := by decide +kernel
theorem dX4_lampsAt_59 : decode cX4_lampsAt 59 = .ok (.iadd, 1) := by decide +kernel
theorem dX4_lampsAt_60 : decode cX4_lampsAt 60 = .ok (.istore_n 2, 1) := by decide +kernel
theorem dX4_lampsAt_61 : decode cX4_lampsAt 61 = .ok (.iinc 3 1, 3) := by decide +kernel
theorem dX4_lampsAt_64 : decode cX4_lampsAt 64 = .ok (.goto (-60), 3) := by decide +kernel
theorem dX4_lampsAt_67 : decode cX4_lampsAt 67 = .ok (.iload_n 2, 1) := by decide +kernel
theorem dX4_lampsAt_68 : decode cX4_lampsAt 68 = .ok (.ireturn, 1) := by decide +kernel
set_option maxRecDepth 20000 in
theorem ggX4_patch_X4_isLamp : GoodIn wsX4_patch wsX4_isLamp := goodIn_r _ [7, 8, 9, 10, 6, 11, 24, 25, 26, 27, 28, 29, 30, 31, 32, 33, 34, 35, 36, 37, 38, 39, 40, 41, 42, 43, 44, 45, 46, 47, 48, 49, 50, 51] (by decide +kernel) (by decide +kernel)
set_option maxRecDepth 20000 in
theorem gX4_patch_X4_isLamp : GoodIn wsX4_patch (wsV RX4 107 RX4 yX4_isLamp wsX4_isLamp) := goodIn_app (goodIn_of _ (by decide +kernel)) ggX4_patch_X4_isLamp
set_option maxRecDepth 20000 in
theorem ggX4_patch_X4_has : GoodIn wsX4_patch wsX4_has := goodIn_r _ [14] (by decide +kernel) (by decide +kernel)
set_option maxRecDepth 20000 in
theorem gX4_patch_X4_has : GoodIn wsX4_patch (va_wsS RX4 124 yX4_has wsX4_has) := goodIn_app (goodIn_of _ (by decide +kernel)) ggX4_patch_X4_has
set_option maxRecDepth 20000 in
theorem ggX4_patch_X4_isIn : GoodIn wsX4_patch wsX4_isIn := goodIn_r _ [11] (by decide +kernel) (by decide +kernel)
set_option maxRecDepth 20000 in
theorem gX4_patch_X4_isIn : GoodIn wsX4_patch (va_wsS RX4 81 yX4_isIn wsX4_isIn) := goodIn_app (goodIn_of _ (by decide +kernel)) ggX4_patch_X4_isIn
set_option maxRecDepth 20000 in
theorem ggX4_patch_X4_mayBoth : GoodIn wsX4_patch wsX4_mayBoth := goodIn_r _ [18, 19, 24, 25, 26, 27, 28, 29, 30, 31, 32, 33, 34, 35, 36, 37, 38, 39, 40, 41, 42, 43, 44, 45, 46, 47, 48, 49, 50, 51] (by decide +kernel) (by decide +kernel)
set_option maxRecDepth 20000 in
theorem gX4_patch_X4_mayBoth : GoodIn wsX4_patch (wsV RX4 95 RX4 yX4_mayBoth wsX4_mayBoth) := goodIn_app (goodIn_of _ (by decide +kernel)) ggX4_patch_X4_mayBoth
set_option maxRecDepth 20000 in
theorem ggX4_patch_X4_lampsAt : GoodIn wsX4_patch wsX4_lampsAt := goodIn_r _ [23, 8, 2, 1, 12, 13, 6, 14, 9, 10, 11, 24, 25, 26, 27, 28, 29, 30, 31, 32, 33, 34, 35, 36, 37, 38, 39, 40, 41, 42, 43, 44, 45, 46, 47, 48, 49, 50, 51] (by decide +kernel) (by decide +kernel)
set_option maxRecDepth 20000 in
theorem gX4_patch_X4_lampsAt : GoodIn wsX4_patch (wsV RX4 127 RX4 yX4_lampsAt wsX4_lampsAt) := goodIn_app (goodIn_of _ (by decide +kernel)) ggX4_patch_X4_lampsAt
theorem dX4_patch_0 : decode cX4_patch 0 = .ok (.aload_n 0, 1) := by decide +kernel
theorem dX4_patch_1 : decode cX4_patch 1 = .ok (.iload_n 1, 1) := by decide +kernel
theorem dX4_patch_2 : decode cX4_patch 2 = .ok (.invokevirtual 107, 3) := by decide +kernel
theorem dX4_patch_5 : decode cX4_patch 5 = .ok (.istore_n 3, 1) := by decide +kernel
theorem dX4_patch_6 : decode cX4_patch 6 = .ok (.aload_n 0, 1) := by decide +kernel
theorem dX4_patch_7 : decode cX4_patch 7 = .ok (.iload_n 3, 1) := by decide +kernel
theorem dX4_patch_8 : decode cX4_patch 8 = .ok (.iload_n 3, 1) := by decide +kernel
theorem dX4_patch_9 : decode cX4_patch 9 = .ok (.ifCond .eq 27, 3) := by decide +kernel
theorem dX4_patch_12 : decode cX4_patch 12 = .ok (.iload_n 2, 1) := by decide +kernel
theorem dX4_patch_13 : decode cX4_patch 13 = .ok (.iconst (-1), 1) := by decide +kernel
theorem dX4_patch_14 : decode cX4_patch 14 = .ok (.bipush 100, 2) := by decide +kernel
theorem dX4_patch_16 : decode cX4_patch 16 = .ok (.aload_n 0, 1) := by decide +kernel
theorem dX4_patch_17 : decode cX4_patch 17 = .ok (.getfield 19, 3) := by decide +kernel
theorem dX4_patch_20 : decode cX4_patch 20 = .ok (.iload_n 1, 1) := by decide +kernel
theorem dX4_patch_21 : decode cX4_patch 21 = .ok (.iaload, 1) := by decide +kernel
theorem dX4_patch_22 : decode cX4_patch 22 = .ok (.invokestatic 124, 3) := by decide +kernel
theorem dX4_patch_25 : decode cX4_patch 25 = .ok (.isub, 1) := by decide +kernel
theorem dX4_patch_26 : decode cX4_patch 26 = .ok (.invokestatic 81, 3) := by decide +kernel
theorem dX4_patch_29 : decode cX4_patch 29 = .ok (.ifCond .eq 7, 3) := by decide +kernel
theorem dX4_patch_32 : decode cX4_patch 32 = .ok (.iconst 1, 1) := by decide +kernel
theorem dX4_patch_33 : decode cX4_patch 33 = .ok (.goto 4, 3) := by decide +kernel
theorem dX4_patch_36 : decode cX4_patch 36 = .ok (.iconst 0, 1) := by decide +kernel
theorem dX4_patch_37 : decode cX4_patch 37 = .ok (.invokevirtual 95, 3) := by decide +kernel
theorem dX4_patch_40 : decode cX4_patch 40 = .ok (.ifCond .ne 5, 3) := by decide +kernel
theorem dX4_patch_43 : decode cX4_patch 43 = .ok (.iconst 0, 1) := by decide +kernel
end
section
theorem dX4_patch_44 : decode cX4_patch 44 = .ok (.ireturn, 1) := by decide +kernel
theorem dX4_patch_45 : decode cX4_patch 45 = .ok (.aload_n 0, 1) := by decide +kernel
theorem dX4_patch_46 : decode cX4_patch 46 = .ok (.getfield 31, 3) := by decide +kernel
theorem dX4_patch_49 : decode cX4_patch 49 = .ok (.iload_n 1, 1) := by decide +kernel
theorem dX4_patch_50 : decode cX4_patch 50 = .ok (.iload_n 2, 1) := by decide +kernel
theorem dX4_patch_51 : decode cX4_patch 51 = .ok (.iastore, 1) := by decide +kernel
theorem dX4_patch_52 : decode cX4_patch 52 = .ok (.iconst 0, 1) := by decide +kernel
theorem dX4_patch_53 : decode cX4_patch 53 = .ok (.istore 4, 2) := by decide +kernel
theorem dX4_patch_55 : decode cX4_patch 55 = .ok (.iconst 0, 1) := by decide +kernel
theorem dX4_patch_56 : decode cX4_patch 56 = .ok (.istore 5, 2) := by decide +kernel
theorem dX4_patch_58 : decode cX4_patch 58 = .ok (.iload 5, 2) := by decide +kernel
theorem dX4_patch_60 : decode cX4_patch 60 = .ok (.bipush 100, 2) := by decide +kernel
theorem dX4_patch_62 : decode cX4_patch 62 = .ok (.if_icmp .ge 29, 3) := by decide +kernel
theorem dX4_patch_65 : decode cX4_patch 65 = .ok (.iload 4, 2) := by decide +kernel
theorem dX4_patch_67 : decode cX4_patch 67 = .ok (.aload_n 0, 1) := by decide +kernel
theorem dX4_patch_68 : decode cX4_patch 68 = .ok (.iload 5, 2) := by decide +kernel
theorem dX4_patch_70 : decode cX4_patch 70 = .ok (.invokevirtual 127, 3) := by decide +kernel
theorem dX4_patch_73 : decode cX4_patch 73 = .ok (.iconst 1, 1) := by decide +kernel
theorem dX4_patch_74 : decode cX4_patch 74 = .ok (.if_icmp .le 7, 3) := by decide +kernel
theorem dX4_patch_77 : decode cX4_patch 77 = .ok (.iconst 1, 1) := by decide +kernel
theorem dX4_patch_78 : decode cX4_patch 78 = .ok (.goto 4, 3) := by decide +kernel
theorem dX4_patch_81 : decode cX4_patch 81 = .ok (.iconst 0, 1) := by decide +kernel
theorem dX4_patch_82 : decode cX4_patch 82 = .ok (.iadd, 1) := by decide +kernel
theorem dX4_patch_83 : decode cX4_patch 83 = .ok (.istore 4, 2) := by decide +kernel
theorem dX4_patch_85 : decode cX4_patch 85 = .ok (.iinc 5 1, 3) := by decide +kernel
theorem dX4_patch_88 : decode cX4_patch 88 = .ok (.goto (-30), 3) := by decide +kernel
theorem dX4_patch_91 : decode cX4_patch 91 = .ok (.iload 4, 2) := by decide +kernel
theorem dX4_patch_93 : decode cX4_patch 93 = .ok (.ireturn, 1) := by decide +kernel
set_option maxRecDepth 20000 in
theorem ggX4_gap_X4_isIn : GoodIn wsX4_gap wsX4_isIn := goodIn_r _ [4] (by decide +kernel) (by decide +kernel)
set_option maxRecDepth 20000 in
theorem gX4_gap_X4_isIn : GoodIn wsX4_gap (va_wsS RX4 81 yX4_isIn wsX4_isIn) := goodIn_app (goodIn_of _ (by decide +kernel)) ggX4_gap_X4_isIn
set_option maxRecDepth 20000 in
theorem ggX4_gap_X4_may : GoodIn wsX4_gap wsX4_may := goodIn_r _ [8, 9, 20, 21, 22, 23, 24, 25, 26, 27, 28, 29, 30, 31, 32, 33, 34, 35, 36, 37, 38, 39, 40, 41, 42, 43, 44, 45, 46, 47] (by decide +kernel) (by decide +kernel)
set_option maxRecDepth 20000 in
theorem gX4_gap_X4_may : GoodIn wsX4_gap (wsV RX4 117 RX4 yX4_may wsX4_may) := goodIn_app (goodIn_of _ (by decide +kernel)) ggX4_gap_X4_may
set_option maxRecDepth 20000 in
theorem ggX4_gap_X4_lampsAt : GoodIn wsX4_gap wsX4_lampsAt := goodIn_r _ [13, 14, 15, 16, 17, 18, 3, 19, 1, 2, 4, 20, 21, 22, 23, 24, 25, 26, 27, 28, 29, 30, 31, 32, 33, 34, 35, 36, 37, 38, 39, 40, 41, 42, 43, 44, 45, 46, 47] (by decide +kernel) (by decide +kernel)
set_option maxRecDepth 20000 in
theorem gX4_gap_X4_lampsAt : GoodIn wsX4_gap (wsV RX4 127 RX4 yX4_lampsAt wsX4_lampsAt) := goodIn_app (goodIn_of _ (by decide +kernel)) ggX4_gap_X4_lampsAt
theorem dX4_gap_0 : decode cX4_gap 0 = .ok (.aload_n 0, 1) := by decide +kernel
theorem dX4_gap_1 : decode cX4_gap 1 = .ok (.iload_n 1, 1) := by decide +kernel
theorem dX4_gap_2 : decode cX4_gap 2 = .ok (.iconst 1, 1) := by decide +kernel
theorem dX4_gap_3 : decode cX4_gap 3 = .ok (.bipush 100, 2) := by decide +kernel
theorem dX4_gap_5 : decode cX4_gap 5 = .ok (.invokestatic 81, 3) := by decide +kernel
theorem dX4_gap_8 : decode cX4_gap 8 = .ok (.invokevirtual 117, 3) := by decide +kernel
theorem dX4_gap_11 : decode cX4_gap 11 = .ok (.ifCond .ne 5, 3) := by decide +kernel
theorem dX4_gap_14 : decode cX4_gap 14 = .ok (.iconst 0, 1) := by decide +kernel
theorem dX4_gap_15 : decode cX4_gap 15 = .ok (.ireturn, 1) := by decide +kernel
theorem dX4_gap_16 : decode cX4_gap 16 = .ok (.iconst 0, 1) := by decide +kernel
theorem dX4_gap_17 : decode cX4_gap 17 = .ok (.istore_n 2, 1) := by decide +kernel
theorem dX4_gap_18 : decode cX4_gap 18 = .ok (.iconst 0, 1) := by decide +kernel
theorem dX4_gap_19 : decode cX4_gap 19 = .ok (.istore_n 3, 1) := by decide +kernel
theorem dX4_gap_20 : decode cX4_gap 20 = .ok (.iload_n 3, 1) := by decide +kernel
theorem dX4_gap_21 : decode cX4_gap 21 = .ok (.bipush 100, 2) := by decide +kernel
theorem dX4_gap_23 : decode cX4_gap 23 = .ok (.if_icmp .ge 36, 3) := by decide +kernel
theorem dX4_gap_26 : decode cX4_gap 26 = .ok (.aload_n 0, 1) := by decide +kernel
theorem dX4_gap_27 : decode cX4_gap 27 = .ok (.iload_n 3, 1) := by decide +kernel
theorem dX4_gap_28 : decode cX4_gap 28 = .ok (.invokevirtual 127, 3) := by decide +kernel
theorem dX4_gap_31 : decode cX4_gap 31 = .ok (.ifCond .ne 9, 3) := by decide +kernel
theorem dX4_gap_34 : decode cX4_gap 34 = .ok (.iload_n 2, 1) := by decide +kernel
theorem dX4_gap_35 : decode cX4_gap 35 = .ok (.iconst 1, 1) := by decide +kernel
theorem dX4_gap_36 : decode cX4_gap 36 = .ok (.iadd, 1) := by decide +kernel
theorem dX4_gap_37 : decode cX4_gap 37 = .ok (.goto 4, 3) := by decide +kernel
theorem dX4_gap_40 : decode cX4_gap 40 = .ok (.iconst 0, 1) := by decide +kernel
theorem dX4_gap_41 : decode cX4_gap 41 = .ok (.istore_n 2, 1) := by decide +kernel
theorem dX4_gap_42 : decode cX4_gap 42 = .ok (.iload_n 2, 1) := by decide +kernel
theorem dX4_gap_43 : decode cX4_gap 43 = .ok (.iload_n 1, 1) := by decide +kernel
theorem dX4_gap_44 : decode cX4_gap 44 = .ok (.if_icmp .ne 9, 3) := by decide +kernel
theorem dX4_gap_47 : decode cX4_gap 47 = .ok (.iload_n 3, 1) := by decide +kernel
theorem dX4_gap_48 : decode cX4_gap 48 = .ok (.iload_n 1, 1) := by decide +kernel
theorem dX4_gap_49 : decode cX4_gap 49 = .ok (.isub, 1) := by decide +kernel
theorem dX4_gap_50 : decode cX4_gap 50 = .ok (.iconst 1, 1) := by decide +kernel
theorem dX4_gap_51 : decode cX4_gap 51 = .ok (.iadd, 1) := by decide +kernel
theorem dX4_gap_52 : decode cX4_gap 52 = .ok (.ireturn, 1) := by decide +kernel
theorem dX4_gap_53 : decode cX4_gap 53 = .ok (.iinc 3 1, 3) := by decide +kernel
theorem dX4_gap_56 : decode cX4_gap 56 = .ok (.goto (-36), 3) := by decide +kernel
theorem dX4_gap_59 : decode cX4_gap 59 = .ok (.iconst (-1), 1) := by decide +kernel
theorem dX4_gap_60 : decode cX4_gap 60 = .ok (.ireturn, 1) := by decide +kernel
set_option maxRecDepth 20000 in
theorem ggX4_plug_X4_isLamp : GoodIn wsX4_plug wsX4_isLamp := goodIn_r _ [6, 7, 8, 9, 5, 10, 16, 17, 18, 19, 20, 21, 22, 23, 24, 25, 26, 27, 28, 29, 30, 31, 32, 33, 34, 35, 36, 37, 38, 39, 40, 41, 42, 43] (by decide +kernel) (by decide +kernel)
set_option maxRecDepth 20000 in
theorem gX4_plug_X4_isLamp : GoodIn wsX4_plug (wsV RX4 107 RX4 yX4_isLamp wsX4_isLamp) := goodIn_app (goodIn_of _ (by decide +kernel)) ggX4_plug_X4_isLamp
set_option maxRecDepth 20000 in
theorem ggX4_plug_X4_isIn : GoodIn wsX4_plug wsX4_isIn := goodIn_r _ [10] (by decide +kernel) (by decide +kernel)
set_option maxRecDepth 20000 in
theorem gX4_plug_X4_isIn : GoodIn wsX4_plug (va_wsS RX4 81 yX4_isIn wsX4_isIn) := goodIn_app (goodIn_of _ (by decide +kernel)) ggX4_plug_X4_isIn
set_option maxRecDepth 20000 in
theorem ggX4_plug_X4_may : GoodIn wsX4_plug wsX4_may := goodIn_r _ [14, 15, 16, 17, 18, 19, 20, 21, 22, 23, 24, 25, 26, 27, 28, 29, 30, 31, 32, 33, 34, 35, 36, 37, 38, 39, 40, 41, 42, 43] (by decide +kernel) (by decide +kernel)
set_option maxRecDepth 20000 in
theorem gX4_plug_X4_may : GoodIn wsX4_plug (wsV RX4 117 RX4 yX4_may wsX4_may) := goodIn_app (goodIn_of _ (by decide +kernel)) ggX4_plug_X4_may
theorem dX4_plug_0 : decode cX4_plug 0 = .ok (.aload_n 0, 1) := by decide +kernel
theorem dX4_plug_1 : decode cX4_plug 1 = .ok (.aload_n 0, 1) := by decide +kernel
theorem dX4_plug_2 : decode cX4_plug 2 = .ok (.iload_n 1, 1) := by decide +kernel
theorem dX4_plug_3 : decode cX4_plug 3 = .ok (.invokevirtual 107, 3) := by decide +kernel
theorem dX4_plug_6 : decode cX4_plug 6 = .ok (.ifCond .eq 16, 3) := by decide +kernel
theorem dX4_plug_9 : decode cX4_plug 9 = .ok (.iload_n 2, 1) := by decide +kernel
theorem dX4_plug_10 : decode cX4_plug 10 = .ok (.iconst (-1), 1) := by decide +kernel
theorem dX4_plug_11 : decode cX4_plug 11 = .ok (.iconst 3, 1) := by decide +kernel
theorem dX4_plug_12 : decode cX4_plug 12 = .ok (.invokestatic 81, 3) := by decide +kernel
theorem dX4_plug_15 : decode cX4_plug 15 = .ok (.ifCond .eq 7, 3) := by decide +kernel
theorem dX4_plug_18 : decode cX4_plug 18 = .ok (.iconst 1, 1) := by decide +kernel
theorem dX4_plug_19 : decode cX4_plug 19 = .ok (.goto 4, 3) := by decide +kernel
theorem dX4_plug_22 : decode cX4_plug 22 = .ok (.iconst 0, 1) := by decide +kernel
theorem dX4_plug_23 : decode cX4_plug 23 = .ok (.invokevirtual 117, 3) := by decide +kernel
theorem dX4_plug_26 : decode cX4_plug 26 = .ok (.ifCond .ne 5, 3) := by decide +kernel
theorem dX4_plug_29 : decode cX4_plug 29 = .ok (.iconst 0, 1) := by decide +kernel
theorem dX4_plug_30 : decode cX4_plug 30 = .ok (.ireturn, 1) := by decide +kernel
theorem dX4_plug_31 : decode cX4_plug 31 = .ok (.aload_n 0, 1) := by decide +kernel
theorem dX4_plug_32 : decode cX4_plug 32 = .ok (.getfield 34, 3) := by decide +kernel
theorem dX4_plug_35 : decode cX4_plug 35 = .ok (.iload_n 1, 1) := by decide +kernel
theorem dX4_plug_36 : decode cX4_plug 36 = .ok (.iaload, 1) := by decide +kernel
theorem dX4_plug_37 : decode cX4_plug 37 = .ok (.istore_n 3, 1) := by decide +kernel
theorem dX4_plug_38 : decode cX4_plug 38 = .ok (.aload_n 0, 1) := by decide +kernel
theorem dX4_plug_39 : decode cX4_plug 39 = .ok (.getfield 34, 3) := by decide +kernel
theorem dX4_plug_42 : decode cX4_plug 42 = .ok (.iload_n 1, 1) := by decide +kernel
theorem dX4_plug_43 : decode cX4_plug 43 = .ok (.iload_n 2, 1) := by decide +kernel
theorem dX4_plug_44 : decode cX4_plug 44 = .ok (.iastore, 1) := by decide +kernel
theorem dX4_plug_45 : decode cX4_plug 45 = .ok (.iload_n 3, 1) := by decide +kernel
theorem dX4_plug_46 : decode cX4_plug 46 = .ok (.ireturn, 1) := by decide +kernel
set_option maxRecDepth 20000 in
theorem ggX4_load_X4_isIn : GoodIn wsX4_load wsX4_isIn := goodIn_r _ [7] (by decide +kernel) (by decide +kernel)
set_option maxRecDepth 20000 in
theorem gX4_load_X4_isIn : GoodIn wsX4_load (va_wsS RX4 81 yX4_isIn wsX4_isIn) := goodIn_app (goodIn_of _ (by decide +kernel)) ggX4_load_X4_isIn
set_option maxRecDepth 20000 in
theorem ggX4_load_X4_may : GoodIn wsX4_load wsX4_may := goodIn_r _ [11, 12, 35, 36, 37, 38, 39, 40, 41, 42, 43, 44, 45, 46, 47, 48, 49, 50, 51, 52, 53, 54, 55, 56, 57, 58, 59, 60, 61, 62] (by decide +kernel) (by decide +kernel)
set_option maxRecDepth 20000 in
theorem gX4_load_X4_may : GoodIn wsX4_load (wsV RX4 117 RX4 yX4_may wsX4_may) := goodIn_app (goodIn_of _ (by decide +kernel)) ggX4_load_X4_may
set_option maxRecDepth 20000 in
theorem ggX4_load_X4_draws : GoodIn wsX4_load wsX4_draws := goodIn_r _ [15] (by decide +kernel) (by decide +kernel)
set_option maxRecDepth 20000 in
theorem gX4_load_X4_draws : GoodIn wsX4_load (va_wsS RX4 130 yX4_draws wsX4_draws) := goodIn_app (goodIn_of _ (by decide +kernel)) ggX4_load_X4_draws
set_option maxRecDepth 20000 in
theorem ggX4_load_X4_levelOf : GoodIn wsX4_load wsX4_levelOf := goodIn_r _ [19, 20, 21, 22, 23, 24, 6, 25, 26, 27, 28, 29, 30, 31, 32, 33, 34, 35, 36, 37, 38, 39, 40, 41, 42, 43, 44, 45, 46, 47, 48, 49, 50, 51, 52, 53, 54, 55, 56, 57, 58, 59, 60, 61, 62] (by decide +kernel) (by decide +kernel)
set_option maxRecDepth 20000 in
theorem gX4_load_X4_levelOf : GoodIn wsX4_load (wsV RX4 133 RX4 yX4_levelOf wsX4_levelOf) := goodIn_app (goodIn_of _ (by decide +kernel)) ggX4_load_X4_levelOf
theorem dX4_load_0 : decode cX4_load 0 = .ok (.aload_n 0, 1) := by decide +kernel
theorem dX4_load_1 : decode cX4_load 1 = .ok (.iload_n 1, 1) := by decide +kernel
theorem dX4_load_2 : decode cX4_load 2 = .ok (.iconst 0, 1) := by decide +kernel
theorem dX4_load_3 : decode cX4_load 3 = .ok (.iconst 3, 1) := by decide +kernel
theorem dX4_load_4 : decode cX4_load 4 = .ok (.invokestatic 81, 3) := by decide +kernel
theorem dX4_load_7 : decode cX4_load 7 = .ok (.invokevirtual 117, 3) := by decide +kernel
theorem dX4_load_10 : decode cX4_load 10 = .ok (.ifCond .ne 5, 3) := by decide +kernel
theorem dX4_load_13 : decode cX4_load 13 = .ok (.iconst 0, 1) := by decide +kernel
theorem dX4_load_14 : decode cX4_load 14 = .ok (.ireturn, 1) := by decide +kernel
theorem dX4_load_15 : decode cX4_load 15 = .ok (.iconst 0, 1) := by decide +kernel
theorem dX4_load_16 : decode cX4_load 16 = .ok (.istore_n 2, 1) := by decide +kernel
theorem dX4_load_17 : decode cX4_load 17 = .ok (.iconst 0, 1) := by decide +kernel
theorem dX4_load_18 : decode cX4_load 18 = .ok (.istore_n 3, 1) := by decide +kernel
theorem dX4_load_19 : decode cX4_load 19 = .ok (.iload_n 3, 1) := by decide +kernel
theorem dX4_load_20 : decode cX4_load 20 = .ok (.aload_n 0, 1) := by decide +kernel
theorem dX4_load_21 : decode cX4_load 21 = .ok (.getfield 78, 3) := by decide +kernel
theorem dX4_load_24 : decode cX4_load 24 = .ok (.if_icmp .ge 44, 3) := by decide +kernel
theorem dX4_load_27 : decode cX4_load 27 = .ok (.iload_n 2, 1) := by decide +kernel
theorem dX4_load_28 : decode cX4_load 28 = .ok (.aload_n 0, 1) := by decide +kernel
theorem dX4_load_29 : decode cX4_load 29 = .ok (.getfield 34, 3) := by decide +kernel
theorem dX4_load_32 : decode cX4_load 32 = .ok (.iload_n 3, 1) := by decide +kernel
theorem dX4_load_33 : decode cX4_load 33 = .ok (.iaload, 1) := by decide +kernel
theorem dX4_load_34 : decode cX4_load 34 = .ok (.iload_n 1, 1) := by decide +kernel
theorem dX4_load_35 : decode cX4_load 35 = .ok (.if_icmp .ne 24, 3) := by decide +kernel
theorem dX4_load_38 : decode cX4_load 38 = .ok (.aload_n 0, 1) := by decide +kernel
theorem dX4_load_39 : decode cX4_load 39 = .ok (.getfield 19, 3) := by decide +kernel
theorem dX4_load_42 : decode cX4_load 42 = .ok (.iload_n 3, 1) := by decide +kernel
theorem dX4_load_43 : decode cX4_load 43 = .ok (.iaload, 1) := by decide +kernel
theorem dX4_load_44 : decode cX4_load 44 = .ok (.invokestatic 130, 3) := by decide +kernel
theorem dX4_load_47 : decode cX4_load 47 = .ok (.aload_n 0, 1) := by decide +kernel
theorem dX4_load_48 : decode cX4_load 48 = .ok (.iload_n 3, 1) := by decide +kernel
theorem dX4_load_49 : decode cX4_load 49 = .ok (.invokevirtual 133, 3) := by decide +kernel
theorem dX4_load_52 : decode cX4_load 52 = .ok (.imul, 1) := by decide +kernel
theorem dX4_load_53 : decode cX4_load 53 = .ok (.bipush 100, 2) := by decide +kernel
theorem dX4_load_55 : decode cX4_load 55 = .ok (.idiv, 1) := by decide +kernel
theorem dX4_load_56 : decode cX4_load 56 = .ok (.goto 4, 3) := by decide +kernel
theorem dX4_load_59 : decode cX4_load 59 = .ok (.iconst 0, 1) := by decide +kernel
theorem dX4_load_60 : decode cX4_load 60 = .ok (.iadd, 1) := by decide +kernel
theorem dX4_load_61 : decode cX4_load 61 = .ok (.istore_n 2, 1) := by decide +kernel
theorem dX4_load_62 : decode cX4_load 62 = .ok (.iinc 3 1, 3) := by decide +kernel
theorem dX4_load_65 : decode cX4_load 65 = .ok (.goto (-46), 3) := by decide +kernel
theorem dX4_load_68 : decode cX4_load 68 = .ok (.iload_n 2, 1) := by decide +kernel
theorem dX4_load_69 : decode cX4_load 69 = .ok (.ireturn, 1) := by decide +kernel
set_option maxRecDepth 20000 in
theorem ggX4_cue_X4_isIn : GoodIn wsX4_cue wsX4_isIn := goodIn_r _ [8] (by decide +kernel) (by decide +kernel)
set_option maxRecDepth 20000 in
theorem gX4_cue_X4_isIn : GoodIn wsX4_cue (va_wsS RX4 81 yX4_isIn wsX4_isIn) := goodIn_app (goodIn_of _ (by decide +kernel)) ggX4_cue_X4_isIn
set_option maxRecDepth 20000 in
theorem ggX4_cue_X4_mayBoth : GoodIn wsX4_cue wsX4_mayBoth := goodIn_r _ [12, 13, 14, 15, 16, 17, 18, 19, 20, 21, 22, 23, 24, 25, 26, 27, 28, 29, 30, 31, 32, 33, 34, 35, 36, 37, 38, 39, 40, 41] (by decide +kernel) (by decide +kernel)
set_option maxRecDepth 20000 in
theorem gX4_cue_X4_mayBoth : GoodIn wsX4_cue (wsV RX4 95 RX4 yX4_mayBoth wsX4_mayBoth) := goodIn_app (goodIn_of _ (by decide +kernel)) ggX4_cue_X4_mayBoth
theorem dX4_cue_0 : decode cX4_cue 0 = .ok (.aload_n 0, 1) := by decide +kernel
theorem dX4_cue_1 : decode cX4_cue 1 = .ok (.iload_n 1, 1) := by decide +kernel
theorem dX4_cue_2 : decode cX4_cue 2 = .ok (.iconst 0, 1) := by decide +kernel
theorem dX4_cue_3 : decode cX4_cue 3 = .ok (.bipush 50, 2) := by decide +kernel
theorem dX4_cue_5 : decode cX4_cue 5 = .ok (.invokestatic 81, 3) := by decide +kernel
theorem dX4_cue_8 : decode cX4_cue 8 = .ok (.ifCond .eq 26, 3) := by decide +kernel
theorem dX4_cue_11 : decode cX4_cue 11 = .ok (.iload_n 2, 1) := by decide +kernel
theorem dX4_cue_12 : decode cX4_cue 12 = .ok (.iconst 0, 1) := by decide +kernel
theorem dX4_cue_13 : decode cX4_cue 13 = .ok (.iconst 2, 1) := by decide +kernel
theorem dX4_cue_14 : decode cX4_cue 14 = .ok (.invokestatic 81, 3) := by decide +kernel
theorem dX4_cue_17 : decode cX4_cue 17 = .ok (.ifCond .eq 17, 3) := by decide +kernel
theorem dX4_cue_20 : decode cX4_cue 20 = .ok (.iload_n 3, 1) := by decide +kernel
theorem dX4_cue_21 : decode cX4_cue 21 = .ok (.iconst (-1), 1) := by decide +kernel
theorem dX4_cue_22 : decode cX4_cue 22 = .ok (.bipush 50, 2) := by decide +kernel
theorem dX4_cue_24 : decode cX4_cue 24 = .ok (.invokestatic 81, 3) := by decide +kernel
theorem dX4_cue_27 : decode cX4_cue 27 = .ok (.ifCond .eq 7, 3) := by decide +kernel
theorem dX4_cue_30 : decode cX4_cue 30 = .ok (.iconst 1, 1) := by decide +kernel
theorem dX4_cue_31 : decode cX4_cue 31 = .ok (.goto 4, 3) := by decide +kernel
theorem dX4_cue_34 : decode cX4_cue 34 = .ok (.iconst 0, 1) := by decide +kernel
theorem dX4_cue_35 : decode cX4_cue 35 = .ok (.aload_n 0, 1) := by decide +kernel
theorem dX4_cue_36 : decode cX4_cue 36 = .ok (.getfield 88, 3) := by decide +kernel
theorem dX4_cue_39 : decode cX4_cue 39 = .ok (.bipush 8, 2) := by decide +kernel
theorem dX4_cue_41 : decode cX4_cue 41 = .ok (.if_icmp .ge 7, 3) := by decide +kernel
theorem dX4_cue_44 : decode cX4_cue 44 = .ok (.iconst 1, 1) := by decide +kernel
theorem dX4_cue_45 : decode cX4_cue 45 = .ok (.goto 4, 3) := by decide +kernel
theorem dX4_cue_48 : decode cX4_cue 48 = .ok (.iconst 0, 1) := by decide +kernel
theorem dX4_cue_49 : decode cX4_cue 49 = .ok (.invokevirtual 95, 3) := by decide +kernel
theorem dX4_cue_52 : decode cX4_cue 52 = .ok (.ifCond .ne 5, 3) := by decide +kernel
theorem dX4_cue_55 : decode cX4_cue 55 = .ok (.iconst 0, 1) := by decide +kernel
theorem dX4_cue_56 : decode cX4_cue 56 = .ok (.ireturn, 1) := by decide +kernel
theorem dX4_cue_57 : decode cX4_cue 57 = .ok (.aload_n 0, 1) := by decide +kernel
theorem dX4_cue_58 : decode cX4_cue 58 = .ok (.getfield 59, 3) := by decide +kernel
theorem dX4_cue_61 : decode cX4_cue 61 = .ok (.aload_n 0, 1) := by decide +kernel
theorem dX4_cue_62 : decode cX4_cue 62 = .ok (.getfield 88, 3) := by decide +kernel
theorem dX4_cue_65 : decode cX4_cue 65 = .ok (.iload_n 1, 1) := by decide +kernel
theorem dX4_cue_66 : decode cX4_cue 66 = .ok (.iastore, 1) := by decide +kernel
theorem dX4_cue_67 : decode cX4_cue 67 = .ok (.aload_n 0, 1) := by decide +kernel
theorem dX4_cue_68 : decode cX4_cue 68 = .ok (.getfield 62, 3) := by decide +kernel
theorem dX4_cue_71 : decode cX4_cue 71 = .ok (.aload_n 0, 1) := by decide +kernel
theorem dX4_cue_72 : decode cX4_cue 72 = .ok (.getfield 88, 3) := by decide +kernel
theorem dX4_cue_75 : decode cX4_cue 75 = .ok (.iload_n 2, 1) := by decide +kernel
theorem dX4_cue_76 : decode cX4_cue 76 = .ok (.iastore, 1) := by decide +kernel
theorem dX4_cue_77 : decode cX4_cue 77 = .ok (.aload_n 0, 1) := by decide +kernel
theorem dX4_cue_78 : decode cX4_cue 78 = .ok (.getfield 65, 3) := by decide +kernel
theorem dX4_cue_81 : decode cX4_cue 81 = .ok (.aload_n 0, 1) := by decide +kernel
theorem dX4_cue_82 : decode cX4_cue 82 = .ok (.getfield 88, 3) := by decide +kernel
theorem dX4_cue_85 : decode cX4_cue 85 = .ok (.iload_n 3, 1) := by decide +kernel
theorem dX4_cue_86 : decode cX4_cue 86 = .ok (.iastore, 1) := by decide +kernel
theorem dX4_cue_87 : decode cX4_cue 87 = .ok (.aload_n 0, 1) := by decide +kernel
theorem dX4_cue_88 : decode cX4_cue 88 = .ok (.dup, 1) := by decide +kernel
theorem dX4_cue_89 : decode cX4_cue 89 = .ok (.getfield 88, 3) := by decide +kernel
theorem dX4_cue_92 : decode cX4_cue 92 = .ok (.iconst 1, 1) := by decide +kernel
theorem dX4_cue_93 : decode cX4_cue 93 = .ok (.iadd, 1) := by decide +kernel
theorem dX4_cue_94 : decode cX4_cue 94 = .ok (.putfield 88, 3) := by decide +kernel
theorem dX4_cue_97 : decode cX4_cue 97 = .ok (.aload_n 0, 1) := by decide +kernel
theorem dX4_cue_98 : decode cX4_cue 98 = .ok (.getfield 88, 3) := by decide +kernel
theorem dX4_cue_101 : decode cX4_cue 101 = .ok (.iconst 1, 1) := by decide +kernel
theorem dX4_cue_102 : decode cX4_cue 102 = .ok (.isub, 1) := by decide +kernel
theorem dX4_cue_103 : decode cX4_cue 103 = .ok (.ireturn, 1) := by decide +kernel
set_option maxRecDepth 20000 in
theorem ggX4_name_X4_isCue : GoodIn wsX4_name wsX4_isCue := goodIn_r _ [6, 7, 8, 9, 5, 10, 21, 22, 23, 24, 25, 26, 27, 28, 29, 30, 31, 32, 33, 34, 35, 36, 37, 38, 39, 40, 41, 42, 43, 44, 45, 46, 47, 48] (by decide +kernel) (by decide +kernel)
set_option maxRecDepth 20000 in
theorem gX4_name_X4_isCue : GoodIn wsX4_name (wsV RX4 136 RX4 yX4_isCue wsX4_isCue) := goodIn_app (goodIn_of _ (by decide +kernel)) ggX4_name_X4_isCue
set_option maxRecDepth 20000 in
theorem ggX4_name_X4_isLamp : GoodIn wsX4_name wsX4_isLamp := goodIn_r _ [14, 15, 8, 9, 5, 10, 21, 22, 23, 24, 25, 26, 27, 28, 29, 30, 31, 32, 33, 34, 35, 36, 37, 38, 39, 40, 41, 42, 43, 44, 45, 46, 47, 48] (by decide +kernel) (by decide +kernel)
set_option maxRecDepth 20000 in
theorem gX4_name_X4_isLamp : GoodIn wsX4_name (wsV RX4 107 RX4 yX4_isLamp wsX4_isLamp) := goodIn_app (goodIn_of _ (by decide +kernel)) ggX4_name_X4_isLamp
set_option maxRecDepth 20000 in
theorem ggX4_name_X4_isIn : GoodIn wsX4_name wsX4_isIn := goodIn_r _ [10] (by decide +kernel) (by decide +kernel)
set_option maxRecDepth 20000 in
theorem gX4_name_X4_isIn : GoodIn wsX4_name (va_wsS RX4 81 yX4_isIn wsX4_isIn) := goodIn_app (goodIn_of _ (by decide +kernel)) ggX4_name_X4_isIn
set_option maxRecDepth 20000 in
theorem ggX4_name_X4_mayBoth : GoodIn wsX4_name wsX4_mayBoth := goodIn_r _ [19, 20, 21, 22, 23, 24, 25, 26, 27, 28, 29, 30, 31, 32, 33, 34, 35, 36, 37, 38, 39, 40, 41, 42, 43, 44, 45, 46, 47, 48] (by decide +kernel) (by decide +kernel)
set_option maxRecDepth 20000 in
theorem gX4_name_X4_mayBoth : GoodIn wsX4_name (wsV RX4 95 RX4 yX4_mayBoth wsX4_mayBoth) := goodIn_app (goodIn_of _ (by decide +kernel)) ggX4_name_X4_mayBoth
theorem dX4_name_0 : decode cX4_name 0 = .ok (.aload_n 0, 1) := by decide +kernel
theorem dX4_name_1 : decode cX4_name 1 = .ok (.aload_n 0, 1) := by decide +kernel
theorem dX4_name_2 : decode cX4_name 2 = .ok (.iload_n 1, 1) := by decide +kernel
theorem dX4_name_3 : decode cX4_name 3 = .ok (.invokevirtual 136, 3) := by decide +kernel
theorem dX4_name_6 : decode cX4_name 6 = .ok (.ifCond .eq 15, 3) := by decide +kernel
theorem dX4_name_9 : decode cX4_name 9 = .ok (.aload_n 0, 1) := by decide +kernel
theorem dX4_name_10 : decode cX4_name 10 = .ok (.iload_n 2, 1) := by decide +kernel
theorem dX4_name_11 : decode cX4_name 11 = .ok (.invokevirtual 107, 3) := by decide +kernel
theorem dX4_name_14 : decode cX4_name 14 = .ok (.ifCond .eq 7, 3) := by decide +kernel
theorem dX4_name_17 : decode cX4_name 17 = .ok (.iconst 1, 1) := by decide +kernel
theorem dX4_name_18 : decode cX4_name 18 = .ok (.goto 4, 3) := by decide +kernel
theorem dX4_name_21 : decode cX4_name 21 = .ok (.iconst 0, 1) := by decide +kernel
theorem dX4_name_22 : decode cX4_name 22 = .ok (.iload_n 3, 1) := by decide +kernel
theorem dX4_name_23 : decode cX4_name 23 = .ok (.iconst (-1), 1) := by decide +kernel
theorem dX4_name_24 : decode cX4_name 24 = .ok (.bipush 100, 2) := by decide +kernel
theorem dX4_name_26 : decode cX4_name 26 = .ok (.invokestatic 81, 3) := by decide +kernel
theorem dX4_name_29 : decode cX4_name 29 = .ok (.invokevirtual 95, 3) := by decide +kernel
theorem dX4_name_32 : decode cX4_name 32 = .ok (.ifCond .ne 5, 3) := by decide +kernel
theorem dX4_name_35 : decode cX4_name 35 = .ok (.iconst 0, 1) := by decide +kernel
theorem dX4_name_36 : decode cX4_name 36 = .ok (.ireturn, 1) := by decide +kernel
theorem dX4_name_37 : decode cX4_name 37 = .ok (.aload_n 0, 1) := by decide +kernel
theorem dX4_name_38 : decode cX4_name 38 = .ok (.getfield 68, 3) := by decide +kernel
theorem dX4_name_41 : decode cX4_name 41 = .ok (.bipush 10, 2) := by decide +kernel
theorem dX4_name_43 : decode cX4_name 43 = .ok (.iload_n 1, 1) := by decide +kernel
theorem dX4_name_44 : decode cX4_name 44 = .ok (.imul, 1) := by decide +kernel
theorem dX4_name_45 : decode cX4_name 45 = .ok (.iload_n 2, 1) := by decide +kernel
theorem dX4_name_46 : decode cX4_name 46 = .ok (.iadd, 1) := by decide +kernel
theorem dX4_name_47 : decode cX4_name 47 = .ok (.iaload, 1) := by decide +kernel
theorem dX4_name_48 : decode cX4_name 48 = .ok (.istore 4, 2) := by decide +kernel
theorem dX4_name_50 : decode cX4_name 50 = .ok (.aload_n 0, 1) := by decide +kernel
theorem dX4_name_51 : decode cX4_name 51 = .ok (.getfield 68, 3) := by decide +kernel
theorem dX4_name_54 : decode cX4_name 54 = .ok (.bipush 10, 2) := by decide +kernel
theorem dX4_name_56 : decode cX4_name 56 = .ok (.iload_n 1, 1) := by decide +kernel
theorem dX4_name_57 : decode cX4_name 57 = .ok (.imul, 1) := by decide +kernel
theorem dX4_name_58 : decode cX4_name 58 = .ok (.iload_n 2, 1) := by decide +kernel
theorem dX4_name_59 : decode cX4_name 59 = .ok (.iadd, 1) := by decide +kernel
theorem dX4_name_60 : decode cX4_name 60 = .ok (.iload_n 3, 1) := by decide +kernel
theorem dX4_name_61 : decode cX4_name 61 = .ok (.iastore, 1) := by decide +kernel
theorem dX4_name_62 : decode cX4_name 62 = .ok (.iload 4, 2) := by decide +kernel
theorem dX4_name_64 : decode cX4_name 64 = .ok (.ireturn, 1) := by decide +kernel
theorem dX4_quotient_0 : decode cX4_quotient 0 = .ok (.iload_n 0, 1) := by decide +kernel
theorem dX4_quotient_1 : decode cX4_quotient 1 = .ok (.iload_n 1, 1) := by decide +kernel
theorem dX4_quotient_2 : decode cX4_quotient 2 = .ok (.idiv, 1) := by decide +kernel
theorem dX4_quotient_3 : decode cX4_quotient 3 = .ok (.istore_n 2, 1) := by decide +kernel
theorem dX4_quotient_4 : decode cX4_quotient 4 = .ok (.iload_n 2, 1) := by decide +kernel
theorem dX4_quotient_5 : decode cX4_quotient 5 = .ok (.iload_n 1, 1) := by decide +kernel
theorem dX4_quotient_6 : decode cX4_quotient 6 = .ok (.imul, 1) := by decide +kernel
theorem dX4_quotient_7 : decode cX4_quotient 7 = .ok (.iload_n 0, 1) := by decide +kernel
theorem dX4_quotient_8 : decode cX4_quotient 8 = .ok (.if_icmp .le 9, 3) := by decide +kernel
theorem dX4_quotient_11 : decode cX4_quotient 11 = .ok (.iload_n 2, 1) := by decide +kernel
theorem dX4_quotient_12 : decode cX4_quotient 12 = .ok (.iconst 1, 1) := by decide +kernel
theorem dX4_quotient_13 : decode cX4_quotient 13 = .ok (.isub, 1) := by decide +kernel
theorem dX4_quotient_14 : decode cX4_quotient 14 = .ok (.goto 4, 3) := by decide +kernel
theorem dX4_quotient_17 : decode cX4_quotient 17 = .ok (.iload_n 2, 1) := by decide +kernel
theorem dX4_quotient_18 : decode cX4_quotient 18 = .ok (.ireturn, 1) := by decide +kernel
set_option maxRecDepth 20000 in
theorem ggX4_wantedOf_X4_quotient : GoodIn wsX4_wantedOf wsX4_quotient := goodIn_r _ [10] (by decide +kernel) (by decide +kernel)
set_option maxRecDepth 20000 in
theorem gX4_wantedOf_X4_quotient : GoodIn wsX4_wantedOf (va_wsS RX4 142 yX4_quotient wsX4_quotient) := goodIn_app (goodIn_of _ (by decide +kernel)) ggX4_wantedOf_X4_quotient
theorem dX4_wantedOf_0 : decode cX4_wantedOf 0 = .ok (.aload_n 0, 1) := by decide +kernel
theorem dX4_wantedOf_1 : decode cX4_wantedOf 1 = .ok (.getfield 139, 3) := by decide +kernel
theorem dX4_wantedOf_4 : decode cX4_wantedOf 4 = .ok (.aload_n 0, 1) := by decide +kernel
theorem dX4_wantedOf_5 : decode cX4_wantedOf 5 = .ok (.getfield 50, 3) := by decide +kernel
theorem dX4_wantedOf_8 : decode cX4_wantedOf 8 = .ok (.iload_n 1, 1) := by decide +kernel
theorem dX4_wantedOf_9 : decode cX4_wantedOf 9 = .ok (.iaload, 1) := by decide +kernel
theorem dX4_wantedOf_10 : decode cX4_wantedOf 10 = .ok (.isub, 1) := by decide +kernel
theorem dX4_wantedOf_11 : decode cX4_wantedOf 11 = .ok (.istore_n 2, 1) := by decide +kernel
theorem dX4_wantedOf_12 : decode cX4_wantedOf 12 = .ok (.aload_n 0, 1) := by decide +kernel
theorem dX4_wantedOf_13 : decode cX4_wantedOf 13 = .ok (.getfield 53, 3) := by decide +kernel
theorem dX4_wantedOf_16 : decode cX4_wantedOf 16 = .ok (.iload_n 1, 1) := by decide +kernel
theorem dX4_wantedOf_17 : decode cX4_wantedOf 17 = .ok (.iaload, 1) := by decide +kernel
theorem dX4_wantedOf_18 : decode cX4_wantedOf 18 = .ok (.istore_n 3, 1) := by decide +kernel
theorem dX4_wantedOf_19 : decode cX4_wantedOf 19 = .ok (.iload_n 2, 1) := by decide +kernel
theorem dX4_wantedOf_20 : decode cX4_wantedOf 20 = .ok (.iload_n 3, 1) := by decide +kernel
theorem dX4_wantedOf_21 : decode cX4_wantedOf 21 = .ok (.if_icmp .lt 10, 3) := by decide +kernel
theorem dX4_wantedOf_24 : decode cX4_wantedOf 24 = .ok (.aload_n 0, 1) := by decide +kernel
theorem dX4_wantedOf_25 : decode cX4_wantedOf 25 = .ok (.getfield 47, 3) := by decide +kernel
theorem dX4_wantedOf_28 : decode cX4_wantedOf 28 = .ok (.iload_n 1, 1) := by decide +kernel
theorem dX4_wantedOf_29 : decode cX4_wantedOf 29 = .ok (.iaload, 1) := by decide +kernel
theorem dX4_wantedOf_30 : decode cX4_wantedOf 30 = .ok (.ireturn, 1) := by decide +kernel
theorem dX4_wantedOf_31 : decode cX4_wantedOf 31 = .ok (.aload_n 0, 1) := by decide +kernel
theorem dX4_wantedOf_32 : decode cX4_wantedOf 32 = .ok (.getfield 47, 3) := by decide +kernel
theorem dX4_wantedOf_35 : decode cX4_wantedOf 35 = .ok (.iload_n 1, 1) := by decide +kernel
theorem dX4_wantedOf_36 : decode cX4_wantedOf 36 = .ok (.iaload, 1) := by decide +kernel
theorem dX4_wantedOf_37 : decode cX4_wantedOf 37 = .ok (.aload_n 0, 1) := by decide +kernel
theorem dX4_wantedOf_38 : decode cX4_wantedOf 38 = .ok (.getfield 44, 3) := by decide +kernel
theorem dX4_wantedOf_41 : decode cX4_wantedOf 41 = .ok (.iload_n 1, 1) := by decide +kernel
theorem dX4_wantedOf_42 : decode cX4_wantedOf 42 = .ok (.iaload, 1) := by decide +kernel
theorem dX4_wantedOf_43 : decode cX4_wantedOf 43 = .ok (.isub, 1) := by decide +kernel
theorem dX4_wantedOf_44 : decode cX4_wantedOf 44 = .ok (.istore 4, 2) := by decide +kernel
theorem dX4_wantedOf_46 : decode cX4_wantedOf 46 = .ok (.aload_n 0, 1) := by decide +kernel
theorem dX4_wantedOf_47 : decode cX4_wantedOf 47 = .ok (.getfield 56, 3) := by decide +kernel
theorem dX4_wantedOf_50 : decode cX4_wantedOf 50 = .ok (.iload_n 1, 1) := by decide +kernel
theorem dX4_wantedOf_51 : decode cX4_wantedOf 51 = .ok (.iaload, 1) := by decide +kernel
theorem dX4_wantedOf_52 : decode cX4_wantedOf 52 = .ok (.ifCond .ne 19, 3) := by decide +kernel
theorem dX4_wantedOf_55 : decode cX4_wantedOf 55 = .ok (.aload_n 0, 1) := by decide +kernel
theorem dX4_wantedOf_56 : decode cX4_wantedOf 56 = .ok (.getfield 44, 3) := by decide +kernel
theorem dX4_wantedOf_59 : decode cX4_wantedOf 59 = .ok (.iload_n 1, 1) := by decide +kernel
theorem dX4_wantedOf_60 : decode cX4_wantedOf 60 = .ok (.iaload, 1) := by decide +kernel
theorem dX4_wantedOf_61 : decode cX4_wantedOf 61 = .ok (.iload 4, 2) := by decide +kernel
theorem dX4_wantedOf_63 : decode cX4_wantedOf 63 = .ok (.iload_n 2, 1) := by decide +kernel
theorem dX4_wantedOf_64 : decode cX4_wantedOf 64 = .ok (.imul, 1) := by decide +kernel
theorem dX4_wantedOf_65 : decode cX4_wantedOf 65 = .ok (.iload_n 3, 1) := by decide +kernel
theorem dX4_wantedOf_66 : decode cX4_wantedOf 66 = .ok (.invokestatic 142, 3) := by decide +kernel
theorem dX4_wantedOf_69 : decode cX4_wantedOf 69 = .ok (.iadd, 1) := by decide +kernel
theorem dX4_wantedOf_70 : decode cX4_wantedOf 70 = .ok (.ireturn, 1) := by decide +kernel
theorem dX4_wantedOf_71 : decode cX4_wantedOf 71 = .ok (.aload_n 0, 1) := by decide +kernel
theorem dX4_wantedOf_72 : decode cX4_wantedOf 72 = .ok (.getfield 56, 3) := by decide +kernel
theorem dX4_wantedOf_75 : decode cX4_wantedOf 75 = .ok (.iload_n 1, 1) := by decide +kernel
theorem dX4_wantedOf_76 : decode cX4_wantedOf 76 = .ok (.iaload, 1) := by decide +kernel
theorem dX4_wantedOf_77 : decode cX4_wantedOf 77 = .ok (.iconst 1, 1) := by decide +kernel
theorem dX4_wantedOf_78 : decode cX4_wantedOf 78 = .ok (.if_icmp .ne 25, 3) := by decide +kernel
theorem dX4_wantedOf_81 : decode cX4_wantedOf 81 = .ok (.aload_n 0, 1) := by decide +kernel
theorem dX4_wantedOf_82 : decode cX4_wantedOf 82 = .ok (.getfield 44, 3) := by decide +kernel
theorem dX4_wantedOf_85 : decode cX4_wantedOf 85 = .ok (.iload_n 1, 1) := by decide +kernel
theorem dX4_wantedOf_86 : decode cX4_wantedOf 86 = .ok (.iaload, 1) := by decide +kernel
theorem dX4_wantedOf_87 : decode cX4_wantedOf 87 = .ok (.iload 4, 2) := by decide +kernel
theorem dX4_wantedOf_89 : decode cX4_wantedOf 89 = .ok (.iload_n 2, 1) := by decide +kernel
theorem dX4_wantedOf_90 : decode cX4_wantedOf 90 = .ok (.imul, 1) := by decide +kernel
theorem dX4_wantedOf_91 : decode cX4_wantedOf 91 = .ok (.iload_n 2, 1) := by decide +kernel
theorem dX4_wantedOf_92 : decode cX4_wantedOf 92 = .ok (.imul, 1) := by decide +kernel
theorem dX4_wantedOf_93 : decode cX4_wantedOf 93 = .ok (.iload_n 3, 1) := by decide +kernel
theorem dX4_wantedOf_94 : decode cX4_wantedOf 94 = .ok (.iload_n 3, 1) := by decide +kernel
theorem dX4_wantedOf_95 : decode cX4_wantedOf 95 = .ok (.imul, 1) := by decide +kernel
theorem dX4_wantedOf_96 : decode cX4_wantedOf 96 = .ok (.invokestatic 142, 3) := by decide +kernel
theorem dX4_wantedOf_99 : decode cX4_wantedOf 99 = .ok (.iadd, 1) := by decide +kernel
theorem dX4_wantedOf_100 : decode cX4_wantedOf 100 = .ok (.goto 9, 3) := by decide +kernel
theorem dX4_wantedOf_103 : decode cX4_wantedOf 103 = .ok (.aload_n 0, 1) := by decide +kernel
theorem dX4_wantedOf_104 : decode cX4_wantedOf 104 = .ok (.getfield 44, 3) := by decide +kernel
theorem dX4_wantedOf_107 : decode cX4_wantedOf 107 = .ok (.iload_n 1, 1) := by decide +kernel
theorem dX4_wantedOf_108 : decode cX4_wantedOf 108 = .ok (.iaload, 1) := by decide +kernel
theorem dX4_wantedOf_109 : decode cX4_wantedOf 109 = .ok (.ireturn, 1) := by decide +kernel
set_option maxRecDepth 20000 in
theorem ggX4_begin_X4_wantedOf : GoodIn wsX4_begin wsX4_wantedOf := goodIn_r _ [19, 8, 7, 9, 6, 5, 11, 20, 21, 18, 22, 23, 24, 25, 26, 27, 28, 29, 30, 31, 32, 33, 34, 35, 36, 37, 38, 39, 40, 41, 42, 43, 44, 45, 46, 47, 48, 49, 50] (by decide +kernel) (by decide +kernel)
set_option maxRecDepth 20000 in
theorem gX4_begin_X4_wantedOf : GoodIn wsX4_begin (wsV RX4 148 RX4 yX4_wantedOf wsX4_wantedOf) := goodIn_app (goodIn_of _ (by decide +kernel)) ggX4_begin_X4_wantedOf
theorem dX4_begin_0 : decode cX4_begin 0 = .ok (.iconst 0, 1) := by decide +kernel
theorem dX4_begin_1 : decode cX4_begin 1 = .ok (.istore_n 1, 1) := by decide +kernel
theorem dX4_begin_2 : decode cX4_begin 2 = .ok (.aload_n 0, 1) := by decide +kernel
theorem dX4_begin_3 : decode cX4_begin 3 = .ok (.getfield 145, 3) := by decide +kernel
theorem dX4_begin_6 : decode cX4_begin 6 = .ok (.aload_n 0, 1) := by decide +kernel
theorem dX4_begin_7 : decode cX4_begin 7 = .ok (.getfield 88, 3) := by decide +kernel
theorem dX4_begin_10 : decode cX4_begin 10 = .ok (.if_icmp .ge 7, 3) := by decide +kernel
theorem dX4_begin_13 : decode cX4_begin 13 = .ok (.iconst 1, 1) := by decide +kernel
theorem dX4_begin_14 : decode cX4_begin 14 = .ok (.goto 4, 3) := by decide +kernel
theorem dX4_begin_17 : decode cX4_begin 17 = .ok (.iconst 0, 1) := by decide +kernel
theorem dX4_begin_18 : decode cX4_begin 18 = .ok (.istore_n 2, 1) := by decide +kernel
theorem dX4_begin_19 : decode cX4_begin 19 = .ok (.iload_n 2, 1) := by decide +kernel
theorem dX4_begin_20 : decode cX4_begin 20 = .ok (.ifCond .eq 161, 3) := by decide +kernel
theorem dX4_begin_23 : decode cX4_begin 23 = .ok (.aload_n 0, 1) := by decide +kernel
theorem dX4_begin_24 : decode cX4_begin 24 = .ok (.getfield 145, 3) := by decide +kernel
theorem dX4_begin_27 : decode cX4_begin 27 = .ok (.istore_n 3, 1) := by decide +kernel
theorem dX4_begin_28 : decode cX4_begin 28 = .ok (.iconst 0, 1) := by decide +kernel
theorem dX4_begin_29 : decode cX4_begin 29 = .ok (.istore 4, 2) := by decide +kernel
theorem dX4_begin_31 : decode cX4_begin 31 = .ok (.iload 4, 2) := by decide +kernel
theorem dX4_begin_33 : decode cX4_begin 33 = .ok (.aload_n 0, 1) := by decide +kernel
theorem dX4_begin_34 : decode cX4_begin 34 = .ok (.getfield 78, 3) := by decide +kernel
theorem dX4_begin_37 : decode cX4_begin 37 = .ok (.if_icmp .ge 94, 3) := by decide +kernel
theorem dX4_begin_40 : decode cX4_begin 40 = .ok (.aload_n 0, 1) := by decide +kernel
theorem dX4_begin_41 : decode cX4_begin 41 = .ok (.getfield 68, 3) := by decide +kernel
theorem dX4_begin_44 : decode cX4_begin 44 = .ok (.bipush 10, 2) := by decide +kernel
theorem dX4_begin_46 : decode cX4_begin 46 = .ok (.iload_n 3, 1) := by decide +kernel
theorem dX4_begin_47 : decode cX4_begin 47 = .ok (.imul, 1) := by decide +kernel
theorem dX4_begin_48 : decode cX4_begin 48 = .ok (.iload 4, 2) := by decide +kernel
theorem dX4_begin_50 : decode cX4_begin 50 = .ok (.iadd, 1) := by decide +kernel
theorem dX4_begin_51 : decode cX4_begin 51 = .ok (.iaload, 1) := by decide +kernel
theorem dX4_begin_52 : decode cX4_begin 52 = .ok (.iconst (-1), 1) := by decide +kernel
theorem dX4_begin_53 : decode cX4_begin 53 = .ok (.if_icmp .eq 72, 3) := by decide +kernel
theorem dX4_begin_56 : decode cX4_begin 56 = .ok (.aload_n 0, 1) := by decide +kernel
theorem dX4_begin_57 : decode cX4_begin 57 = .ok (.getfield 44, 3) := by decide +kernel
theorem dX4_begin_60 : decode cX4_begin 60 = .ok (.iload 4, 2) := by decide +kernel
theorem dX4_begin_62 : decode cX4_begin 62 = .ok (.aload_n 0, 1) := by decide +kernel
theorem dX4_begin_63 : decode cX4_begin 63 = .ok (.iload 4, 2) := by decide +kernel
theorem dX4_begin_65 : decode cX4_begin 65 = .ok (.invokevirtual 148, 3) := by decide +kernel
theorem dX4_begin_68 : decode cX4_begin 68 = .ok (.iastore, 1) := by decide +kernel
theorem dX4_begin_69 : decode cX4_begin 69 = .ok (.aload_n 0, 1) := by decide +kernel
theorem dX4_begin_70 : decode cX4_begin 70 = .ok (.getfield 47, 3) := by decide +kernel
theorem dX4_begin_73 : decode cX4_begin 73 = .ok (.iload 4, 2) := by decide +kernel
theorem dX4_begin_75 : decode cX4_begin 75 = .ok (.aload_n 0, 1) := by decide +kernel
theorem dX4_begin_76 : decode cX4_begin 76 = .ok (.getfield 68, 3) := by decide +kernel
theorem dX4_begin_79 : decode cX4_begin 79 = .ok (.bipush 10, 2) := by decide +kernel
theorem dX4_begin_81 : decode cX4_begin 81 = .ok (.iload_n 3, 1) := by decide +kernel
theorem dX4_begin_82 : decode cX4_begin 82 = .ok (.imul, 1) := by decide +kernel
theorem dX4_begin_83 : decode cX4_begin 83 = .ok (.iload 4, 2) := by decide +kernel
theorem dX4_begin_85 : decode cX4_begin 85 = .ok (.iadd, 1) := by decide +kernel
theorem dX4_begin_86 : decode cX4_begin 86 = .ok (.iaload, 1) := by decide +kernel
theorem dX4_begin_87 : decode cX4_begin 87 = .ok (.iastore, 1) := by decide +kernel
theorem dX4_begin_88 : decode cX4_begin 88 = .ok (.aload_n 0, 1) := by decide +kernel
theorem dX4_begin_89 : decode cX4_begin 89 = .ok (.getfield 50, 3) := by decide +kernel
theorem dX4_begin_92 : decode cX4_begin 92 = .ok (.iload 4, 2) := by decide +kernel
theorem dX4_begin_94 : decode cX4_begin 94 = .ok (.aload_n 0, 1) := by decide +kernel
theorem dX4_begin_95 : decode cX4_begin 95 = .ok (.getfield 139, 3) := by decide +kernel
theorem dX4_begin_98 : decode cX4_begin 98 = .ok (.iastore, 1) := by decide +kernel
theorem dX4_begin_99 : decode cX4_begin 99 = .ok (.aload_n 0, 1) := by decide +kernel
theorem dX4_begin_100 : decode cX4_begin 100 = .ok (.getfield 53, 3) := by decide +kernel
theorem dX4_begin_103 : decode cX4_begin 103 = .ok (.iload 4, 2) := by decide +kernel
theorem dX4_begin_105 : decode cX4_begin 105 = .ok (.aload_n 0, 1) := by decide +kernel
theorem dX4_begin_106 : decode cX4_begin 106 = .ok (.getfield 59, 3) := by decide +kernel
theorem dX4_begin_109 : decode cX4_begin 109 = .ok (.iload_n 3, 1) := by decide +kernel
theorem dX4_begin_110 : decode cX4_begin 110 = .ok (.iaload, 1) := by decide +kernel
theorem dX4_begin_111 : decode cX4_begin 111 = .ok (.iastore, 1) := by decide +kernel
theorem dX4_begin_112 : decode cX4_begin 112 = .ok (.aload_n 0, 1) := by decide +kernel
theorem dX4_begin_113 : decode cX4_begin 113 = .ok (.getfield 56, 3) := by decide +kernel
theorem dX4_begin_116 : decode cX4_begin 116 = .ok (.iload 4, 2) := by decide +kernel
theorem dX4_begin_118 : decode cX4_begin 118 = .ok (.aload_n 0, 1) := by decide +kernel
theorem dX4_begin_119 : decode cX4_begin 119 = .ok (.getfield 62, 3) := by decide +kernel
theorem dX4_begin_122 : decode cX4_begin 122 = .ok (.iload_n 3, 1) := by decide +kernel
theorem dX4_begin_123 : decode cX4_begin 123 = .ok (.iaload, 1) := by decide +kernel
theorem dX4_begin_124 : decode cX4_begin 124 = .ok (.iastore, 1) := by decide +kernel
theorem dX4_begin_125 : decode cX4_begin 125 = .ok (.iinc 4 1, 3) := by decide +kernel
theorem dX4_begin_128 : decode cX4_begin 128 = .ok (.goto (-97), 3) := by decide +kernel
theorem dX4_begin_131 : decode cX4_begin 131 = .ok (.aload_n 0, 1) := by decide +kernel
theorem dX4_begin_132 : decode cX4_begin 132 = .ok (.dup, 1) := by decide +kernel
theorem dX4_begin_133 : decode cX4_begin 133 = .ok (.getfield 145, 3) := by decide +kernel
theorem dX4_begin_136 : decode cX4_begin 136 = .ok (.iconst 1, 1) := by decide +kernel
theorem dX4_begin_137 : decode cX4_begin 137 = .ok (.iadd, 1) := by decide +kernel
theorem dX4_begin_138 : decode cX4_begin 138 = .ok (.putfield 145, 3) := by decide +kernel
theorem dX4_begin_141 : decode cX4_begin 141 = .ok (.aload_n 0, 1) := by decide +kernel
theorem dX4_begin_142 : decode cX4_begin 142 = .ok (.aload_n 0, 1) := by decide +kernel
theorem dX4_begin_143 : decode cX4_begin 143 = .ok (.getfield 139, 3) := by decide +kernel
theorem dX4_begin_146 : decode cX4_begin 146 = .ok (.putfield 151, 3) := by decide +kernel
theorem dX4_begin_149 : decode cX4_begin 149 = .ok (.iinc 1 1, 3) := by decide +kernel
theorem dX4_begin_152 : decode cX4_begin 152 = .ok (.aload_n 0, 1) := by decide +kernel
theorem dX4_begin_153 : decode cX4_begin 153 = .ok (.getfield 65, 3) := by decide +kernel
theorem dX4_begin_156 : decode cX4_begin 156 = .ok (.iload_n 3, 1) := by decide +kernel
theorem dX4_begin_157 : decode cX4_begin 157 = .ok (.iaload, 1) := by decide +kernel
theorem dX4_begin_158 : decode cX4_begin 158 = .ok (.ifCond .ne 18, 3) := by decide +kernel
theorem dX4_begin_161 : decode cX4_begin 161 = .ok (.aload_n 0, 1) := by decide +kernel
theorem dX4_begin_162 : decode cX4_begin 162 = .ok (.getfield 145, 3) := by decide +kernel
theorem dX4_begin_165 : decode cX4_begin 165 = .ok (.aload_n 0, 1) := by decide +kernel
theorem dX4_begin_166 : decode cX4_begin 166 = .ok (.getfield 88, 3) := by decide +kernel
theorem dX4_begin_169 : decode cX4_begin 169 = .ok (.if_icmp .ge 7, 3) := by decide +kernel
theorem dX4_begin_172 : decode cX4_begin 172 = .ok (.iconst 1, 1) := by decide +kernel
theorem dX4_begin_173 : decode cX4_begin 173 = .ok (.goto 4, 3) := by decide +kernel
theorem dX4_begin_176 : decode cX4_begin 176 = .ok (.iconst 0, 1) := by decide +kernel
theorem dX4_begin_177 : decode cX4_begin 177 = .ok (.istore_n 2, 1) := by decide +kernel
theorem dX4_begin_178 : decode cX4_begin 178 = .ok (.goto (-159), 3) := by decide +kernel
theorem dX4_begin_181 : decode cX4_begin 181 = .ok (.iload_n 1, 1) := by decide +kernel
theorem dX4_begin_182 : decode cX4_begin 182 = .ok (.ireturn, 1) := by decide +kernel
set_option maxRecDepth 20000 in
theorem ggX4_go_X4_may : GoodIn wsX4_go wsX4_may := goodIn_r _ [7, 8, 32, 33, 34, 35, 36, 37, 38, 39, 40, 41, 42, 43, 44, 45, 46, 47, 48, 49, 50, 51, 52, 53, 54, 55, 56, 57, 58, 59] (by decide +kernel) (by decide +kernel)
set_option maxRecDepth 20000 in
theorem gX4_go_X4_may : GoodIn wsX4_go (wsV RX4 117 RX4 yX4_may wsX4_may) := goodIn_app (goodIn_of _ (by decide +kernel)) ggX4_go_X4_may
set_option maxRecDepth 20000 in
theorem ggX4_go_X4_begin : GoodIn wsX4_go wsX4_begin := goodIn_r _ [12, 1, 2, 13, 14, 15, 16, 17, 18, 19, 20, 21, 22, 23, 24, 25, 26, 27, 6, 28, 29, 30, 31, 32, 33, 34, 35, 36, 37, 38, 39, 40, 41, 42, 43, 44, 45, 46, 47, 48, 49, 50, 51, 52, 53, 54, 55, 56, 57, 58, 59] (by decide +kernel) (by decide +kernel)
set_option maxRecDepth 20000 in
theorem gX4_go_X4_begin : GoodIn wsX4_go (wsV RX4 154 RX4 yX4_begin wsX4_begin) := goodIn_app (goodIn_of _ (by decide +kernel)) ggX4_go_X4_begin
theorem dX4_go_0 : decode cX4_go 0 = .ok (.aload_n 0, 1) := by decide +kernel
theorem dX4_go_1 : decode cX4_go 1 = .ok (.aload_n 0, 1) := by decide +kernel
theorem dX4_go_2 : decode cX4_go 2 = .ok (.getfield 145, 3) := by decide +kernel
theorem dX4_go_5 : decode cX4_go 5 = .ok (.aload_n 0, 1) := by decide +kernel
theorem dX4_go_6 : decode cX4_go 6 = .ok (.getfield 88, 3) := by decide +kernel
theorem dX4_go_9 : decode cX4_go 9 = .ok (.if_icmp .ge 7, 3) := by decide +kernel
theorem dX4_go_12 : decode cX4_go 12 = .ok (.iconst 1, 1) := by decide +kernel
theorem dX4_go_13 : decode cX4_go 13 = .ok (.goto 4, 3) := by decide +kernel
theorem dX4_go_16 : decode cX4_go 16 = .ok (.iconst 0, 1) := by decide +kernel
theorem dX4_go_17 : decode cX4_go 17 = .ok (.invokevirtual 117, 3) := by decide +kernel
theorem dX4_go_20 : decode cX4_go 20 = .ok (.ifCond .ne 5, 3) := by decide +kernel
theorem dX4_go_23 : decode cX4_go 23 = .ok (.iconst 0, 1) := by decide +kernel
theorem dX4_go_24 : decode cX4_go 24 = .ok (.ireturn, 1) := by decide +kernel
theorem dX4_go_25 : decode cX4_go 25 = .ok (.aload_n 0, 1) := by decide +kernel
theorem dX4_go_26 : decode cX4_go 26 = .ok (.invokevirtual 154, 3) := by decide +kernel
theorem dX4_go_29 : decode cX4_go 29 = .ok (.pop, 1) := by decide +kernel
theorem dX4_go_30 : decode cX4_go 30 = .ok (.aload_n 0, 1) := by decide +kernel
theorem dX4_go_31 : decode cX4_go 31 = .ok (.getfield 145, 3) := by decide +kernel
theorem dX4_go_34 : decode cX4_go 34 = .ok (.iconst 1, 1) := by decide +kernel
theorem dX4_go_35 : decode cX4_go 35 = .ok (.isub, 1) := by decide +kernel
theorem dX4_go_36 : decode cX4_go 36 = .ok (.ireturn, 1) := by decide +kernel
set_option maxRecDepth 20000 in
theorem ggX4_tick_X4_isIn : GoodIn wsX4_tick wsX4_isIn := goodIn_r _ [10] (by decide +kernel) (by decide +kernel)
set_option maxRecDepth 20000 in
theorem gX4_tick_X4_isIn : GoodIn wsX4_tick (va_wsS RX4 81 yX4_isIn wsX4_isIn) := goodIn_app (goodIn_of _ (by decide +kernel)) ggX4_tick_X4_isIn
set_option maxRecDepth 20000 in
theorem ggX4_tick_X4_may : GoodIn wsX4_tick wsX4_may := goodIn_r _ [14, 15, 42, 43, 44, 45, 46, 47, 48, 49, 50, 51, 52, 53, 54, 55, 56, 57, 58, 59, 60, 61, 62, 63, 64, 65, 66, 67, 68, 69] (by decide +kernel) (by decide +kernel)
set_option maxRecDepth 20000 in
theorem gX4_tick_X4_may : GoodIn wsX4_tick (wsV RX4 117 RX4 yX4_may wsX4_may) := goodIn_app (goodIn_of _ (by decide +kernel)) ggX4_tick_X4_may
set_option maxRecDepth 20000 in
theorem ggX4_tick_X4_begin : GoodIn wsX4_tick wsX4_begin := goodIn_r _ [19, 2, 20, 5, 21, 22, 23, 24, 1, 25, 26, 27, 28, 4, 3, 29, 30, 31, 9, 32, 33, 34, 35, 42, 43, 44, 45, 46, 47, 48, 49, 50, 51, 52, 53, 54, 55, 56, 57, 58, 59, 60, 61, 62, 63, 64, 65, 66, 67, 68, 69] (by decide +kernel) (by decide +kernel)
set_option maxRecDepth 20000 in
theorem gX4_tick_X4_begin : GoodIn wsX4_tick (wsV RX4 154 RX4 yX4_begin wsX4_begin) := goodIn_app (goodIn_of _ (by decide +kernel)) ggX4_tick_X4_begin
set_option maxRecDepth 20000 in
theorem ggX4_tick_X4_levelOf : GoodIn wsX4_tick wsX4_levelOf := goodIn_r _ [39, 40, 41, 29, 30, 31, 9, 32, 1, 24, 25, 23, 22, 27, 33, 34, 35, 42, 43, 44, 45, 46, 47, 48, 49, 50, 51, 52, 53, 54, 55, 56, 57, 58, 59, 60, 61, 62, 63, 64, 65, 66, 67, 68, 69] (by decide +kernel) (by decide +kernel)
set_option maxRecDepth 20000 in
theorem gX4_tick_X4_levelOf : GoodIn wsX4_tick (wsV RX4 133 RX4 yX4_levelOf wsX4_levelOf) := goodIn_app (goodIn_of _ (by decide +kernel)) ggX4_tick_X4_levelOf
theorem dX4_tick_0 : decode cX4_tick 0 = .ok (.aload_n 0, 1) := by decide +kernel
theorem dX4_tick_1 : decode cX4_tick 1 = .ok (.iload_n 1, 1) := by decide +kernel
theorem dX4_tick_2 : decode cX4_tick 2 = .ok (.iconst 1, 1) := by decide +kernel
theorem dX4_tick_3 : decode cX4_tick 3 = .ok (.bipush 50, 2) := by decide +kernel
theorem dX4_tick_5 : decode cX4_tick 5 = .ok (.invokestatic 81, 3) := by decide +kernel
theorem dX4_tick_8 : decode cX4_tick 8 = .ok (.invokevirtual 117, 3) := by decide +kernel
theorem dX4_tick_11 : decode cX4_tick 11 = .ok (.ifCond .ne 5, 3) := by decide +kernel
theorem dX4_tick_14 : decode cX4_tick 14 = .ok (.iconst 0, 1) := by decide +kernel
theorem dX4_tick_15 : decode cX4_tick 15 = .ok (.ireturn, 1) := by decide +kernel
theorem dX4_tick_16 : decode cX4_tick 16 = .ok (.iconst 0, 1) := by decide +kernel
theorem dX4_tick_17 : decode cX4_tick 17 = .ok (.istore_n 2, 1) := by decide +kernel
theorem dX4_tick_18 : decode cX4_tick 18 = .ok (.iconst 0, 1) := by decide +kernel
theorem dX4_tick_19 : decode cX4_tick 19 = .ok (.istore_n 3, 1) := by decide +kernel
theorem dX4_tick_20 : decode cX4_tick 20 = .ok (.iload_n 3, 1) := by decide +kernel
theorem dX4_tick_21 : decode cX4_tick 21 = .ok (.iload_n 1, 1) := by decide +kernel
theorem dX4_tick_22 : decode cX4_tick 22 = .ok (.if_icmp .ge 114, 3) := by decide +kernel
theorem dX4_tick_25 : decode cX4_tick 25 = .ok (.aload_n 0, 1) := by decide +kernel
theorem dX4_tick_26 : decode cX4_tick 26 = .ok (.dup, 1) := by decide +kernel
theorem dX4_tick_27 : decode cX4_tick 27 = .ok (.getfield 139, 3) := by decide +kernel
theorem dX4_tick_30 : decode cX4_tick 30 = .ok (.iconst 1, 1) := by decide +kernel
theorem dX4_tick_31 : decode cX4_tick 31 = .ok (.iadd, 1) := by decide +kernel
theorem dX4_tick_32 : decode cX4_tick 32 = .ok (.putfield 139, 3) := by decide +kernel
theorem dX4_tick_35 : decode cX4_tick 35 = .ok (.aload_n 0, 1) := by decide +kernel
theorem dX4_tick_36 : decode cX4_tick 36 = .ok (.getfield 145, 3) := by decide +kernel
theorem dX4_tick_39 : decode cX4_tick 39 = .ok (.ifCond .le 47, 3) := by decide +kernel
theorem dX4_tick_42 : decode cX4_tick 42 = .ok (.aload_n 0, 1) := by decide +kernel
theorem dX4_tick_43 : decode cX4_tick 43 = .ok (.getfield 65, 3) := by decide +kernel
theorem dX4_tick_46 : decode cX4_tick 46 = .ok (.aload_n 0, 1) := by decide +kernel
theorem dX4_tick_47 : decode cX4_tick 47 = .ok (.getfield 145, 3) := by decide +kernel
theorem dX4_tick_50 : decode cX4_tick 50 = .ok (.iconst 1, 1) := by decide +kernel
theorem dX4_tick_51 : decode cX4_tick 51 = .ok (.isub, 1) := by decide +kernel
theorem dX4_tick_52 : decode cX4_tick 52 = .ok (.iaload, 1) := by decide +kernel
theorem dX4_tick_53 : decode cX4_tick 53 = .ok (.ifCond .le 33, 3) := by decide +kernel
theorem dX4_tick_56 : decode cX4_tick 56 = .ok (.aload_n 0, 1) := by decide +kernel
theorem dX4_tick_57 : decode cX4_tick 57 = .ok (.getfield 139, 3) := by decide +kernel
theorem dX4_tick_60 : decode cX4_tick 60 = .ok (.aload_n 0, 1) := by decide +kernel
theorem dX4_tick_61 : decode cX4_tick 61 = .ok (.getfield 151, 3) := by decide +kernel
theorem dX4_tick_64 : decode cX4_tick 64 = .ok (.isub, 1) := by decide +kernel
theorem dX4_tick_65 : decode cX4_tick 65 = .ok (.aload_n 0, 1) := by decide +kernel
theorem dX4_tick_66 : decode cX4_tick 66 = .ok (.getfield 65, 3) := by decide +kernel
theorem dX4_tick_69 : decode cX4_tick 69 = .ok (.aload_n 0, 1) := by decide +kernel
theorem dX4_tick_70 : decode cX4_tick 70 = .ok (.getfield 145, 3) := by decide +kernel
theorem dX4_tick_73 : decode cX4_tick 73 = .ok (.iconst 1, 1) := by decide +kernel
theorem dX4_tick_74 : decode cX4_tick 74 = .ok (.isub, 1) := by decide +kernel
theorem dX4_tick_75 : decode cX4_tick 75 = .ok (.iaload, 1) := by decide +kernel
theorem dX4_tick_76 : decode cX4_tick 76 = .ok (.if_icmp .ne 10, 3) := by decide +kernel
theorem dX4_tick_79 : decode cX4_tick 79 = .ok (.iload_n 2, 1) := by decide +kernel
theorem dX4_tick_80 : decode cX4_tick 80 = .ok (.aload_n 0, 1) := by decide +kernel
theorem dX4_tick_81 : decode cX4_tick 81 = .ok (.invokevirtual 154, 3) := by decide +kernel
theorem dX4_tick_84 : decode cX4_tick 84 = .ok (.iadd, 1) := by decide +kernel
theorem dX4_tick_85 : decode cX4_tick 85 = .ok (.istore_n 2, 1) := by decide +kernel
theorem dX4_tick_86 : decode cX4_tick 86 = .ok (.iconst 0, 1) := by decide +kernel
theorem dX4_tick_87 : decode cX4_tick 87 = .ok (.istore 4, 2) := by decide +kernel
theorem dX4_tick_89 : decode cX4_tick 89 = .ok (.iload 4, 2) := by decide +kernel
theorem dX4_tick_91 : decode cX4_tick 91 = .ok (.aload_n 0, 1) := by decide +kernel
theorem dX4_tick_92 : decode cX4_tick 92 = .ok (.getfield 78, 3) := by decide +kernel
theorem dX4_tick_95 : decode cX4_tick 95 = .ok (.if_icmp .ge 35, 3) := by decide +kernel
theorem dX4_tick_98 : decode cX4_tick 98 = .ok (.aload_n 0, 1) := by decide +kernel
theorem dX4_tick_99 : decode cX4_tick 99 = .ok (.getfield 41, 3) := by decide +kernel
theorem dX4_tick_102 : decode cX4_tick 102 = .ok (.iload 4, 2) := by decide +kernel
theorem dX4_tick_104 : decode cX4_tick 104 = .ok (.dup2, 1) := by decide +kernel
theorem dX4_tick_105 : decode cX4_tick 105 = .ok (.iaload, 1) := by decide +kernel
theorem dX4_tick_106 : decode cX4_tick 106 = .ok (.aload_n 0, 1) := by decide +kernel
theorem dX4_tick_107 : decode cX4_tick 107 = .ok (.iload 4, 2) := by decide +kernel
theorem dX4_tick_109 : decode cX4_tick 109 = .ok (.invokevirtual 133, 3) := by decide +kernel
theorem dX4_tick_112 : decode cX4_tick 112 = .ok (.bipush 80, 2) := by decide +kernel
theorem dX4_tick_114 : decode cX4_tick 114 = .ok (.if_icmp .le 7, 3) := by decide +kernel
theorem dX4_tick_117 : decode cX4_tick 117 = .ok (.iconst 1, 1) := by decide +kernel
theorem dX4_tick_118 : decode cX4_tick 118 = .ok (.goto 4, 3) := by decide +kernel
theorem dX4_tick_121 : decode cX4_tick 121 = .ok (.iconst 0, 1) := by decide +kernel
theorem dX4_tick_122 : decode cX4_tick 122 = .ok (.iadd, 1) := by decide +kernel
theorem dX4_tick_123 : decode cX4_tick 123 = .ok (.iastore, 1) := by decide +kernel
theorem dX4_tick_124 : decode cX4_tick 124 = .ok (.iinc 4 1, 3) := by decide +kernel
theorem dX4_tick_127 : decode cX4_tick 127 = .ok (.goto (-38), 3) := by decide +kernel
theorem dX4_tick_130 : decode cX4_tick 130 = .ok (.iinc 3 1, 3) := by decide +kernel
theorem dX4_tick_133 : decode cX4_tick 133 = .ok (.goto (-113), 3) := by decide +kernel
theorem dX4_tick_136 : decode cX4_tick 136 = .ok (.iload_n 2, 1) := by decide +kernel
theorem dX4_tick_137 : decode cX4_tick 137 = .ok (.ireturn, 1) := by decide +kernel
theorem dX4_rewind_0 : decode cX4_rewind 0 = .ok (.aload_n 0, 1) := by decide +kernel
theorem dX4_rewind_1 : decode cX4_rewind 1 = .ok (.iconst 0, 1) := by decide +kernel
theorem dX4_rewind_2 : decode cX4_rewind 2 = .ok (.putfield 74, 3) := by decide +kernel
theorem dX4_rewind_5 : decode cX4_rewind 5 = .ok (.aload_n 0, 1) := by decide +kernel
theorem dX4_rewind_6 : decode cX4_rewind 6 = .ok (.getfield 145, 3) := by decide +kernel
theorem dX4_rewind_9 : decode cX4_rewind 9 = .ok (.istore_n 1, 1) := by decide +kernel
theorem dX4_rewind_10 : decode cX4_rewind 10 = .ok (.aload_n 0, 1) := by decide +kernel
theorem dX4_rewind_11 : decode cX4_rewind 11 = .ok (.iconst 0, 1) := by decide +kernel
theorem dX4_rewind_12 : decode cX4_rewind 12 = .ok (.putfield 145, 3) := by decide +kernel
theorem dX4_rewind_15 : decode cX4_rewind 15 = .ok (.iconst 0, 1) := by decide +kernel
theorem dX4_rewind_16 : decode cX4_rewind 16 = .ok (.istore_n 2, 1) := by decide +kernel
theorem dX4_rewind_17 : decode cX4_rewind 17 = .ok (.iload_n 2, 1) := by decide +kernel
theorem dX4_rewind_18 : decode cX4_rewind 18 = .ok (.aload_n 0, 1) := by decide +kernel
theorem dX4_rewind_19 : decode cX4_rewind 19 = .ok (.getfield 78, 3) := by decide +kernel
theorem dX4_rewind_22 : decode cX4_rewind 22 = .ok (.if_icmp .ge 30, 3) := by decide +kernel
theorem dX4_rewind_25 : decode cX4_rewind 25 = .ok (.aload_n 0, 1) := by decide +kernel
theorem dX4_rewind_26 : decode cX4_rewind 26 = .ok (.getfield 44, 3) := by decide +kernel
theorem dX4_rewind_29 : decode cX4_rewind 29 = .ok (.iload_n 2, 1) := by decide +kernel
theorem dX4_rewind_30 : decode cX4_rewind 30 = .ok (.iconst 0, 1) := by decide +kernel
theorem dX4_rewind_31 : decode cX4_rewind 31 = .ok (.iastore, 1) := by decide +kernel
theorem dX4_rewind_32 : decode cX4_rewind 32 = .ok (.aload_n 0, 1) := by decide +kernel
theorem dX4_rewind_33 : decode cX4_rewind 33 = .ok (.getfield 47, 3) := by decide +kernel
theorem dX4_rewind_36 : decode cX4_rewind 36 = .ok (.iload_n 2, 1) := by decide +kernel
theorem dX4_rewind_37 : decode cX4_rewind 37 = .ok (.iconst 0, 1) := by decide +kernel
theorem dX4_rewind_38 : decode cX4_rewind 38 = .ok (.iastore, 1) := by decide +kernel
theorem dX4_rewind_39 : decode cX4_rewind 39 = .ok (.aload_n 0, 1) := by decide +kernel
theorem dX4_rewind_40 : decode cX4_rewind 40 = .ok (.getfield 53, 3) := by decide +kernel
theorem dX4_rewind_43 : decode cX4_rewind 43 = .ok (.iload_n 2, 1) := by decide +kernel
theorem dX4_rewind_44 : decode cX4_rewind 44 = .ok (.iconst 0, 1) := by decide +kernel
theorem dX4_rewind_45 : decode cX4_rewind 45 = .ok (.iastore, 1) := by decide +kernel
theorem dX4_rewind_46 : decode cX4_rewind 46 = .ok (.iinc 2 1, 3) := by decide +kernel
theorem dX4_rewind_49 : decode cX4_rewind 49 = .ok (.goto (-32), 3) := by decide +kernel
theorem dX4_rewind_52 : decode cX4_rewind 52 = .ok (.iload_n 1, 1) := by decide +kernel
theorem dX4_rewind_53 : decode cX4_rewind 53 = .ok (.ireturn, 1) := by decide +kernel
set_option maxRecDepth 20000 in
theorem ggX4_levelOf_X4_wantedOf : GoodIn wsX4_levelOf wsX4_wantedOf := goodIn_r _ [7, 8, 9, 10, 11, 12, 13, 14, 15, 6, 16, 17, 18, 19, 20, 21, 22, 23, 24, 25, 26, 27, 28, 29, 30, 31, 32, 33, 34, 35, 36, 37, 38, 39, 40, 41, 42, 43, 44] (by decide +kernel) (by decide +kernel)
set_option maxRecDepth 20000 in
theorem gX4_levelOf_X4_wantedOf : GoodIn wsX4_levelOf (wsV RX4 148 RX4 yX4_wantedOf wsX4_wantedOf) := goodIn_app (goodIn_of _ (by decide +kernel)) ggX4_levelOf_X4_wantedOf
theorem dX4_levelOf_0 : decode cX4_levelOf 0 = .ok (.aload_n 0, 1) := by decide +kernel
theorem dX4_levelOf_1 : decode cX4_levelOf 1 = .ok (.getfield 25, 3) := by decide +kernel
theorem dX4_levelOf_4 : decode cX4_levelOf 4 = .ok (.iload_n 1, 1) := by decide +kernel
theorem dX4_levelOf_5 : decode cX4_levelOf 5 = .ok (.iaload, 1) := by decide +kernel
theorem dX4_levelOf_6 : decode cX4_levelOf 6 = .ok (.iconst (-1), 1) := by decide +kernel
theorem dX4_levelOf_7 : decode cX4_levelOf 7 = .ok (.if_icmp .eq 20, 3) := by decide +kernel
theorem dX4_levelOf_10 : decode cX4_levelOf 10 = .ok (.aload_n 0, 1) := by decide +kernel
theorem dX4_levelOf_11 : decode cX4_levelOf 11 = .ok (.getfield 37, 3) := by decide +kernel
theorem dX4_levelOf_14 : decode cX4_levelOf 14 = .ok (.iload_n 1, 1) := by decide +kernel
theorem dX4_levelOf_15 : decode cX4_levelOf 15 = .ok (.baload, 1) := by decide +kernel
theorem dX4_levelOf_16 : decode cX4_levelOf 16 = .ok (.ifCond .ne 11, 3) := by decide +kernel
theorem dX4_levelOf_19 : decode cX4_levelOf 19 = .ok (.aload_n 0, 1) := by decide +kernel
theorem dX4_levelOf_20 : decode cX4_levelOf 20 = .ok (.iload_n 1, 1) := by decide +kernel
theorem dX4_levelOf_21 : decode cX4_levelOf 21 = .ok (.invokevirtual 148, 3) := by decide +kernel
theorem dX4_levelOf_24 : decode cX4_levelOf 24 = .ok (.goto 4, 3) := by decide +kernel
theorem dX4_levelOf_27 : decode cX4_levelOf 27 = .ok (.iconst 0, 1) := by decide +kernel
theorem dX4_levelOf_28 : decode cX4_levelOf 28 = .ok (.ireturn, 1) := by decide +kernel
set_option maxRecDepth 20000 in
theorem ggX4_level_X4_isLamp : GoodIn wsX4_level wsX4_isLamp := goodIn_r _ [5, 6, 7, 8, 4, 9, 34, 35, 36, 37, 38, 39, 40, 41, 42, 43, 44, 45, 46, 47, 48, 49, 50, 51, 52, 53, 54, 55, 56, 57, 58, 59, 60, 61] (by decide +kernel) (by decide +kernel)
set_option maxRecDepth 20000 in
theorem gX4_level_X4_isLamp : GoodIn wsX4_level (wsV RX4 107 RX4 yX4_isLamp wsX4_isLamp) := goodIn_app (goodIn_of _ (by decide +kernel)) ggX4_level_X4_isLamp
set_option maxRecDepth 20000 in
theorem ggX4_level_X4_may : GoodIn wsX4_level wsX4_may := goodIn_r _ [13, 14, 34, 35, 36, 37, 38, 39, 40, 41, 42, 43, 44, 45, 46, 47, 48, 49, 50, 51, 52, 53, 54, 55, 56, 57, 58, 59, 60, 61] (by decide +kernel) (by decide +kernel)
set_option maxRecDepth 20000 in
theorem gX4_level_X4_may : GoodIn wsX4_level (wsV RX4 117 RX4 yX4_may wsX4_may) := goodIn_app (goodIn_of _ (by decide +kernel)) ggX4_level_X4_may
set_option maxRecDepth 20000 in
theorem ggX4_level_X4_levelOf : GoodIn wsX4_level wsX4_levelOf := goodIn_r _ [18, 19, 20, 21, 22, 23, 4, 24, 25, 26, 27, 28, 29, 30, 31, 32, 33, 34, 35, 36, 37, 38, 39, 40, 41, 42, 43, 44, 45, 46, 47, 48, 49, 50, 51, 52, 53, 54, 55, 56, 57, 58, 59, 60, 61] (by decide +kernel) (by decide +kernel)
set_option maxRecDepth 20000 in
theorem gX4_level_X4_levelOf : GoodIn wsX4_level (wsV RX4 133 RX4 yX4_levelOf wsX4_levelOf) := goodIn_app (goodIn_of _ (by decide +kernel)) ggX4_level_X4_levelOf
theorem dX4_level_0 : decode cX4_level 0 = .ok (.aload_n 0, 1) := by decide +kernel
theorem dX4_level_1 : decode cX4_level 1 = .ok (.aload_n 0, 1) := by decide +kernel
theorem dX4_level_2 : decode cX4_level 2 = .ok (.iload_n 1, 1) := by decide +kernel
theorem dX4_level_3 : decode cX4_level 3 = .ok (.invokevirtual 107, 3) := by decide +kernel
theorem dX4_level_6 : decode cX4_level 6 = .ok (.invokevirtual 117, 3) := by decide +kernel
theorem dX4_level_9 : decode cX4_level 9 = .ok (.ifCond .eq 11, 3) := by decide +kernel
theorem dX4_level_12 : decode cX4_level 12 = .ok (.aload_n 0, 1) := by decide +kernel
theorem dX4_level_13 : decode cX4_level 13 = .ok (.iload_n 1, 1) := by decide +kernel
theorem dX4_level_14 : decode cX4_level 14 = .ok (.invokevirtual 133, 3) := by decide +kernel
theorem dX4_level_17 : decode cX4_level 17 = .ok (.goto 4, 3) := by decide +kernel
theorem dX4_level_20 : decode cX4_level 20 = .ok (.iconst 0, 1) := by decide +kernel
theorem dX4_level_21 : decode cX4_level 21 = .ok (.ireturn, 1) := by decide +kernel
set_option maxRecDepth 20000 in
theorem ggX4_wanted_X4_isLamp : GoodIn wsX4_wanted wsX4_isLamp := goodIn_r _ [5, 6, 7, 8, 4, 9, 28, 29, 30, 31, 32, 33, 34, 35, 36, 37, 38, 39, 40, 41, 42, 43, 44, 45, 46, 47, 48, 49, 50, 51, 52, 53, 54, 55] (by decide +kernel) (by decide +kernel)
set_option maxRecDepth 20000 in
theorem gX4_wanted_X4_isLamp : GoodIn wsX4_wanted (wsV RX4 107 RX4 yX4_isLamp wsX4_isLamp) := goodIn_app (goodIn_of _ (by decide +kernel)) ggX4_wanted_X4_isLamp
set_option maxRecDepth 20000 in
theorem ggX4_wanted_X4_may : GoodIn wsX4_wanted wsX4_may := goodIn_r _ [13, 14, 28, 29, 30, 31, 32, 33, 34, 35, 36, 37, 38, 39, 40, 41, 42, 43, 44, 45, 46, 47, 48, 49, 50, 51, 52, 53, 54, 55] (by decide +kernel) (by decide +kernel)
set_option maxRecDepth 20000 in
theorem gX4_wanted_X4_may : GoodIn wsX4_wanted (wsV RX4 117 RX4 yX4_may wsX4_may) := goodIn_app (goodIn_of _ (by decide +kernel)) ggX4_wanted_X4_may
set_option maxRecDepth 20000 in
theorem ggX4_wanted_X4_wantedOf : GoodIn wsX4_wanted wsX4_wantedOf := goodIn_r _ [18, 19, 20, 21, 22, 23, 24, 25, 26, 4, 27, 28, 29, 30, 31, 32, 33, 34, 35, 36, 37, 38, 39, 40, 41, 42, 43, 44, 45, 46, 47, 48, 49, 50, 51, 52, 53, 54, 55] (by decide +kernel) (by decide +kernel)
set_option maxRecDepth 20000 in
theorem gX4_wanted_X4_wantedOf : GoodIn wsX4_wanted (wsV RX4 148 RX4 yX4_wantedOf wsX4_wantedOf) := goodIn_app (goodIn_of _ (by decide +kernel)) ggX4_wanted_X4_wantedOf
theorem dX4_wanted_0 : decode cX4_wanted 0 = .ok (.aload_n 0, 1) := by decide +kernel
theorem dX4_wanted_1 : decode cX4_wanted 1 = .ok (.aload_n 0, 1) := by decide +kernel
theorem dX4_wanted_2 : decode cX4_wanted 2 = .ok (.iload_n 1, 1) := by decide +kernel
theorem dX4_wanted_3 : decode cX4_wanted 3 = .ok (.invokevirtual 107, 3) := by decide +kernel
theorem dX4_wanted_6 : decode cX4_wanted 6 = .ok (.invokevirtual 117, 3) := by decide +kernel
theorem dX4_wanted_9 : decode cX4_wanted 9 = .ok (.ifCond .eq 11, 3) := by decide +kernel
theorem dX4_wanted_12 : decode cX4_wanted 12 = .ok (.aload_n 0, 1) := by decide +kernel
theorem dX4_wanted_13 : decode cX4_wanted 13 = .ok (.iload_n 1, 1) := by decide +kernel
theorem dX4_wanted_14 : decode cX4_wanted 14 = .ok (.invokevirtual 148, 3) := by decide +kernel
theorem dX4_wanted_17 : decode cX4_wanted 17 = .ok (.goto 4, 3) := by decide +kernel
theorem dX4_wanted_20 : decode cX4_wanted 20 = .ok (.iconst 0, 1) := by decide +kernel
theorem dX4_wanted_21 : decode cX4_wanted 21 = .ok (.ireturn, 1) := by decide +kernel
set_option maxRecDepth 20000 in
theorem ggX4_wantedByCues_X4_isLamp : GoodIn wsX4_wantedByCues wsX4_isLamp := goodIn_r _ [5, 6, 7, 8, 4, 9, 28, 29, 30, 31, 32, 33, 34, 35, 36, 37, 38, 39, 40, 41, 42, 43, 44, 45, 46, 47, 48, 49, 50, 51, 52, 53, 54, 55] (by decide +kernel) (by decide +kernel)
set_option maxRecDepth 20000 in
theorem gX4_wantedByCues_X4_isLamp : GoodIn wsX4_wantedByCues (wsV RX4 107 RX4 yX4_isLamp wsX4_isLamp) := goodIn_app (goodIn_of _ (by decide +kernel)) ggX4_wantedByCues_X4_isLamp
set_option maxRecDepth 20000 in
theorem ggX4_wantedByCues_X4_may : GoodIn wsX4_wantedByCues wsX4_may := goodIn_r _ [13, 14, 28, 29, 30, 31, 32, 33, 34, 35, 36, 37, 38, 39, 40, 41, 42, 43, 44, 45, 46, 47, 48, 49, 50, 51, 52, 53, 54, 55] (by decide +kernel) (by decide +kernel)
set_option maxRecDepth 20000 in
theorem gX4_wantedByCues_X4_may : GoodIn wsX4_wantedByCues (wsV RX4 117 RX4 yX4_may wsX4_may) := goodIn_app (goodIn_of _ (by decide +kernel)) ggX4_wantedByCues_X4_may
set_option maxRecDepth 20000 in
theorem ggX4_wantedByCues_X4_wantedOf : GoodIn wsX4_wantedByCues wsX4_wantedOf := goodIn_r _ [18, 19, 20, 21, 22, 23, 24, 25, 26, 4, 27, 28, 29, 30, 31, 32, 33, 34, 35, 36, 37, 38, 39, 40, 41, 42, 43, 44, 45, 46, 47, 48, 49, 50, 51, 52, 53, 54, 55] (by decide +kernel) (by decide +kernel)
set_option maxRecDepth 20000 in
theorem gX4_wantedByCues_X4_wantedOf : GoodIn wsX4_wantedByCues (wsV RX4 148 RX4 yX4_wantedOf wsX4_wantedOf) := goodIn_app (goodIn_of _ (by decide +kernel)) ggX4_wantedByCues_X4_wantedOf
theorem dX4_wantedByCues_0 : decode cX4_wantedByCues 0 = .ok (.aload_n 0, 1) := by decide +kernel
theorem dX4_wantedByCues_1 : decode cX4_wantedByCues 1 = .ok (.aload_n 0, 1) := by decide +kernel
theorem dX4_wantedByCues_2 : decode cX4_wantedByCues 2 = .ok (.iload_n 1, 1) := by decide +kernel
theorem dX4_wantedByCues_3 : decode cX4_wantedByCues 3 = .ok (.invokevirtual 107, 3) := by decide +kernel
theorem dX4_wantedByCues_6 : decode cX4_wantedByCues 6 = .ok (.invokevirtual 117, 3) := by decide +kernel
theorem dX4_wantedByCues_9 : decode cX4_wantedByCues 9 = .ok (.ifCond .eq 11, 3) := by decide +kernel
theorem dX4_wantedByCues_12 : decode cX4_wantedByCues 12 = .ok (.aload_n 0, 1) := by decide +kernel
theorem dX4_wantedByCues_13 : decode cX4_wantedByCues 13 = .ok (.iload_n 1, 1) := by decide +kernel
theorem dX4_wantedByCues_14 : decode cX4_wantedByCues 14 = .ok (.invokevirtual 148, 3) := by decide +kernel
theorem dX4_wantedByCues_17 : decode cX4_wantedByCues 17 = .ok (.goto 4, 3) := by decide +kernel
theorem dX4_wantedByCues_20 : decode cX4_wantedByCues 20 = .ok (.iconst 0, 1) := by decide +kernel
theorem dX4_wantedByCues_21 : decode cX4_wantedByCues 21 = .ok (.ireturn, 1) := by decide +kernel
set_option maxRecDepth 20000 in
theorem ggX4_bulb_X4_isLamp : GoodIn wsX4_bulb wsX4_isLamp := goodIn_r _ [6, 7, 8, 9, 5, 10, 16, 17, 18, 19, 20, 21, 22, 23, 24, 25, 26, 27, 28, 29, 30, 31, 32, 33, 34, 35, 36, 37, 38, 39, 40, 41, 42, 43] (by decide +kernel) (by decide +kernel)
set_option maxRecDepth 20000 in
theorem gX4_bulb_X4_isLamp : GoodIn wsX4_bulb (wsV RX4 107 RX4 yX4_isLamp wsX4_isLamp) := goodIn_app (goodIn_of _ (by decide +kernel)) ggX4_bulb_X4_isLamp
set_option maxRecDepth 20000 in
theorem ggX4_bulb_X4_may : GoodIn wsX4_bulb wsX4_may := goodIn_r _ [14, 15, 16, 17, 18, 19, 20, 21, 22, 23, 24, 25, 26, 27, 28, 29, 30, 31, 32, 33, 34, 35, 36, 37, 38, 39, 40, 41, 42, 43] (by decide +kernel) (by decide +kernel)
set_option maxRecDepth 20000 in
theorem gX4_bulb_X4_may : GoodIn wsX4_bulb (wsV RX4 117 RX4 yX4_may wsX4_may) := goodIn_app (goodIn_of _ (by decide +kernel)) ggX4_bulb_X4_may
theorem dX4_bulb_0 : decode cX4_bulb 0 = .ok (.aload_n 0, 1) := by decide +kernel
theorem dX4_bulb_1 : decode cX4_bulb 1 = .ok (.aload_n 0, 1) := by decide +kernel
theorem dX4_bulb_2 : decode cX4_bulb 2 = .ok (.iload_n 1, 1) := by decide +kernel
theorem dX4_bulb_3 : decode cX4_bulb 3 = .ok (.invokevirtual 107, 3) := by decide +kernel
theorem dX4_bulb_6 : decode cX4_bulb 6 = .ok (.invokevirtual 117, 3) := by decide +kernel
theorem dX4_bulb_9 : decode cX4_bulb 9 = .ok (.ifCond .ne 5, 3) := by decide +kernel
theorem dX4_bulb_12 : decode cX4_bulb 12 = .ok (.iconst 0, 1) := by decide +kernel
theorem dX4_bulb_13 : decode cX4_bulb 13 = .ok (.ireturn, 1) := by decide +kernel
theorem dX4_bulb_14 : decode cX4_bulb 14 = .ok (.aload_n 0, 1) := by decide +kernel
theorem dX4_bulb_15 : decode cX4_bulb 15 = .ok (.getfield 37, 3) := by decide +kernel
theorem dX4_bulb_18 : decode cX4_bulb 18 = .ok (.iload_n 1, 1) := by decide +kernel
theorem dX4_bulb_19 : decode cX4_bulb 19 = .ok (.aload_n 0, 1) := by decide +kernel
theorem dX4_bulb_20 : decode cX4_bulb 20 = .ok (.getfield 37, 3) := by decide +kernel
theorem dX4_bulb_23 : decode cX4_bulb 23 = .ok (.iload_n 1, 1) := by decide +kernel
theorem dX4_bulb_24 : decode cX4_bulb 24 = .ok (.baload, 1) := by decide +kernel
theorem dX4_bulb_25 : decode cX4_bulb 25 = .ok (.ifCond .ne 7, 3) := by decide +kernel
theorem dX4_bulb_28 : decode cX4_bulb 28 = .ok (.iconst 1, 1) := by decide +kernel
theorem dX4_bulb_29 : decode cX4_bulb 29 = .ok (.goto 4, 3) := by decide +kernel
theorem dX4_bulb_32 : decode cX4_bulb 32 = .ok (.iconst 0, 1) := by decide +kernel
theorem dX4_bulb_33 : decode cX4_bulb 33 = .ok (.bastore, 1) := by decide +kernel
theorem dX4_bulb_34 : decode cX4_bulb 34 = .ok (.aload_n 0, 1) := by decide +kernel
theorem dX4_bulb_35 : decode cX4_bulb 35 = .ok (.getfield 37, 3) := by decide +kernel
theorem dX4_bulb_38 : decode cX4_bulb 38 = .ok (.iload_n 1, 1) := by decide +kernel
theorem dX4_bulb_39 : decode cX4_bulb 39 = .ok (.baload, 1) := by decide +kernel
theorem dX4_bulb_40 : decode cX4_bulb 40 = .ok (.ifCond .ne 7, 3) := by decide +kernel
theorem dX4_bulb_43 : decode cX4_bulb 43 = .ok (.iconst 1, 1) := by decide +kernel
theorem dX4_bulb_44 : decode cX4_bulb 44 = .ok (.goto 4, 3) := by decide +kernel
theorem dX4_bulb_47 : decode cX4_bulb 47 = .ok (.iconst 0, 1) := by decide +kernel
theorem dX4_bulb_48 : decode cX4_bulb 48 = .ok (.ireturn, 1) := by decide +kernel
set_option maxRecDepth 20000 in
theorem ggX4_standIn_X4_isLamp : GoodIn wsX4_standIn wsX4_isLamp := goodIn_r _ [8, 9, 10, 11, 7, 12, 18, 19, 20, 21, 22, 23, 24, 25, 26, 27, 28, 29, 30, 31, 32, 33, 34, 35, 36, 37, 38, 39, 40, 41, 42, 43, 44, 45] (by decide +kernel) (by decide +kernel)
set_option maxRecDepth 20000 in
theorem gX4_standIn_X4_isLamp : GoodIn wsX4_standIn (wsV RX4 107 RX4 yX4_isLamp wsX4_isLamp) := goodIn_app (goodIn_of _ (by decide +kernel)) ggX4_standIn_X4_isLamp
set_option maxRecDepth 20000 in
theorem ggX4_standIn_X4_mayAll : GoodIn wsX4_standIn wsX4_mayAll := goodIn_r _ [16, 17, 18, 19, 20, 21, 22, 23, 24, 25, 26, 27, 28, 29, 30, 31, 32, 33, 34, 35, 36, 37, 38, 39, 40, 41, 42, 43, 44, 45] (by decide +kernel) (by decide +kernel)
set_option maxRecDepth 20000 in
theorem gX4_standIn_X4_mayAll : GoodIn wsX4_standIn (wsV RX4 91 RX4 yX4_mayAll wsX4_mayAll) := goodIn_app (goodIn_of _ (by decide +kernel)) ggX4_standIn_X4_mayAll
theorem dX4_standIn_0 : decode cX4_standIn 0 = .ok (.aload_n 0, 1) := by decide +kernel
theorem dX4_standIn_1 : decode cX4_standIn 1 = .ok (.iload_n 1, 1) := by decide +kernel
theorem dX4_standIn_2 : decode cX4_standIn 2 = .ok (.invokevirtual 107, 3) := by decide +kernel
theorem dX4_standIn_5 : decode cX4_standIn 5 = .ok (.ifCond .eq 15, 3) := by decide +kernel
theorem dX4_standIn_8 : decode cX4_standIn 8 = .ok (.aload_n 0, 1) := by decide +kernel
theorem dX4_standIn_9 : decode cX4_standIn 9 = .ok (.iload_n 2, 1) := by decide +kernel
theorem dX4_standIn_10 : decode cX4_standIn 10 = .ok (.invokevirtual 107, 3) := by decide +kernel
theorem dX4_standIn_13 : decode cX4_standIn 13 = .ok (.ifCond .eq 7, 3) := by decide +kernel
theorem dX4_standIn_16 : decode cX4_standIn 16 = .ok (.iconst 1, 1) := by decide +kernel
theorem dX4_standIn_17 : decode cX4_standIn 17 = .ok (.goto 4, 3) := by decide +kernel
theorem dX4_standIn_20 : decode cX4_standIn 20 = .ok (.iconst 0, 1) := by decide +kernel
theorem dX4_standIn_21 : decode cX4_standIn 21 = .ok (.istore_n 3, 1) := by decide +kernel
theorem dX4_standIn_22 : decode cX4_standIn 22 = .ok (.aload_n 0, 1) := by decide +kernel
theorem dX4_standIn_23 : decode cX4_standIn 23 = .ok (.iload_n 3, 1) := by decide +kernel
theorem dX4_standIn_24 : decode cX4_standIn 24 = .ok (.iload_n 1, 1) := by decide +kernel
theorem dX4_standIn_25 : decode cX4_standIn 25 = .ok (.iload_n 2, 1) := by decide +kernel
theorem dX4_standIn_26 : decode cX4_standIn 26 = .ok (.if_icmp .eq 7, 3) := by decide +kernel
theorem dX4_standIn_29 : decode cX4_standIn 29 = .ok (.iconst 1, 1) := by decide +kernel
theorem dX4_standIn_30 : decode cX4_standIn 30 = .ok (.goto 4, 3) := by decide +kernel
theorem dX4_standIn_33 : decode cX4_standIn 33 = .ok (.iconst 0, 1) := by decide +kernel
theorem dX4_standIn_34 : decode cX4_standIn 34 = .ok (.iload_n 3, 1) := by decide +kernel
theorem dX4_standIn_35 : decode cX4_standIn 35 = .ok (.ifCond .eq 25, 3) := by decide +kernel
theorem dX4_standIn_38 : decode cX4_standIn 38 = .ok (.aload_n 0, 1) := by decide +kernel
theorem dX4_standIn_39 : decode cX4_standIn 39 = .ok (.getfield 37, 3) := by decide +kernel
theorem dX4_standIn_42 : decode cX4_standIn 42 = .ok (.iload_n 1, 1) := by decide +kernel
theorem dX4_standIn_43 : decode cX4_standIn 43 = .ok (.baload, 1) := by decide +kernel
theorem dX4_standIn_44 : decode cX4_standIn 44 = .ok (.ifCond .eq 16, 3) := by decide +kernel
theorem dX4_standIn_47 : decode cX4_standIn 47 = .ok (.aload_n 0, 1) := by decide +kernel
theorem dX4_standIn_48 : decode cX4_standIn 48 = .ok (.getfield 37, 3) := by decide +kernel
theorem dX4_standIn_51 : decode cX4_standIn 51 = .ok (.iload_n 2, 1) := by decide +kernel
theorem dX4_standIn_52 : decode cX4_standIn 52 = .ok (.baload, 1) := by decide +kernel
theorem dX4_standIn_53 : decode cX4_standIn 53 = .ok (.ifCond .ne 7, 3) := by decide +kernel
theorem dX4_standIn_56 : decode cX4_standIn 56 = .ok (.iconst 1, 1) := by decide +kernel
theorem dX4_standIn_57 : decode cX4_standIn 57 = .ok (.goto 4, 3) := by decide +kernel
theorem dX4_standIn_60 : decode cX4_standIn 60 = .ok (.iconst 0, 1) := by decide +kernel
theorem dX4_standIn_61 : decode cX4_standIn 61 = .ok (.invokevirtual 91, 3) := by decide +kernel
theorem dX4_standIn_64 : decode cX4_standIn 64 = .ok (.ifCond .ne 5, 3) := by decide +kernel
theorem dX4_standIn_67 : decode cX4_standIn 67 = .ok (.iconst 0, 1) := by decide +kernel
theorem dX4_standIn_68 : decode cX4_standIn 68 = .ok (.ireturn, 1) := by decide +kernel
theorem dX4_standIn_69 : decode cX4_standIn 69 = .ok (.iconst 0, 1) := by decide +kernel
theorem dX4_standIn_70 : decode cX4_standIn 70 = .ok (.istore 4, 2) := by decide +kernel
theorem dX4_standIn_72 : decode cX4_standIn 72 = .ok (.iconst 0, 1) := by decide +kernel
theorem dX4_standIn_73 : decode cX4_standIn 73 = .ok (.istore 5, 2) := by decide +kernel
theorem dX4_standIn_75 : decode cX4_standIn 75 = .ok (.iload 5, 2) := by decide +kernel
theorem dX4_standIn_77 : decode cX4_standIn 77 = .ok (.aload_n 0, 1) := by decide +kernel
theorem dX4_standIn_78 : decode cX4_standIn 78 = .ok (.getfield 88, 3) := by decide +kernel
theorem dX4_standIn_81 : decode cX4_standIn 81 = .ok (.if_icmp .ge 65, 3) := by decide +kernel
theorem dX4_standIn_84 : decode cX4_standIn 84 = .ok (.aload_n 0, 1) := by decide +kernel
theorem dX4_standIn_85 : decode cX4_standIn 85 = .ok (.getfield 68, 3) := by decide +kernel
theorem dX4_standIn_88 : decode cX4_standIn 88 = .ok (.bipush 10, 2) := by decide +kernel
theorem dX4_standIn_90 : decode cX4_standIn 90 = .ok (.iload 5, 2) := by decide +kernel
theorem dX4_standIn_92 : decode cX4_standIn 92 = .ok (.imul, 1) := by decide +kernel
theorem dX4_standIn_93 : decode cX4_standIn 93 = .ok (.iload_n 1, 1) := by decide +kernel
theorem dX4_standIn_94 : decode cX4_standIn 94 = .ok (.iadd, 1) := by decide +kernel
theorem dX4_standIn_95 : decode cX4_standIn 95 = .ok (.iaload, 1) := by decide +kernel
theorem dX4_standIn_96 : decode cX4_standIn 96 = .ok (.iconst (-1), 1) := by decide +kernel
theorem dX4_standIn_97 : decode cX4_standIn 97 = .ok (.if_icmp .eq 43, 3) := by decide +kernel
theorem dX4_standIn_100 : decode cX4_standIn 100 = .ok (.aload_n 0, 1) := by decide +kernel
theorem dX4_standIn_101 : decode cX4_standIn 101 = .ok (.getfield 68, 3) := by decide +kernel
theorem dX4_standIn_104 : decode cX4_standIn 104 = .ok (.bipush 10, 2) := by decide +kernel
theorem dX4_standIn_106 : decode cX4_standIn 106 = .ok (.iload 5, 2) := by decide +kernel
theorem dX4_standIn_108 : decode cX4_standIn 108 = .ok (.imul, 1) := by decide +kernel
theorem dX4_standIn_109 : decode cX4_standIn 109 = .ok (.iload_n 2, 1) := by decide +kernel
theorem dX4_standIn_110 : decode cX4_standIn 110 = .ok (.iadd, 1) := by decide +kernel
theorem dX4_standIn_111 : decode cX4_standIn 111 = .ok (.aload_n 0, 1) := by decide +kernel
theorem dX4_standIn_112 : decode cX4_standIn 112 = .ok (.getfield 68, 3) := by decide +kernel
theorem dX4_standIn_115 : decode cX4_standIn 115 = .ok (.bipush 10, 2) := by decide +kernel
theorem dX4_standIn_117 : decode cX4_standIn 117 = .ok (.iload 5, 2) := by decide +kernel
theorem dX4_standIn_119 : decode cX4_standIn 119 = .ok (.imul, 1) := by decide +kernel
theorem dX4_standIn_120 : decode cX4_standIn 120 = .ok (.iload_n 1, 1) := by decide +kernel
theorem dX4_standIn_121 : decode cX4_standIn 121 = .ok (.iadd, 1) := by decide +kernel
theorem dX4_standIn_122 : decode cX4_standIn 122 = .ok (.iaload, 1) := by decide +kernel
theorem dX4_standIn_123 : decode cX4_standIn 123 = .ok (.iastore, 1) := by decide +kernel
theorem dX4_standIn_124 : decode cX4_standIn 124 = .ok (.aload_n 0, 1) := by decide +kernel
theorem dX4_standIn_125 : decode cX4_standIn 125 = .ok (.getfield 68, 3) := by decide +kernel
theorem dX4_standIn_128 : decode cX4_standIn 128 = .ok (.bipush 10, 2) := by decide +kernel
theorem dX4_standIn_130 : decode cX4_standIn 130 = .ok (.iload 5, 2) := by decide +kernel
theorem dX4_standIn_132 : decode cX4_standIn 132 = .ok (.imul, 1) := by decide +kernel
theorem dX4_standIn_133 : decode cX4_standIn 133 = .ok (.iload_n 1, 1) := by decide +kernel
theorem dX4_standIn_134 : decode cX4_standIn 134 = .ok (.iadd, 1) := by decide +kernel
theorem dX4_standIn_135 : decode cX4_standIn 135 = .ok (.iconst (-1), 1) := by decide +kernel
theorem dX4_standIn_136 : decode cX4_standIn 136 = .ok (.iastore, 1) := by decide +kernel
theorem dX4_standIn_137 : decode cX4_standIn 137 = .ok (.iinc 4 1, 3) := by decide +kernel
theorem dX4_standIn_140 : decode cX4_standIn 140 = .ok (.iinc 5 1, 3) := by decide +kernel
theorem dX4_standIn_143 : decode cX4_standIn 143 = .ok (.goto (-68), 3) := by decide +kernel
theorem dX4_standIn_146 : decode cX4_standIn 146 = .ok (.iload 4, 2) := by decide +kernel
theorem dX4_standIn_148 : decode cX4_standIn 148 = .ok (.ireturn, 1) := by decide +kernel
set_option maxRecDepth 20000 in
theorem ggX4_colour_X4_isLamp : GoodIn wsX4_colour wsX4_isLamp := goodIn_r _ [7, 8, 9, 10, 6, 11, 17, 18, 19, 20, 21, 22, 23, 24, 25, 26, 27, 28, 29, 30, 31, 32, 33, 34, 35, 36, 37, 38, 39, 40, 41, 42, 43, 44] (by decide +kernel) (by decide +kernel)
set_option maxRecDepth 20000 in
theorem gX4_colour_X4_isLamp : GoodIn wsX4_colour (wsV RX4 107 RX4 yX4_isLamp wsX4_isLamp) := goodIn_app (goodIn_of _ (by decide +kernel)) ggX4_colour_X4_isLamp
set_option maxRecDepth 20000 in
theorem ggX4_colour_X4_isIn : GoodIn wsX4_colour wsX4_isIn := goodIn_r _ [11] (by decide +kernel) (by decide +kernel)
set_option maxRecDepth 20000 in
theorem gX4_colour_X4_isIn : GoodIn wsX4_colour (va_wsS RX4 81 yX4_isIn wsX4_isIn) := goodIn_app (goodIn_of _ (by decide +kernel)) ggX4_colour_X4_isIn
set_option maxRecDepth 20000 in
theorem ggX4_colour_X4_mayBoth : GoodIn wsX4_colour wsX4_mayBoth := goodIn_r _ [15, 16, 17, 18, 19, 20, 21, 22, 23, 24, 25, 26, 27, 28, 29, 30, 31, 32, 33, 34, 35, 36, 37, 38, 39, 40, 41, 42, 43, 44] (by decide +kernel) (by decide +kernel)
set_option maxRecDepth 20000 in
theorem gX4_colour_X4_mayBoth : GoodIn wsX4_colour (wsV RX4 95 RX4 yX4_mayBoth wsX4_mayBoth) := goodIn_app (goodIn_of _ (by decide +kernel)) ggX4_colour_X4_mayBoth
theorem dX4_colour_0 : decode cX4_colour 0 = .ok (.aload_n 0, 1) := by decide +kernel
theorem dX4_colour_1 : decode cX4_colour 1 = .ok (.aload_n 0, 1) := by decide +kernel
theorem dX4_colour_2 : decode cX4_colour 2 = .ok (.iload_n 1, 1) := by decide +kernel
theorem dX4_colour_3 : decode cX4_colour 3 = .ok (.invokevirtual 107, 3) := by decide +kernel
theorem dX4_colour_6 : decode cX4_colour 6 = .ok (.iload_n 2, 1) := by decide +kernel
theorem dX4_colour_7 : decode cX4_colour 7 = .ok (.iconst 0, 1) := by decide +kernel
theorem dX4_colour_8 : decode cX4_colour 8 = .ok (.bipush 20, 2) := by decide +kernel
theorem dX4_colour_10 : decode cX4_colour 10 = .ok (.invokestatic 81, 3) := by decide +kernel
theorem dX4_colour_13 : decode cX4_colour 13 = .ok (.invokevirtual 95, 3) := by decide +kernel
theorem dX4_colour_16 : decode cX4_colour 16 = .ok (.ifCond .ne 5, 3) := by decide +kernel
theorem dX4_colour_19 : decode cX4_colour 19 = .ok (.iconst 0, 1) := by decide +kernel
theorem dX4_colour_20 : decode cX4_colour 20 = .ok (.ireturn, 1) := by decide +kernel
theorem dX4_colour_21 : decode cX4_colour 21 = .ok (.aload_n 0, 1) := by decide +kernel
theorem dX4_colour_22 : decode cX4_colour 22 = .ok (.getfield 22, 3) := by decide +kernel
theorem dX4_colour_25 : decode cX4_colour 25 = .ok (.iload_n 1, 1) := by decide +kernel
theorem dX4_colour_26 : decode cX4_colour 26 = .ok (.iaload, 1) := by decide +kernel
theorem dX4_colour_27 : decode cX4_colour 27 = .ok (.istore_n 3, 1) := by decide +kernel
theorem dX4_colour_28 : decode cX4_colour 28 = .ok (.aload_n 0, 1) := by decide +kernel
theorem dX4_colour_29 : decode cX4_colour 29 = .ok (.getfield 22, 3) := by decide +kernel
theorem dX4_colour_32 : decode cX4_colour 32 = .ok (.iload_n 1, 1) := by decide +kernel
theorem dX4_colour_33 : decode cX4_colour 33 = .ok (.iload_n 2, 1) := by decide +kernel
theorem dX4_colour_34 : decode cX4_colour 34 = .ok (.iastore, 1) := by decide +kernel
theorem dX4_colour_35 : decode cX4_colour 35 = .ok (.aload_n 0, 1) := by decide +kernel
theorem dX4_colour_36 : decode cX4_colour 36 = .ok (.getfield 41, 3) := by decide +kernel
theorem dX4_colour_39 : decode cX4_colour 39 = .ok (.iload_n 1, 1) := by decide +kernel
theorem dX4_colour_40 : decode cX4_colour 40 = .ok (.iconst 0, 1) := by decide +kernel
theorem dX4_colour_41 : decode cX4_colour 41 = .ok (.iastore, 1) := by decide +kernel
theorem dX4_colour_42 : decode cX4_colour 42 = .ok (.iload_n 3, 1) := by decide +kernel
theorem dX4_colour_43 : decode cX4_colour 43 = .ok (.ireturn, 1) := by decide +kernel
theorem dX4_burnt_0 : decode cX4_burnt 0 = .ok (.aload_n 0, 1) := by decide +kernel
theorem dX4_burnt_1 : decode cX4_burnt 1 = .ok (.iconst 0, 1) := by decide +kernel
theorem dX4_burnt_2 : decode cX4_burnt 2 = .ok (.putfield 74, 3) := by decide +kernel
theorem dX4_burnt_5 : decode cX4_burnt 5 = .ok (.iconst 0, 1) := by decide +kernel
theorem dX4_burnt_6 : decode cX4_burnt 6 = .ok (.istore_n 1, 1) := by decide +kernel
theorem dX4_burnt_7 : decode cX4_burnt 7 = .ok (.iconst 0, 1) := by decide +kernel
theorem dX4_burnt_8 : decode cX4_burnt 8 = .ok (.istore_n 2, 1) := by decide +kernel
theorem dX4_burnt_9 : decode cX4_burnt 9 = .ok (.iload_n 2, 1) := by decide +kernel
theorem dX4_burnt_10 : decode cX4_burnt 10 = .ok (.aload_n 0, 1) := by decide +kernel
theorem dX4_burnt_11 : decode cX4_burnt 11 = .ok (.getfield 78, 3) := by decide +kernel
theorem dX4_burnt_14 : decode cX4_burnt 14 = .ok (.if_icmp .ge 30, 3) := by decide +kernel
theorem dX4_burnt_17 : decode cX4_burnt 17 = .ok (.iload_n 1, 1) := by decide +kernel
theorem dX4_burnt_18 : decode cX4_burnt 18 = .ok (.aload_n 0, 1) := by decide +kernel
theorem dX4_burnt_19 : decode cX4_burnt 19 = .ok (.getfield 41, 3) := by decide +kernel
theorem dX4_burnt_22 : decode cX4_burnt 22 = .ok (.iload_n 2, 1) := by decide +kernel
theorem dX4_burnt_23 : decode cX4_burnt 23 = .ok (.iaload, 1) := by decide +kernel
theorem dX4_burnt_24 : decode cX4_burnt 24 = .ok (.bipush 30, 2) := by decide +kernel
theorem dX4_burnt_26 : decode cX4_burnt 26 = .ok (.if_icmp .lt 9, 3) := by decide +kernel
theorem dX4_burnt_29 : decode cX4_burnt 29 = .ok (.iconst 1, 1) := by decide +kernel
theorem dX4_burnt_30 : decode cX4_burnt 30 = .ok (.iload_n 2, 1) := by decide +kernel
theorem dX4_burnt_31 : decode cX4_burnt 31 = .ok (.ishl, 1) := by decide +kernel
theorem dX4_burnt_32 : decode cX4_burnt 32 = .ok (.goto 4, 3) := by decide +kernel
theorem dX4_burnt_35 : decode cX4_burnt 35 = .ok (.iconst 0, 1) := by decide +kernel
theorem dX4_burnt_36 : decode cX4_burnt 36 = .ok (.ior, 1) := by decide +kernel
theorem dX4_burnt_37 : decode cX4_burnt 37 = .ok (.istore_n 1, 1) := by decide +kernel
theorem dX4_burnt_38 : decode cX4_burnt 38 = .ok (.iinc 2 1, 3) := by decide +kernel
theorem dX4_burnt_41 : decode cX4_burnt 41 = .ok (.goto (-32), 3) := by decide +kernel
theorem dX4_burnt_44 : decode cX4_burnt 44 = .ok (.iload_n 1, 1) := by decide +kernel
theorem dX4_burnt_45 : decode cX4_burnt 45 = .ok (.ireturn, 1) := by decide +kernel
theorem dJ9_floorDiv_7cf53_0 : decode cJ9_floorDiv_7cf53 0 = .ok (.iload_n 0, 1) := by decide +kernel
theorem dJ9_floorDiv_7cf53_1 : decode cJ9_floorDiv_7cf53 1 = .ok (.iload_n 1, 1) := by decide +kernel
theorem dJ9_floorDiv_7cf53_2 : decode cJ9_floorDiv_7cf53 2 = .ok (.idiv, 1) := by decide +kernel
theorem dJ9_floorDiv_7cf53_3 : decode cJ9_floorDiv_7cf53 3 = .ok (.istore_n 2, 1) := by decide +kernel
theorem dJ9_floorDiv_7cf53_4 : decode cJ9_floorDiv_7cf53 4 = .ok (.iload_n 0, 1) := by decide +kernel
theorem dJ9_floorDiv_7cf53_5 : decode cJ9_floorDiv_7cf53 5 = .ok (.iload_n 1, 1) := by decide +kernel
theorem dJ9_floorDiv_7cf53_6 : decode cJ9_floorDiv_7cf53 6 = .ok (.ixor, 1) := by decide +kernel
theorem dJ9_floorDiv_7cf53_7 : decode cJ9_floorDiv_7cf53 7 = .ok (.ifCond .ge 14, 3) := by decide +kernel
theorem dJ9_floorDiv_7cf53_10 : decode cJ9_floorDiv_7cf53 10 = .ok (.iload_n 2, 1) := by decide +kernel
theorem dJ9_floorDiv_7cf53_11 : decode cJ9_floorDiv_7cf53 11 = .ok (.iload_n 1, 1) := by decide +kernel
theorem dJ9_floorDiv_7cf53_12 : decode cJ9_floorDiv_7cf53 12 = .ok (.imul, 1) := by decide +kernel
theorem dJ9_floorDiv_7cf53_13 : decode cJ9_floorDiv_7cf53 13 = .ok (.iload_n 0, 1) := by decide +kernel
theorem dJ9_floorDiv_7cf53_14 : decode cJ9_floorDiv_7cf53 14 = .ok (.if_icmp .eq 7, 3) := by decide +kernel
theorem dJ9_floorDiv_7cf53_17 : decode cJ9_floorDiv_7cf53 17 = .ok (.iload_n 2, 1) := by decide +kernel
theorem dJ9_floorDiv_7cf53_18 : decode cJ9_floorDiv_7cf53 18 = .ok (.iconst 1, 1) := by decide +kernel
theorem dJ9_floorDiv_7cf53_19 : decode cJ9_floorDiv_7cf53 19 = .ok (.isub, 1) := by decide +kernel
theorem dJ9_floorDiv_7cf53_20 : decode cJ9_floorDiv_7cf53 20 = .ok (.ireturn, 1) := by decide +kernel
theorem dJ9_floorDiv_7cf53_21 : decode cJ9_floorDiv_7cf53 21 = .ok (.iload_n 2, 1) := by decide +kernel
theorem dJ9_floorDiv_7cf53_22 : decode cJ9_floorDiv_7cf53 22 = .ok (.ireturn, 1) := by decide +kernel
theorem dJ9_abs_0f7a4_0 : decode cJ9_abs_0f7a4 0 = .ok (.iload_n 0, 1) := by decide +kernel
theorem dJ9_abs_0f7a4_1 : decode cJ9_abs_0f7a4 1 = .ok (.ifCond .ge 8, 3) := by decide +kernel
theorem dJ9_abs_0f7a4_4 : decode cJ9_abs_0f7a4 4 = .ok (.iload_n 0, 1) := by decide +kernel
theorem dJ9_abs_0f7a4_5 : decode cJ9_abs_0f7a4 5 = .ok (.ineg, 1) := by decide +kernel
theorem dJ9_abs_0f7a4_6 : decode cJ9_abs_0f7a4 6 = .ok (.goto 4, 3) := by decide +kernel
theorem dJ9_abs_0f7a4_9 : decode cJ9_abs_0f7a4 9 = .ok (.iload_n 0, 1) := by decide +kernel
theorem dJ9_abs_0f7a4_10 : decode cJ9_abs_0f7a4 10 = .ok (.ireturn, 1) := by decide +kernel
theorem dJ7_fill_53178_0 : decode cJ7_fill_53178 0 = .ok (.iconst 0, 1) := by decide +kernel
theorem dJ7_fill_53178_1 : decode cJ7_fill_53178 1 = .ok (.istore_n 2, 1) := by decide +kernel
theorem dJ7_fill_53178_2 : decode cJ7_fill_53178 2 = .ok (.aload_n 0, 1) := by decide +kernel
theorem dJ7_fill_53178_3 : decode cJ7_fill_53178 3 = .ok (.arraylength, 1) := by decide +kernel
theorem dJ7_fill_53178_4 : decode cJ7_fill_53178 4 = .ok (.istore_n 3, 1) := by decide +kernel
theorem dJ7_fill_53178_5 : decode cJ7_fill_53178 5 = .ok (.iload_n 2, 1) := by decide +kernel
theorem dJ7_fill_53178_6 : decode cJ7_fill_53178 6 = .ok (.iload_n 3, 1) := by decide +kernel
theorem dJ7_fill_53178_7 : decode cJ7_fill_53178 7 = .ok (.if_icmp .ge 13, 3) := by decide +kernel
theorem dJ7_fill_53178_10 : decode cJ7_fill_53178 10 = .ok (.aload_n 0, 1) := by decide +kernel
theorem dJ7_fill_53178_11 : decode cJ7_fill_53178 11 = .ok (.iload_n 2, 1) := by decide +kernel
theorem dJ7_fill_53178_12 : decode cJ7_fill_53178 12 = .ok (.iload_n 1, 1) := by decide +kernel
theorem dJ7_fill_53178_13 : decode cJ7_fill_53178 13 = .ok (.iastore, 1) := by decide +kernel
theorem dJ7_fill_53178_14 : decode cJ7_fill_53178 14 = .ok (.iinc 2 1, 3) := by decide +kernel
theorem dJ7_fill_53178_17 : decode cJ7_fill_53178 17 = .ok (.goto (-12), 3) := by decide +kernel
theorem dJ7_fill_53178_20 : decode cJ7_fill_53178 20 = .ok (.return_, 1) := by decide +kernel
end
section
set_option maxRecDepth 20000 in
theorem ggL_bar_X3_bar : GoodIn wsL_bar wsX3_bar := goodIn_ca (goodIn_ca (goodIn_ca (goodIn_r _ [8, 9, 10, 11, 12, 13, 14, 15, 7, 16, 17, 18, 19, 20, 21, 22, 23, 24, 25, 26, 27, 28, 29, 30, 31, 32, 33, 34, 35, 36, 37, 38, 39, 40, 41, 42, 43] (by decide +kernel) (by decide +kernel)) (goodIn_sub (fun _ h => List.mem_cons_of_mem _ (List.mem_append_left _ (List.mem_append_left _ (List.mem_append_right _ h)))) (by decide +kernel))) (goodIn_sub (fun _ h => List.mem_cons_of_mem _ (List.mem_append_left _ (List.mem_append_right _ h))) (by decide +kernel))) (goodIn_sub (fun _ h => List.mem_cons_of_mem _ (List.mem_append_right _ h)) (by decide +kernel))
set_option maxRecDepth 20000 in
theorem gL_bar_X3_bar : GoodIn wsL_bar (wsV RL 7 RX3 yX3_bar wsX3_bar) := goodIn_app (goodIn_of _ (by decide +kernel)) ggL_bar_X3_bar
theorem dL_bar_0 : decode cL_bar 0 = .ok (.aload 4, 2) := by decide +kernel
theorem dL_bar_2 : decode cL_bar 2 = .ok (.iconst 0, 1) := by decide +kernel
theorem dL_bar_3 : decode cL_bar 3 = .ok (.aload_n 0, 1) := by decide +kernel
theorem dL_bar_4 : decode cL_bar 4 = .ok (.iload_n 1, 1) := by decide +kernel
theorem dL_bar_5 : decode cL_bar 5 = .ok (.iload_n 2, 1) := by decide +kernel
theorem dL_bar_6 : decode cL_bar 6 = .ok (.iload_n 3, 1) := by decide +kernel
theorem dL_bar_7 : decode cL_bar 7 = .ok (.invokevirtual 7, 3) := by decide +kernel
theorem dL_bar_10 : decode cL_bar 10 = .ok (.i2l, 1) := by decide +kernel
theorem dL_bar_11 : decode cL_bar 11 = .ok (.lastore, 1) := by decide +kernel
theorem dL_bar_12 : decode cL_bar 12 = .ok (.goto 15, 3) := by decide +kernel
theorem dL_bar_15 : decode cL_bar 15 = .ok (.astore 5, 2) := by decide +kernel
theorem dL_bar_17 : decode cL_bar 17 = .ok (.iconst 1, 1) := by decide +kernel
theorem dL_bar_18 : decode cL_bar 18 = .ok (.ireturn, 1) := by decide +kernel
theorem dL_bar_19 : decode cL_bar 19 = .ok (.astore 5, 2) := by decide +kernel
theorem dL_bar_21 : decode cL_bar 21 = .ok (.iconst 2, 1) := by decide +kernel
theorem dL_bar_22 : decode cL_bar 22 = .ok (.ireturn, 1) := by decide +kernel
theorem dL_bar_23 : decode cL_bar 23 = .ok (.astore 5, 2) := by decide +kernel
theorem dL_bar_25 : decode cL_bar 25 = .ok (.iconst 3, 1) := by decide +kernel
theorem dL_bar_26 : decode cL_bar 26 = .ok (.ireturn, 1) := by decide +kernel
theorem dL_bar_27 : decode cL_bar 27 = .ok (.iconst 0, 1) := by decide +kernel
theorem dL_bar_28 : decode cL_bar 28 = .ok (.ireturn, 1) := by decide +kernel
set_option maxRecDepth 20000 in
theorem ggL_lamp_X3_lamp : GoodIn wsL_lamp wsX3_lamp := goodIn_ca (goodIn_ca (goodIn_r _ [7, 8, 9, 10, 11, 12, 13, 14, 15, 6, 16, 17, 18, 19, 20, 21, 22, 23, 24, 25, 26, 27, 28, 29, 30, 31, 32, 33, 34, 35, 36, 37, 38, 39, 40, 41, 42, 43, 44, 45, 46] (by decide +kernel) (by decide +kernel)) (goodIn_sub (fun _ h => List.mem_cons_of_mem _ (List.mem_append_left _ (List.mem_append_right _ h))) (by decide +kernel))) (goodIn_sub (fun _ h => List.mem_cons_of_mem _ (List.mem_append_right _ h)) (by decide +kernel))
set_option maxRecDepth 20000 in
theorem gL_lamp_X3_lamp : GoodIn wsL_lamp (wsV RL 19 RX3 yX3_lamp wsX3_lamp) := goodIn_app (goodIn_of _ (by decide +kernel)) ggL_lamp_X3_lamp
theorem dL_lamp_0 : decode cL_lamp 0 = .ok (.aload_n 3, 1) := by decide +kernel
theorem dL_lamp_1 : decode cL_lamp 1 = .ok (.iconst 0, 1) := by decide +kernel
theorem dL_lamp_2 : decode cL_lamp 2 = .ok (.aload_n 0, 1) := by decide +kernel
theorem dL_lamp_3 : decode cL_lamp 3 = .ok (.iload_n 1, 1) := by decide +kernel
theorem dL_lamp_4 : decode cL_lamp 4 = .ok (.iload_n 2, 1) := by decide +kernel
theorem dL_lamp_5 : decode cL_lamp 5 = .ok (.invokevirtual 19, 3) := by decide +kernel
theorem dL_lamp_8 : decode cL_lamp 8 = .ok (.i2l, 1) := by decide +kernel
theorem dL_lamp_9 : decode cL_lamp 9 = .ok (.lastore, 1) := by decide +kernel
theorem dL_lamp_10 : decode cL_lamp 10 = .ok (.goto 11, 3) := by decide +kernel
theorem dL_lamp_13 : decode cL_lamp 13 = .ok (.astore 4, 2) := by decide +kernel
theorem dL_lamp_15 : decode cL_lamp 15 = .ok (.iconst 1, 1) := by decide +kernel
theorem dL_lamp_16 : decode cL_lamp 16 = .ok (.ireturn, 1) := by decide +kernel
theorem dL_lamp_17 : decode cL_lamp 17 = .ok (.astore 4, 2) := by decide +kernel
theorem dL_lamp_19 : decode cL_lamp 19 = .ok (.iconst 2, 1) := by decide +kernel
theorem dL_lamp_20 : decode cL_lamp 20 = .ok (.ireturn, 1) := by decide +kernel
theorem dL_lamp_21 : decode cL_lamp 21 = .ok (.iconst 0, 1) := by decide +kernel
theorem dL_lamp_22 : decode cL_lamp 22 = .ok (.ireturn, 1) := by decide +kernel
set_option maxRecDepth 20000 in
theorem ggL_hang_X3_hang : GoodIn wsL_hang wsX3_hang := goodIn_ca (goodIn_ca (goodIn_r _ [7, 8, 9, 10, 11, 12, 13, 14, 15, 6, 16, 17, 18, 19, 20, 21, 22, 23, 24, 25, 26, 27, 28, 29, 30, 31, 32, 33, 34, 35, 36, 37, 38, 39, 40, 41, 42, 43, 44, 45, 46, 47, 48, 49, 50, 51, 52, 53, 54, 55, 56, 57, 58, 59, 60, 61, 62, 63, 64, 65, 66, 67, 68, 69, 70] (by decide +kernel) (by decide +kernel)) (goodIn_sub (fun _ h => List.mem_cons_of_mem _ (List.mem_append_left _ (List.mem_append_right _ h))) (by decide +kernel))) (goodIn_sub (fun _ h => List.mem_cons_of_mem _ (List.mem_append_right _ h)) (by decide +kernel))
set_option maxRecDepth 20000 in
theorem gL_hang_X3_hang : GoodIn wsL_hang (wsV RL 23 RX3 yX3_hang wsX3_hang) := goodIn_app (goodIn_of _ (by decide +kernel)) ggL_hang_X3_hang
theorem dL_hang_0 : decode cL_hang 0 = .ok (.aload 4, 2) := by decide +kernel
theorem dL_hang_2 : decode cL_hang 2 = .ok (.iconst 0, 1) := by decide +kernel
theorem dL_hang_3 : decode cL_hang 3 = .ok (.aload_n 0, 1) := by decide +kernel
theorem dL_hang_4 : decode cL_hang 4 = .ok (.iload_n 1, 1) := by decide +kernel
theorem dL_hang_5 : decode cL_hang 5 = .ok (.iload_n 2, 1) := by decide +kernel
theorem dL_hang_6 : decode cL_hang 6 = .ok (.iload_n 3, 1) := by decide +kernel
theorem dL_hang_7 : decode cL_hang 7 = .ok (.invokevirtual 23, 3) := by decide +kernel
theorem dL_hang_10 : decode cL_hang 10 = .ok (.i2l, 1) := by decide +kernel
theorem dL_hang_11 : decode cL_hang 11 = .ok (.lastore, 1) := by decide +kernel
theorem dL_hang_12 : decode cL_hang 12 = .ok (.goto 11, 3) := by decide +kernel
theorem dL_hang_15 : decode cL_hang 15 = .ok (.astore 5, 2) := by decide +kernel
theorem dL_hang_17 : decode cL_hang 17 = .ok (.iconst 1, 1) := by decide +kernel
theorem dL_hang_18 : decode cL_hang 18 = .ok (.ireturn, 1) := by decide +kernel
theorem dL_hang_19 : decode cL_hang 19 = .ok (.astore 5, 2) := by decide +kernel
theorem dL_hang_21 : decode cL_hang 21 = .ok (.iconst 2, 1) := by decide +kernel
theorem dL_hang_22 : decode cL_hang 22 = .ok (.ireturn, 1) := by decide +kernel
theorem dL_hang_23 : decode cL_hang 23 = .ok (.iconst 0, 1) := by decide +kernel
theorem dL_hang_24 : decode cL_hang 24 = .ok (.ireturn, 1) := by decide +kernel
set_option maxRecDepth 20000 in
theorem ggL_down_X3_down : GoodIn wsL_down wsX3_down := goodIn_ca (goodIn_r _ [6, 7, 8, 9, 10, 5, 11, 12, 13, 14, 15, 16, 17, 18, 19, 20, 21, 22, 23, 24, 25, 26, 27, 28, 29, 30, 31, 32, 33, 34] (by decide +kernel) (by decide +kernel)) (goodIn_sub (fun _ h => List.mem_cons_of_mem _ (List.mem_append_right _ h)) (by decide +kernel))
set_option maxRecDepth 20000 in
theorem gL_down_X3_down : GoodIn wsL_down (wsV RL 26 RX3 yX3_down wsX3_down) := goodIn_app (goodIn_of _ (by decide +kernel)) ggL_down_X3_down
theorem dL_down_0 : decode cL_down 0 = .ok (.aload_n 2, 1) := by decide +kernel
theorem dL_down_1 : decode cL_down 1 = .ok (.iconst 0, 1) := by decide +kernel
theorem dL_down_2 : decode cL_down 2 = .ok (.aload_n 0, 1) := by decide +kernel
theorem dL_down_3 : decode cL_down 3 = .ok (.iload_n 1, 1) := by decide +kernel
theorem dL_down_4 : decode cL_down 4 = .ok (.invokevirtual 26, 3) := by decide +kernel
theorem dL_down_7 : decode cL_down 7 = .ok (.ifCond .eq 7, 3) := by decide +kernel
theorem dL_down_10 : decode cL_down 10 = .ok (.lconst 1, 1) := by decide +kernel
theorem dL_down_11 : decode cL_down 11 = .ok (.goto 4, 3) := by decide +kernel
theorem dL_down_14 : decode cL_down 14 = .ok (.lconst 0, 1) := by decide +kernel
theorem dL_down_15 : decode cL_down 15 = .ok (.lastore, 1) := by decide +kernel
theorem dL_down_16 : decode cL_down 16 = .ok (.goto 6, 3) := by decide +kernel
theorem dL_down_19 : decode cL_down 19 = .ok (.astore_n 3, 1) := by decide +kernel
theorem dL_down_20 : decode cL_down 20 = .ok (.iconst 1, 1) := by decide +kernel
theorem dL_down_21 : decode cL_down 21 = .ok (.ireturn, 1) := by decide +kernel
theorem dL_down_22 : decode cL_down 22 = .ok (.iconst 0, 1) := by decide +kernel
theorem dL_down_23 : decode cL_down 23 = .ok (.ireturn, 1) := by decide +kernel
set_option maxRecDepth 20000 in
theorem ggL_onBar_X3_onBar : GoodIn wsL_onBar wsX3_onBar := goodIn_ca (goodIn_r _ [6, 7, 8, 9, 10, 11, 12, 5, 13, 14, 15, 16, 17, 18, 19, 20, 21, 22, 23, 24, 25, 26, 27, 28, 29, 30, 31, 32, 33, 34, 35, 36, 37, 38, 39, 40, 41, 42, 43] (by decide +kernel) (by decide +kernel)) (goodIn_sub (fun _ h => List.mem_cons_of_mem _ (List.mem_append_right _ h)) (by decide +kernel))
set_option maxRecDepth 20000 in
theorem gL_onBar_X3_onBar : GoodIn wsL_onBar (wsV RL 30 RX3 yX3_onBar wsX3_onBar) := goodIn_app (goodIn_of _ (by decide +kernel)) ggL_onBar_X3_onBar
theorem dL_onBar_0 : decode cL_onBar 0 = .ok (.aload_n 3, 1) := by decide +kernel
theorem dL_onBar_1 : decode cL_onBar 1 = .ok (.iconst 0, 1) := by decide +kernel
theorem dL_onBar_2 : decode cL_onBar 2 = .ok (.aload_n 0, 1) := by decide +kernel
theorem dL_onBar_3 : decode cL_onBar 3 = .ok (.iload_n 1, 1) := by decide +kernel
theorem dL_onBar_4 : decode cL_onBar 4 = .ok (.iload_n 2, 1) := by decide +kernel
theorem dL_onBar_5 : decode cL_onBar 5 = .ok (.invokevirtual 30, 3) := by decide +kernel
theorem dL_onBar_8 : decode cL_onBar 8 = .ok (.i2l, 1) := by decide +kernel
theorem dL_onBar_9 : decode cL_onBar 9 = .ok (.lastore, 1) := by decide +kernel
theorem dL_onBar_10 : decode cL_onBar 10 = .ok (.goto 7, 3) := by decide +kernel
theorem dL_onBar_13 : decode cL_onBar 13 = .ok (.astore 4, 2) := by decide +kernel
theorem dL_onBar_15 : decode cL_onBar 15 = .ok (.iconst 1, 1) := by decide +kernel
theorem dL_onBar_16 : decode cL_onBar 16 = .ok (.ireturn, 1) := by decide +kernel
theorem dL_onBar_17 : decode cL_onBar 17 = .ok (.iconst 0, 1) := by decide +kernel
theorem dL_onBar_18 : decode cL_onBar 18 = .ok (.ireturn, 1) := by decide +kernel
set_option maxRecDepth 20000 in
theorem ggL_where_X3_where : GoodIn wsL_where wsX3_where := goodIn_ca (goodIn_r _ [6, 7, 8, 9, 10, 5, 11, 12, 13, 14, 15, 16, 17, 18, 19, 20, 21, 22, 23, 24, 25, 26, 27, 28, 29, 30, 31, 32, 33, 34] (by decide +kernel) (by decide +kernel)) (goodIn_sub (fun _ h => List.mem_cons_of_mem _ (List.mem_append_right _ h)) (by decide +kernel))
set_option maxRecDepth 20000 in
theorem gL_where_X3_where : GoodIn wsL_where (wsV RL 33 RX3 yX3_where wsX3_where) := goodIn_app (goodIn_of _ (by decide +kernel)) ggL_where_X3_where
theorem dL_where_0 : decode cL_where 0 = .ok (.aload_n 2, 1) := by decide +kernel
theorem dL_where_1 : decode cL_where 1 = .ok (.iconst 0, 1) := by decide +kernel
theorem dL_where_2 : decode cL_where 2 = .ok (.aload_n 0, 1) := by decide +kernel
theorem dL_where_3 : decode cL_where 3 = .ok (.iload_n 1, 1) := by decide +kernel
theorem dL_where_4 : decode cL_where 4 = .ok (.invokevirtual 33, 3) := by decide +kernel
theorem dL_where_7 : decode cL_where 7 = .ok (.i2l, 1) := by decide +kernel
theorem dL_where_8 : decode cL_where 8 = .ok (.lastore, 1) := by decide +kernel
theorem dL_where_9 : decode cL_where 9 = .ok (.goto 6, 3) := by decide +kernel
theorem dL_where_12 : decode cL_where 12 = .ok (.astore_n 3, 1) := by decide +kernel
theorem dL_where_13 : decode cL_where 13 = .ok (.iconst 1, 1) := by decide +kernel
theorem dL_where_14 : decode cL_where 14 = .ok (.ireturn, 1) := by decide +kernel
theorem dL_where_15 : decode cL_where 15 = .ok (.iconst 0, 1) := by decide +kernel
theorem dL_where_16 : decode cL_where 16 = .ok (.ireturn, 1) := by decide +kernel
set_option maxRecDepth 20000 in
theorem ggL_patch_X3_patch : GoodIn wsL_patch wsX3_patch := goodIn_ca (goodIn_ca (goodIn_r _ [7, 8, 9, 10, 11, 6, 12, 13, 14, 15, 16, 17, 18, 19, 20, 21, 22, 23, 24, 25, 26, 27, 28, 29, 30, 31, 32, 33, 34, 35, 36, 37, 38, 39, 40, 41] (by decide +kernel) (by decide +kernel)) (goodIn_sub (fun _ h => List.mem_cons_of_mem _ (List.mem_append_left _ (List.mem_append_right _ h))) (by decide +kernel))) (goodIn_sub (fun _ h => List.mem_cons_of_mem _ (List.mem_append_right _ h)) (by decide +kernel))
set_option maxRecDepth 20000 in
theorem gL_patch_X3_patch : GoodIn wsL_patch (wsV RL 37 RX3 yX3_patch wsX3_patch) := goodIn_app (goodIn_of _ (by decide +kernel)) ggL_patch_X3_patch
theorem dL_patch_0 : decode cL_patch 0 = .ok (.aload_n 3, 1) := by decide +kernel
theorem dL_patch_1 : decode cL_patch 1 = .ok (.iconst 0, 1) := by decide +kernel
theorem dL_patch_2 : decode cL_patch 2 = .ok (.aload_n 0, 1) := by decide +kernel
theorem dL_patch_3 : decode cL_patch 3 = .ok (.iload_n 1, 1) := by decide +kernel
theorem dL_patch_4 : decode cL_patch 4 = .ok (.iload_n 2, 1) := by decide +kernel
theorem dL_patch_5 : decode cL_patch 5 = .ok (.invokevirtual 37, 3) := by decide +kernel
theorem dL_patch_8 : decode cL_patch 8 = .ok (.i2l, 1) := by decide +kernel
theorem dL_patch_9 : decode cL_patch 9 = .ok (.lastore, 1) := by decide +kernel
theorem dL_patch_10 : decode cL_patch 10 = .ok (.goto 11, 3) := by decide +kernel
theorem dL_patch_13 : decode cL_patch 13 = .ok (.astore 4, 2) := by decide +kernel
theorem dL_patch_15 : decode cL_patch 15 = .ok (.iconst 1, 1) := by decide +kernel
theorem dL_patch_16 : decode cL_patch 16 = .ok (.ireturn, 1) := by decide +kernel
theorem dL_patch_17 : decode cL_patch 17 = .ok (.astore 4, 2) := by decide +kernel
theorem dL_patch_19 : decode cL_patch 19 = .ok (.iconst 2, 1) := by decide +kernel
theorem dL_patch_20 : decode cL_patch 20 = .ok (.ireturn, 1) := by decide +kernel
theorem dL_patch_21 : decode cL_patch 21 = .ok (.iconst 0, 1) := by decide +kernel
theorem dL_patch_22 : decode cL_patch 22 = .ok (.ireturn, 1) := by decide +kernel
set_option maxRecDepth 20000 in
theorem ggL_gap_X3_gap : GoodIn wsL_gap wsX3_gap := goodIn_ca (goodIn_r _ [6, 7, 8, 9, 5, 10, 11, 12, 13, 14, 15, 16, 17, 18, 19, 20, 21, 22, 23, 24, 25, 26, 27, 28, 29, 30, 31, 32, 33] (by decide +kernel) (by decide +kernel)) (goodIn_sub (fun _ h => List.mem_cons_of_mem _ (List.mem_append_right _ h)) (by decide +kernel))
set_option maxRecDepth 20000 in
theorem gL_gap_X3_gap : GoodIn wsL_gap (wsV RL 40 RX3 yX3_gap wsX3_gap) := goodIn_app (goodIn_of _ (by decide +kernel)) ggL_gap_X3_gap
theorem dL_gap_0 : decode cL_gap 0 = .ok (.aload_n 2, 1) := by decide +kernel
theorem dL_gap_1 : decode cL_gap 1 = .ok (.iconst 0, 1) := by decide +kernel
theorem dL_gap_2 : decode cL_gap 2 = .ok (.aload_n 0, 1) := by decide +kernel
theorem dL_gap_3 : decode cL_gap 3 = .ok (.iload_n 1, 1) := by decide +kernel
theorem dL_gap_4 : decode cL_gap 4 = .ok (.invokevirtual 40, 3) := by decide +kernel
theorem dL_gap_7 : decode cL_gap 7 = .ok (.i2l, 1) := by decide +kernel
theorem dL_gap_8 : decode cL_gap 8 = .ok (.lastore, 1) := by decide +kernel
theorem dL_gap_9 : decode cL_gap 9 = .ok (.goto 6, 3) := by decide +kernel
theorem dL_gap_12 : decode cL_gap 12 = .ok (.astore_n 3, 1) := by decide +kernel
theorem dL_gap_13 : decode cL_gap 13 = .ok (.iconst 1, 1) := by decide +kernel
theorem dL_gap_14 : decode cL_gap 14 = .ok (.ireturn, 1) := by decide +kernel
theorem dL_gap_15 : decode cL_gap 15 = .ok (.iconst 0, 1) := by decide +kernel
theorem dL_gap_16 : decode cL_gap 16 = .ok (.ireturn, 1) := by decide +kernel
set_option maxRecDepth 20000 in
theorem ggL_plug_X3_plug : GoodIn wsL_plug wsX3_plug := goodIn_ca (goodIn_r _ [6, 7, 8, 9, 10, 5, 11, 12, 13, 14, 15, 16, 17, 18, 19, 20, 21, 22, 23, 24, 25, 26, 27, 28] (by decide +kernel) (by decide +kernel)) (goodIn_sub (fun _ h => List.mem_cons_of_mem _ (List.mem_append_right _ h)) (by decide +kernel))
set_option maxRecDepth 20000 in
theorem gL_plug_X3_plug : GoodIn wsL_plug (wsV RL 43 RX3 yX3_plug wsX3_plug) := goodIn_app (goodIn_of _ (by decide +kernel)) ggL_plug_X3_plug
theorem dL_plug_0 : decode cL_plug 0 = .ok (.aload_n 3, 1) := by decide +kernel
theorem dL_plug_1 : decode cL_plug 1 = .ok (.iconst 0, 1) := by decide +kernel
theorem dL_plug_2 : decode cL_plug 2 = .ok (.aload_n 0, 1) := by decide +kernel
theorem dL_plug_3 : decode cL_plug 3 = .ok (.iload_n 1, 1) := by decide +kernel
theorem dL_plug_4 : decode cL_plug 4 = .ok (.iload_n 2, 1) := by decide +kernel
theorem dL_plug_5 : decode cL_plug 5 = .ok (.invokevirtual 43, 3) := by decide +kernel
theorem dL_plug_8 : decode cL_plug 8 = .ok (.i2l, 1) := by decide +kernel
theorem dL_plug_9 : decode cL_plug 9 = .ok (.lastore, 1) := by decide +kernel
theorem dL_plug_10 : decode cL_plug 10 = .ok (.goto 7, 3) := by decide +kernel
theorem dL_plug_13 : decode cL_plug 13 = .ok (.astore 4, 2) := by decide +kernel
theorem dL_plug_15 : decode cL_plug 15 = .ok (.iconst 1, 1) := by decide +kernel
theorem dL_plug_16 : decode cL_plug 16 = .ok (.ireturn, 1) := by decide +kernel
theorem dL_plug_17 : decode cL_plug 17 = .ok (.iconst 0, 1) := by decide +kernel
theorem dL_plug_18 : decode cL_plug 18 = .ok (.ireturn, 1) := by decide +kernel
set_option maxRecDepth 20000 in
theorem ggL_load_X3_load : GoodIn wsL_load wsX3_load := goodIn_ca (goodIn_r _ [6, 7, 8, 9, 10, 5, 11, 12, 13, 14, 15, 16, 17, 18, 19, 20, 21, 22, 23, 24, 25, 26, 27, 28, 29, 30, 31, 32, 33, 34, 35, 36, 37, 38, 39, 40, 41, 42, 43, 44, 45, 46, 47, 48, 49, 50, 51, 52, 53, 54, 55, 56, 57, 58, 59, 60, 61, 62, 63, 64, 65, 66, 67, 68, 69, 70, 71, 72, 73, 74] (by decide +kernel) (by decide +kernel)) (goodIn_sub (fun _ h => List.mem_cons_of_mem _ (List.mem_append_right _ h)) (by decide +kernel))
set_option maxRecDepth 20000 in
theorem gL_load_X3_load : GoodIn wsL_load (wsV RL 46 RX3 yX3_load wsX3_load) := goodIn_app (goodIn_of _ (by decide +kernel)) ggL_load_X3_load
theorem dL_load_0 : decode cL_load 0 = .ok (.aload_n 2, 1) := by decide +kernel
theorem dL_load_1 : decode cL_load 1 = .ok (.iconst 0, 1) := by decide +kernel
theorem dL_load_2 : decode cL_load 2 = .ok (.aload_n 0, 1) := by decide +kernel
theorem dL_load_3 : decode cL_load 3 = .ok (.iload_n 1, 1) := by decide +kernel
theorem dL_load_4 : decode cL_load 4 = .ok (.invokevirtual 46, 3) := by decide +kernel
theorem dL_load_7 : decode cL_load 7 = .ok (.i2l, 1) := by decide +kernel
theorem dL_load_8 : decode cL_load 8 = .ok (.lastore, 1) := by decide +kernel
theorem dL_load_9 : decode cL_load 9 = .ok (.goto 6, 3) := by decide +kernel
theorem dL_load_12 : decode cL_load 12 = .ok (.astore_n 3, 1) := by decide +kernel
theorem dL_load_13 : decode cL_load 13 = .ok (.iconst 1, 1) := by decide +kernel
theorem dL_load_14 : decode cL_load 14 = .ok (.ireturn, 1) := by decide +kernel
theorem dL_load_15 : decode cL_load 15 = .ok (.iconst 0, 1) := by decide +kernel
theorem dL_load_16 : decode cL_load 16 = .ok (.ireturn, 1) := by decide +kernel
set_option maxRecDepth 20000 in
theorem ggL_cue_X3_cue : GoodIn wsL_cue wsX3_cue := goodIn_ca (goodIn_ca (goodIn_r _ [7, 8, 9, 10, 11, 12, 6, 13, 14, 15, 16, 17, 18, 19, 20, 21, 22, 23, 24, 25, 26, 27, 28, 29, 30, 31, 32, 33, 34, 35, 36, 37, 38, 39, 40, 41] (by decide +kernel) (by decide +kernel)) (goodIn_sub (fun _ h => List.mem_cons_of_mem _ (List.mem_append_left _ (List.mem_append_right _ h))) (by decide +kernel))) (goodIn_sub (fun _ h => List.mem_cons_of_mem _ (List.mem_append_right _ h)) (by decide +kernel))
set_option maxRecDepth 20000 in
theorem gL_cue_X3_cue : GoodIn wsL_cue (wsV RL 49 RX3 yX3_cue wsX3_cue) := goodIn_app (goodIn_of _ (by decide +kernel)) ggL_cue_X3_cue
theorem dL_cue_0 : decode cL_cue 0 = .ok (.aload 4, 2) := by decide +kernel
theorem dL_cue_2 : decode cL_cue 2 = .ok (.iconst 0, 1) := by decide +kernel
theorem dL_cue_3 : decode cL_cue 3 = .ok (.aload_n 0, 1) := by decide +kernel
theorem dL_cue_4 : decode cL_cue 4 = .ok (.iload_n 1, 1) := by decide +kernel
theorem dL_cue_5 : decode cL_cue 5 = .ok (.iload_n 2, 1) := by decide +kernel
theorem dL_cue_6 : decode cL_cue 6 = .ok (.iload_n 3, 1) := by decide +kernel
theorem dL_cue_7 : decode cL_cue 7 = .ok (.invokevirtual 49, 3) := by decide +kernel
theorem dL_cue_10 : decode cL_cue 10 = .ok (.i2l, 1) := by decide +kernel
theorem dL_cue_11 : decode cL_cue 11 = .ok (.lastore, 1) := by decide +kernel
theorem dL_cue_12 : decode cL_cue 12 = .ok (.goto 11, 3) := by decide +kernel
theorem dL_cue_15 : decode cL_cue 15 = .ok (.astore 5, 2) := by decide +kernel
theorem dL_cue_17 : decode cL_cue 17 = .ok (.iconst 1, 1) := by decide +kernel
theorem dL_cue_18 : decode cL_cue 18 = .ok (.ireturn, 1) := by decide +kernel
theorem dL_cue_19 : decode cL_cue 19 = .ok (.astore 5, 2) := by decide +kernel
theorem dL_cue_21 : decode cL_cue 21 = .ok (.iconst 2, 1) := by decide +kernel
theorem dL_cue_22 : decode cL_cue 22 = .ok (.ireturn, 1) := by decide +kernel
theorem dL_cue_23 : decode cL_cue 23 = .ok (.iconst 0, 1) := by decide +kernel
theorem dL_cue_24 : decode cL_cue 24 = .ok (.ireturn, 1) := by decide +kernel
set_option maxRecDepth 20000 in
theorem ggL_name_X3_name : GoodIn wsL_name wsX3_name := goodIn_ca (goodIn_ca (goodIn_r _ [7, 8, 9, 10, 11, 12, 13, 6, 14, 15, 16, 17, 18, 19, 20, 21, 22, 23, 24, 25, 26, 27, 28, 29, 30, 31, 32, 33, 34, 35, 36, 37, 38, 39, 40, 41] (by decide +kernel) (by decide +kernel)) (goodIn_sub (fun _ h => List.mem_cons_of_mem _ (List.mem_append_left _ (List.mem_append_right _ h))) (by decide +kernel))) (goodIn_sub (fun _ h => List.mem_cons_of_mem _ (List.mem_append_right _ h)) (by decide +kernel))
set_option maxRecDepth 20000 in
theorem gL_name_X3_name : GoodIn wsL_name (wsV RL 52 RX3 yX3_name wsX3_name) := goodIn_app (goodIn_of _ (by decide +kernel)) ggL_name_X3_name
theorem dL_name_0 : decode cL_name 0 = .ok (.aload 4, 2) := by decide +kernel
theorem dL_name_2 : decode cL_name 2 = .ok (.iconst 0, 1) := by decide +kernel
theorem dL_name_3 : decode cL_name 3 = .ok (.aload_n 0, 1) := by decide +kernel
theorem dL_name_4 : decode cL_name 4 = .ok (.iload_n 1, 1) := by decide +kernel
theorem dL_name_5 : decode cL_name 5 = .ok (.iload_n 2, 1) := by decide +kernel
theorem dL_name_6 : decode cL_name 6 = .ok (.iload_n 3, 1) := by decide +kernel
theorem dL_name_7 : decode cL_name 7 = .ok (.invokevirtual 52, 3) := by decide +kernel
theorem dL_name_10 : decode cL_name 10 = .ok (.i2l, 1) := by decide +kernel
theorem dL_name_11 : decode cL_name 11 = .ok (.lastore, 1) := by decide +kernel
theorem dL_name_12 : decode cL_name 12 = .ok (.goto 11, 3) := by decide +kernel
theorem dL_name_15 : decode cL_name 15 = .ok (.astore 5, 2) := by decide +kernel
theorem dL_name_17 : decode cL_name 17 = .ok (.iconst 1, 1) := by decide +kernel
theorem dL_name_18 : decode cL_name 18 = .ok (.ireturn, 1) := by decide +kernel
theorem dL_name_19 : decode cL_name 19 = .ok (.astore 5, 2) := by decide +kernel
theorem dL_name_21 : decode cL_name 21 = .ok (.iconst 2, 1) := by decide +kernel
theorem dL_name_22 : decode cL_name 22 = .ok (.ireturn, 1) := by decide +kernel
theorem dL_name_23 : decode cL_name 23 = .ok (.iconst 0, 1) := by decide +kernel
theorem dL_name_24 : decode cL_name 24 = .ok (.ireturn, 1) := by decide +kernel
set_option maxRecDepth 20000 in
theorem ggL_go_X3_go : GoodIn wsL_go wsX3_go := goodIn_ca (goodIn_r _ [6, 7, 8, 9, 10, 11, 12, 13, 14, 15, 16, 17, 18, 19, 20, 21, 22, 23, 24, 25, 26, 27, 28, 29, 30, 31, 32, 33, 34, 35, 36, 37, 38, 39, 40, 41, 42, 43, 44, 45, 46, 47, 48, 49, 50, 51, 52, 53, 54, 55, 56, 57, 58, 59, 60] (by decide +kernel) (by decide +kernel)) (goodIn_sub (fun _ h => List.mem_cons_of_mem _ (List.mem_append_right _ h)) (by decide +kernel))
set_option maxRecDepth 20000 in
theorem gL_go_X3_go : GoodIn wsL_go (wsV RL 55 RX3 yX3_go wsX3_go) := goodIn_app (goodIn_of _ (by decide +kernel)) ggL_go_X3_go
theorem dL_go_0 : decode cL_go 0 = .ok (.aload_n 1, 1) := by decide +kernel
theorem dL_go_1 : decode cL_go 1 = .ok (.iconst 0, 1) := by decide +kernel
theorem dL_go_2 : decode cL_go 2 = .ok (.aload_n 0, 1) := by decide +kernel
theorem dL_go_3 : decode cL_go 3 = .ok (.invokevirtual 55, 3) := by decide +kernel
theorem dL_go_6 : decode cL_go 6 = .ok (.i2l, 1) := by decide +kernel
theorem dL_go_7 : decode cL_go 7 = .ok (.lastore, 1) := by decide +kernel
theorem dL_go_8 : decode cL_go 8 = .ok (.goto 6, 3) := by decide +kernel
theorem dL_go_11 : decode cL_go 11 = .ok (.astore_n 2, 1) := by decide +kernel
theorem dL_go_12 : decode cL_go 12 = .ok (.iconst 1, 1) := by decide +kernel
theorem dL_go_13 : decode cL_go 13 = .ok (.ireturn, 1) := by decide +kernel
theorem dL_go_14 : decode cL_go 14 = .ok (.iconst 0, 1) := by decide +kernel
theorem dL_go_15 : decode cL_go 15 = .ok (.ireturn, 1) := by decide +kernel
set_option maxRecDepth 20000 in
theorem ggL_tick_X3_tick : GoodIn wsL_tick wsX3_tick := goodIn_ca (goodIn_r _ [6, 7, 8, 9, 5, 10, 11, 12, 13, 14, 15, 16, 17, 18, 19, 20, 21, 22, 23, 24, 25, 26, 27, 28, 29, 30, 31, 32, 33, 34, 35, 36, 37, 38, 39, 40, 41, 42, 43, 44, 45, 46, 47, 48, 49, 50, 51, 52, 53, 54, 55, 56, 57, 58, 59, 60, 61, 62, 63, 64, 65, 66, 67, 68, 69, 70, 71, 72, 73, 74, 75, 76, 77, 78, 79, 80, 81, 82, 83, 84, 85, 86, 87, 88, 89, 90, 91, 92] (by decide +kernel) (by decide +kernel)) (goodIn_sub (fun _ h => List.mem_cons_of_mem _ (List.mem_append_right _ h)) (by decide +kernel))
set_option maxRecDepth 20000 in
theorem gL_tick_X3_tick : GoodIn wsL_tick (wsV RL 59 RX3 yX3_tick wsX3_tick) := goodIn_app (goodIn_of _ (by decide +kernel)) ggL_tick_X3_tick
theorem dL_tick_0 : decode cL_tick 0 = .ok (.aload_n 2, 1) := by decide +kernel
theorem dL_tick_1 : decode cL_tick 1 = .ok (.iconst 0, 1) := by decide +kernel
theorem dL_tick_2 : decode cL_tick 2 = .ok (.aload_n 0, 1) := by decide +kernel
theorem dL_tick_3 : decode cL_tick 3 = .ok (.iload_n 1, 1) := by decide +kernel
theorem dL_tick_4 : decode cL_tick 4 = .ok (.invokevirtual 59, 3) := by decide +kernel
theorem dL_tick_7 : decode cL_tick 7 = .ok (.i2l, 1) := by decide +kernel
theorem dL_tick_8 : decode cL_tick 8 = .ok (.lastore, 1) := by decide +kernel
theorem dL_tick_9 : decode cL_tick 9 = .ok (.goto 6, 3) := by decide +kernel
theorem dL_tick_12 : decode cL_tick 12 = .ok (.astore_n 3, 1) := by decide +kernel
theorem dL_tick_13 : decode cL_tick 13 = .ok (.iconst 1, 1) := by decide +kernel
theorem dL_tick_14 : decode cL_tick 14 = .ok (.ireturn, 1) := by decide +kernel
theorem dL_tick_15 : decode cL_tick 15 = .ok (.iconst 0, 1) := by decide +kernel
theorem dL_tick_16 : decode cL_tick 16 = .ok (.ireturn, 1) := by decide +kernel
set_option maxRecDepth 20000 in
theorem ggL_level_X3_level : GoodIn wsL_level wsX3_level := goodIn_ca (goodIn_r _ [6, 7, 8, 9, 5, 10, 11, 12, 13, 14, 15, 16, 17, 18, 19, 20, 21, 22, 23, 24, 25, 26, 27, 28, 29, 30, 31, 32, 33, 34, 35, 36, 37, 38, 39, 40, 41, 42, 43, 44, 45, 46, 47, 48, 49, 50, 51, 52, 53, 54, 55, 56, 57, 58, 59, 60, 61, 62, 63, 64, 65, 66, 67, 68, 69, 70] (by decide +kernel) (by decide +kernel)) (goodIn_sub (fun _ h => List.mem_cons_of_mem _ (List.mem_append_right _ h)) (by decide +kernel))
set_option maxRecDepth 20000 in
theorem gL_level_X3_level : GoodIn wsL_level (wsV RL 62 RX3 yX3_level wsX3_level) := goodIn_app (goodIn_of _ (by decide +kernel)) ggL_level_X3_level
theorem dL_level_0 : decode cL_level 0 = .ok (.aload_n 2, 1) := by decide +kernel
theorem dL_level_1 : decode cL_level 1 = .ok (.iconst 0, 1) := by decide +kernel
theorem dL_level_2 : decode cL_level 2 = .ok (.aload_n 0, 1) := by decide +kernel
theorem dL_level_3 : decode cL_level 3 = .ok (.iload_n 1, 1) := by decide +kernel
theorem dL_level_4 : decode cL_level 4 = .ok (.invokevirtual 62, 3) := by decide +kernel
theorem dL_level_7 : decode cL_level 7 = .ok (.i2l, 1) := by decide +kernel
theorem dL_level_8 : decode cL_level 8 = .ok (.lastore, 1) := by decide +kernel
theorem dL_level_9 : decode cL_level 9 = .ok (.goto 6, 3) := by decide +kernel
theorem dL_level_12 : decode cL_level 12 = .ok (.astore_n 3, 1) := by decide +kernel
theorem dL_level_13 : decode cL_level 13 = .ok (.iconst 1, 1) := by decide +kernel
theorem dL_level_14 : decode cL_level 14 = .ok (.ireturn, 1) := by decide +kernel
theorem dL_level_15 : decode cL_level 15 = .ok (.iconst 0, 1) := by decide +kernel
theorem dL_level_16 : decode cL_level 16 = .ok (.ireturn, 1) := by decide +kernel
set_option maxRecDepth 20000 in
theorem ggL_wanted_X3_wanted : GoodIn wsL_wanted wsX3_wanted := goodIn_ca (goodIn_r _ [6, 7, 8, 9, 10, 5, 11, 12, 13, 14, 15, 16, 17, 18, 19, 20, 21, 22, 23, 24, 25, 26, 27, 28, 29, 30, 31, 32, 33, 34, 35, 36, 37, 38, 39, 40, 41, 42, 43, 44, 45, 46, 47, 48, 49, 50, 51] (by decide +kernel) (by decide +kernel)) (goodIn_sub (fun _ h => List.mem_cons_of_mem _ (List.mem_append_right _ h)) (by decide +kernel))
set_option maxRecDepth 20000 in
theorem gL_wanted_X3_wanted : GoodIn wsL_wanted (wsV RL 65 RX3 yX3_wanted wsX3_wanted) := goodIn_app (goodIn_of _ (by decide +kernel)) ggL_wanted_X3_wanted
theorem dL_wanted_0 : decode cL_wanted 0 = .ok (.aload_n 2, 1) := by decide +kernel
theorem dL_wanted_1 : decode cL_wanted 1 = .ok (.iconst 0, 1) := by decide +kernel
theorem dL_wanted_2 : decode cL_wanted 2 = .ok (.aload_n 0, 1) := by decide +kernel
theorem dL_wanted_3 : decode cL_wanted 3 = .ok (.iload_n 1, 1) := by decide +kernel
theorem dL_wanted_4 : decode cL_wanted 4 = .ok (.invokevirtual 65, 3) := by decide +kernel
theorem dL_wanted_7 : decode cL_wanted 7 = .ok (.i2l, 1) := by decide +kernel
theorem dL_wanted_8 : decode cL_wanted 8 = .ok (.lastore, 1) := by decide +kernel
theorem dL_wanted_9 : decode cL_wanted 9 = .ok (.goto 6, 3) := by decide +kernel
theorem dL_wanted_12 : decode cL_wanted 12 = .ok (.astore_n 3, 1) := by decide +kernel
theorem dL_wanted_13 : decode cL_wanted 13 = .ok (.iconst 1, 1) := by decide +kernel
theorem dL_wanted_14 : decode cL_wanted 14 = .ok (.ireturn, 1) := by decide +kernel
theorem dL_wanted_15 : decode cL_wanted 15 = .ok (.iconst 0, 1) := by decide +kernel
theorem dL_wanted_16 : decode cL_wanted 16 = .ok (.ireturn, 1) := by decide +kernel
set_option maxRecDepth 20000 in
theorem ggL_wantedByCues_X3_wantedByCues : GoodIn wsL_wantedByCues wsX3_wantedByCues := goodIn_ca (goodIn_r _ [6, 7, 8, 9, 10, 5, 11, 12, 13, 14, 15, 16, 17, 18, 19, 20, 21, 22, 23, 24, 25, 26, 27, 28, 29, 30, 31, 32, 33, 34, 35, 36, 37, 38, 39, 40, 41, 42, 43, 44, 45, 46, 47, 48, 49, 50, 51] (by decide +kernel) (by decide +kernel)) (goodIn_sub (fun _ h => List.mem_cons_of_mem _ (List.mem_append_right _ h)) (by decide +kernel))
set_option maxRecDepth 20000 in
theorem gL_wantedByCues_X3_wantedByCues : GoodIn wsL_wantedByCues (wsV RL 68 RX3 yX3_wantedByCues wsX3_wantedByCues) := goodIn_app (goodIn_of _ (by decide +kernel)) ggL_wantedByCues_X3_wantedByCues
theorem dL_wantedByCues_0 : decode cL_wantedByCues 0 = .ok (.aload_n 2, 1) := by decide +kernel
theorem dL_wantedByCues_1 : decode cL_wantedByCues 1 = .ok (.iconst 0, 1) := by decide +kernel
theorem dL_wantedByCues_2 : decode cL_wantedByCues 2 = .ok (.aload_n 0, 1) := by decide +kernel
theorem dL_wantedByCues_3 : decode cL_wantedByCues 3 = .ok (.iload_n 1, 1) := by decide +kernel
theorem dL_wantedByCues_4 : decode cL_wantedByCues 4 = .ok (.invokevirtual 68, 3) := by decide +kernel
theorem dL_wantedByCues_7 : decode cL_wantedByCues 7 = .ok (.i2l, 1) := by decide +kernel
theorem dL_wantedByCues_8 : decode cL_wantedByCues 8 = .ok (.lastore, 1) := by decide +kernel
theorem dL_wantedByCues_9 : decode cL_wantedByCues 9 = .ok (.goto 6, 3) := by decide +kernel
theorem dL_wantedByCues_12 : decode cL_wantedByCues 12 = .ok (.astore_n 3, 1) := by decide +kernel
theorem dL_wantedByCues_13 : decode cL_wantedByCues 13 = .ok (.iconst 1, 1) := by decide +kernel
theorem dL_wantedByCues_14 : decode cL_wantedByCues 14 = .ok (.ireturn, 1) := by decide +kernel
theorem dL_wantedByCues_15 : decode cL_wantedByCues 15 = .ok (.iconst 0, 1) := by decide +kernel
theorem dL_wantedByCues_16 : decode cL_wantedByCues 16 = .ok (.ireturn, 1) := by decide +kernel
set_option maxRecDepth 20000 in
theorem ggL_bulb_X3_bulb : GoodIn wsL_bulb wsX3_bulb := goodIn_ca (goodIn_r _ [6, 7, 8, 9, 10, 5, 11, 12, 13, 14, 15, 16, 17, 18, 19, 20, 21] (by decide +kernel) (by decide +kernel)) (goodIn_sub (fun _ h => List.mem_cons_of_mem _ (List.mem_append_right _ h)) (by decide +kernel))
set_option maxRecDepth 20000 in
theorem gL_bulb_X3_bulb : GoodIn wsL_bulb (wsV RL 71 RX3 yX3_bulb wsX3_bulb) := goodIn_app (goodIn_of _ (by decide +kernel)) ggL_bulb_X3_bulb
theorem dL_bulb_0 : decode cL_bulb 0 = .ok (.aload_n 2, 1) := by decide +kernel
theorem dL_bulb_1 : decode cL_bulb 1 = .ok (.iconst 0, 1) := by decide +kernel
theorem dL_bulb_2 : decode cL_bulb 2 = .ok (.aload_n 0, 1) := by decide +kernel
theorem dL_bulb_3 : decode cL_bulb 3 = .ok (.iload_n 1, 1) := by decide +kernel
theorem dL_bulb_4 : decode cL_bulb 4 = .ok (.invokevirtual 71, 3) := by decide +kernel
theorem dL_bulb_7 : decode cL_bulb 7 = .ok (.ifCond .eq 7, 3) := by decide +kernel
theorem dL_bulb_10 : decode cL_bulb 10 = .ok (.lconst 1, 1) := by decide +kernel
theorem dL_bulb_11 : decode cL_bulb 11 = .ok (.goto 4, 3) := by decide +kernel
theorem dL_bulb_14 : decode cL_bulb 14 = .ok (.lconst 0, 1) := by decide +kernel
theorem dL_bulb_15 : decode cL_bulb 15 = .ok (.lastore, 1) := by decide +kernel
theorem dL_bulb_16 : decode cL_bulb 16 = .ok (.goto 6, 3) := by decide +kernel
theorem dL_bulb_19 : decode cL_bulb 19 = .ok (.astore_n 3, 1) := by decide +kernel
theorem dL_bulb_20 : decode cL_bulb 20 = .ok (.iconst 1, 1) := by decide +kernel
theorem dL_bulb_21 : decode cL_bulb 21 = .ok (.ireturn, 1) := by decide +kernel
theorem dL_bulb_22 : decode cL_bulb 22 = .ok (.iconst 0, 1) := by decide +kernel
theorem dL_bulb_23 : decode cL_bulb 23 = .ok (.ireturn, 1) := by decide +kernel
set_option maxRecDepth 20000 in
theorem ggL_standIn_X3_standIn : GoodIn wsL_standIn wsX3_standIn := goodIn_ca (goodIn_ca (goodIn_ca (goodIn_r _ [8, 9, 10, 11, 12, 13, 14, 15, 16, 17, 7, 18, 19, 20, 21, 22, 23, 24, 25, 26, 27, 28, 29, 30, 31, 32, 33, 34, 35, 36, 37, 38, 39, 40, 41, 42, 43, 44, 45, 46, 47, 48] (by decide +kernel) (by decide +kernel)) (goodIn_sub (fun _ h => List.mem_cons_of_mem _ (List.mem_append_left _ (List.mem_append_left _ (List.mem_append_right _ h)))) (by decide +kernel))) (goodIn_sub (fun _ h => List.mem_cons_of_mem _ (List.mem_append_left _ (List.mem_append_right _ h))) (by decide +kernel))) (goodIn_sub (fun _ h => List.mem_cons_of_mem _ (List.mem_append_right _ h)) (by decide +kernel))
set_option maxRecDepth 20000 in
theorem gL_standIn_X3_standIn : GoodIn wsL_standIn (wsV RL 74 RX3 yX3_standIn wsX3_standIn) := goodIn_app (goodIn_of _ (by decide +kernel)) ggL_standIn_X3_standIn
theorem dL_standIn_0 : decode cL_standIn 0 = .ok (.aload_n 3, 1) := by decide +kernel
theorem dL_standIn_1 : decode cL_standIn 1 = .ok (.iconst 0, 1) := by decide +kernel
theorem dL_standIn_2 : decode cL_standIn 2 = .ok (.aload_n 0, 1) := by decide +kernel
theorem dL_standIn_3 : decode cL_standIn 3 = .ok (.iload_n 1, 1) := by decide +kernel
theorem dL_standIn_4 : decode cL_standIn 4 = .ok (.iload_n 2, 1) := by decide +kernel
theorem dL_standIn_5 : decode cL_standIn 5 = .ok (.invokevirtual 74, 3) := by decide +kernel
theorem dL_standIn_8 : decode cL_standIn 8 = .ok (.i2l, 1) := by decide +kernel
theorem dL_standIn_9 : decode cL_standIn 9 = .ok (.lastore, 1) := by decide +kernel
theorem dL_standIn_10 : decode cL_standIn 10 = .ok (.goto 15, 3) := by decide +kernel
theorem dL_standIn_13 : decode cL_standIn 13 = .ok (.astore 4, 2) := by decide +kernel
theorem dL_standIn_15 : decode cL_standIn 15 = .ok (.iconst 1, 1) := by decide +kernel
theorem dL_standIn_16 : decode cL_standIn 16 = .ok (.ireturn, 1) := by decide +kernel
theorem dL_standIn_17 : decode cL_standIn 17 = .ok (.astore 4, 2) := by decide +kernel
theorem dL_standIn_19 : decode cL_standIn 19 = .ok (.iconst 2, 1) := by decide +kernel
theorem dL_standIn_20 : decode cL_standIn 20 = .ok (.ireturn, 1) := by decide +kernel
theorem dL_standIn_21 : decode cL_standIn 21 = .ok (.astore 4, 2) := by decide +kernel
theorem dL_standIn_23 : decode cL_standIn 23 = .ok (.iconst 3, 1) := by decide +kernel
theorem dL_standIn_24 : decode cL_standIn 24 = .ok (.ireturn, 1) := by decide +kernel
theorem dL_standIn_25 : decode cL_standIn 25 = .ok (.iconst 0, 1) := by decide +kernel
theorem dL_standIn_26 : decode cL_standIn 26 = .ok (.ireturn, 1) := by decide +kernel
set_option maxRecDepth 20000 in
theorem ggL_colour_X3_colour : GoodIn wsL_colour wsX3_colour := goodIn_ca (goodIn_ca (goodIn_r _ [7, 8, 9, 10, 11, 12, 6, 13, 14, 15, 16, 17, 18, 19, 20, 21, 22, 23, 24, 25, 26, 27, 28] (by decide +kernel) (by decide +kernel)) (goodIn_sub (fun _ h => List.mem_cons_of_mem _ (List.mem_append_left _ (List.mem_append_right _ h))) (by decide +kernel))) (goodIn_sub (fun _ h => List.mem_cons_of_mem _ (List.mem_append_right _ h)) (by decide +kernel))
set_option maxRecDepth 20000 in
theorem gL_colour_X3_colour : GoodIn wsL_colour (wsV RL 77 RX3 yX3_colour wsX3_colour) := goodIn_app (goodIn_of _ (by decide +kernel)) ggL_colour_X3_colour
theorem dL_colour_0 : decode cL_colour 0 = .ok (.aload_n 3, 1) := by decide +kernel
theorem dL_colour_1 : decode cL_colour 1 = .ok (.iconst 0, 1) := by decide +kernel
theorem dL_colour_2 : decode cL_colour 2 = .ok (.aload_n 0, 1) := by decide +kernel
theorem dL_colour_3 : decode cL_colour 3 = .ok (.iload_n 1, 1) := by decide +kernel
theorem dL_colour_4 : decode cL_colour 4 = .ok (.iload_n 2, 1) := by decide +kernel
theorem dL_colour_5 : decode cL_colour 5 = .ok (.invokevirtual 77, 3) := by decide +kernel
theorem dL_colour_8 : decode cL_colour 8 = .ok (.i2l, 1) := by decide +kernel
theorem dL_colour_9 : decode cL_colour 9 = .ok (.lastore, 1) := by decide +kernel
theorem dL_colour_10 : decode cL_colour 10 = .ok (.goto 11, 3) := by decide +kernel
theorem dL_colour_13 : decode cL_colour 13 = .ok (.astore 4, 2) := by decide +kernel
theorem dL_colour_15 : decode cL_colour 15 = .ok (.iconst 1, 1) := by decide +kernel
theorem dL_colour_16 : decode cL_colour 16 = .ok (.ireturn, 1) := by decide +kernel
theorem dL_colour_17 : decode cL_colour 17 = .ok (.astore 4, 2) := by decide +kernel
theorem dL_colour_19 : decode cL_colour 19 = .ok (.iconst 2, 1) := by decide +kernel
theorem dL_colour_20 : decode cL_colour 20 = .ok (.ireturn, 1) := by decide +kernel
theorem dL_colour_21 : decode cL_colour 21 = .ok (.iconst 0, 1) := by decide +kernel
theorem dL_colour_22 : decode cL_colour 22 = .ok (.ireturn, 1) := by decide +kernel
set_option maxRecDepth 20000 in
theorem ggL_law_X3_init : GoodIn wsL_law wsX3_init := goodIn_r _ [9, 10, 11, 12, 13, 14, 15, 16, 17, 18, 19, 20, 21, 22, 23, 24, 25, 26, 27, 28, 29, 30, 31, 32, 33, 34, 35, 36, 37, 38, 39, 40, 41, 42, 43, 44, 45, 46, 47, 48, 49, 50, 51, 52, 53, 54, 55, 56, 57, 58, 59, 60, 61, 62, 63, 64, 65, 66, 67, 68, 556, 557, 558, 559, 560, 561, 562, 591, 592, 593, 594, 595, 596, 597, 598, 599, 600, 601, 602, 603, 604, 605, 606, 607, 608, 609, 610, 611, 612, 613] (by decide +kernel) (by decide +kernel)
set_option maxRecDepth 20000 in
theorem gL_law_X3_init : GoodIn wsL_law (wsX3_init) := ggL_law_X3_init
set_option maxRecDepth 20000 in
theorem ggL_law_X4_init : GoodIn wsL_law wsX4_init := goodIn_r _ [71, 72, 11, 12, 14, 73, 74, 75, 76, 77, 78, 79, 80, 81, 17, 82, 83, 84, 85, 86, 87, 88, 89, 90, 91, 92, 93, 563, 564, 565, 566, 567, 568, 569, 570, 571, 572, 573, 574, 575, 576, 577, 578, 579, 580, 581, 582, 583, 584, 585, 586, 587, 588, 589, 590] (by decide +kernel) (by decide +kernel)
set_option maxRecDepth 20000 in
theorem gL_law_X4_init : GoodIn wsL_law (wsX4_init) := ggL_law_X4_init
set_option maxRecDepth 20000 in
theorem ggL_law_L_bar : GoodIn wsL_law wsL_bar := goodIn_ca (goodIn_ca (goodIn_ca (goodIn_r _ [97, 98, 99, 100, 101, 102, 103, 2, 104, 105, 106, 107, 108, 22, 109, 110, 111, 112, 113, 114, 21, 115, 116, 35, 36, 37, 117, 118, 119, 556, 557, 558, 559, 560, 561, 562, 591, 592, 593, 594, 595, 596, 597, 598] (by decide +kernel) (by decide +kernel)) (goodIn_sub (fun _ h => List.mem_append_left _ (List.mem_append_left _ (List.mem_append_right _ h))) (by decide +kernel))) (goodIn_sub (fun _ h => List.mem_append_left _ (List.mem_append_right _ h)) (by decide +kernel))) (goodIn_sub (fun _ h => List.mem_append_right _ h) (by decide +kernel))
set_option maxRecDepth 20000 in
theorem gL_law_L_bar : GoodIn wsL_law (va_wsS RL 84 yL_bar wsL_bar) := goodIn_app (goodIn_of _ (by decide +kernel)) ggL_law_L_bar
set_option maxRecDepth 20000 in
theorem ggL_law_X4_bar : GoodIn wsL_law wsX4_bar := goodIn_r _ [123, 73, 74, 75, 124, 125, 5, 126, 127, 128, 129, 130, 131, 563, 564, 565, 566, 567, 568, 569, 570, 571, 572, 573, 574, 575, 576, 577, 578, 579, 580, 581, 582, 583, 584, 585, 586, 587, 588, 589, 590] (by decide +kernel) (by decide +kernel)
set_option maxRecDepth 20000 in
theorem gL_law_X4_bar : GoodIn wsL_law (wsV RL 89 RX4 yX4_bar wsX4_bar) := goodIn_app (goodIn_of _ (by decide +kernel)) ggL_law_X4_bar
set_option maxRecDepth 20000 in
theorem ggL_law_X4_thrown : GoodIn wsL_law wsX4_thrown := goodIn_r _ [135, 131, 563, 564, 565, 566, 567, 568, 569, 570, 571, 572, 573, 574, 575, 576, 577, 578, 579, 580, 581, 582, 583, 584, 585, 586, 587, 588, 589, 590] (by decide +kernel) (by decide +kernel)
set_option maxRecDepth 20000 in
theorem gL_law_X4_thrown : GoodIn wsL_law (wsV RL 90 RX4 yX4_thrown wsX4_thrown) := goodIn_app (goodIn_of _ (by decide +kernel)) ggL_law_X4_thrown
set_option maxRecDepth 20000 in
theorem ggL_law_L_lamp : GoodIn wsL_law wsL_lamp := goodIn_ca (goodIn_ca (goodIn_r _ [138, 99, 100, 139, 140, 141, 2, 142, 107, 108, 13, 15, 22, 26, 109, 110, 111, 112, 113, 143, 144, 145, 146, 147, 148, 149, 150, 151, 556, 557, 558, 559, 560, 561, 562, 591, 592, 593, 594, 595, 596, 597, 598, 599, 600, 601, 602] (by decide +kernel) (by decide +kernel)) (goodIn_sub (fun _ h => List.mem_append_left _ (List.mem_append_right _ h)) (by decide +kernel))) (goodIn_sub (fun _ h => List.mem_append_right _ h) (by decide +kernel))
set_option maxRecDepth 20000 in
theorem gL_law_L_lamp : GoodIn wsL_law (va_wsS RL 93 yL_lamp wsL_lamp) := goodIn_app (goodIn_of _ (by decide +kernel)) ggL_law_L_lamp
set_option maxRecDepth 20000 in
theorem ggL_law_X4_lamp : GoodIn wsL_law wsX4_lamp := goodIn_r _ [155, 156, 76, 77, 78, 80, 81, 124, 125, 5, 126, 157, 158, 159, 160, 131, 563, 564, 565, 566, 567, 568, 569, 570, 571, 572, 573, 574, 575, 576, 577, 578, 579, 580, 581, 582, 583, 584, 585, 586, 587, 588, 589, 590] (by decide +kernel) (by decide +kernel)
set_option maxRecDepth 20000 in
theorem gL_law_X4_lamp : GoodIn wsL_law (wsV RL 96 RX4 yX4_lamp wsX4_lamp) := goodIn_app (goodIn_of _ (by decide +kernel)) ggL_law_X4_lamp
set_option maxRecDepth 20000 in
theorem ggL_law_L_hang : GoodIn wsL_law wsL_hang := goodIn_ca (goodIn_ca (goodIn_r _ [163, 98, 100, 164, 165, 166, 2, 167, 105, 106, 107, 108, 22, 168, 169, 170, 171, 13, 172, 173, 174, 175, 176, 21, 177, 178, 35, 34, 179, 180, 181, 36, 117, 118, 119, 182, 183, 184, 39, 38, 37, 185, 186, 187, 188, 189, 190, 191, 41, 192, 193, 194, 195, 196, 197, 198, 556, 557, 558, 559, 560, 561, 562, 591, 592, 593, 594, 595, 596, 597, 598] (by decide +kernel) (by decide +kernel)) (goodIn_sub (fun _ h => List.mem_append_left _ (List.mem_append_left _ (List.mem_append_right _ h))) (by decide +kernel))) (goodIn_sub (fun _ h => List.mem_append_left _ (List.mem_append_right _ h)) (by decide +kernel))
set_option maxRecDepth 20000 in
theorem gL_law_L_hang : GoodIn wsL_law (va_wsS RL 97 yL_hang wsL_hang) := goodIn_app (goodIn_of _ (by decide +kernel)) ggL_law_L_hang
set_option maxRecDepth 20000 in
theorem ggL_law_X4_hang : GoodIn wsL_law wsX4_hang := goodIn_r _ [202, 74, 203, 78, 79, 204, 205, 206, 5, 207, 156, 124, 125, 126, 208, 209, 210, 211, 73, 212, 213, 214, 215, 76, 75, 216, 217, 218, 219, 220, 221, 222, 157, 158, 159, 160, 131, 563, 564, 565, 566, 567, 568, 569, 570, 571, 572, 573, 574, 575, 576, 577, 578, 579, 580, 581, 582, 583, 584, 585, 586, 587, 588, 589, 590] (by decide +kernel) (by decide +kernel)
set_option maxRecDepth 20000 in
theorem gL_law_X4_hang : GoodIn wsL_law (wsV RL 99 RX4 yX4_hang wsX4_hang) := goodIn_app (goodIn_of _ (by decide +kernel)) ggL_law_X4_hang
set_option maxRecDepth 20000 in
theorem ggL_law_L_down : GoodIn wsL_law wsL_down := goodIn_ca (goodIn_r _ [225, 98, 226, 227, 228, 2, 229, 22, 168, 169, 170, 171, 105, 106, 13, 230, 21, 231, 232, 39, 556, 557, 558, 559, 560, 561, 562, 591, 592, 593, 594, 595, 596, 597, 598] (by decide +kernel) (by decide +kernel)) (goodIn_sub (fun _ h => List.mem_append_left _ (List.mem_append_left _ (List.mem_append_right _ h))) (by decide +kernel))
set_option maxRecDepth 20000 in
theorem gL_law_L_down : GoodIn wsL_law (va_wsS RL 100 yL_down wsL_down) := goodIn_app (goodIn_of _ (by decide +kernel)) ggL_law_L_down
set_option maxRecDepth 20000 in
theorem ggL_law_X4_down : GoodIn wsL_law wsX4_down := goodIn_r _ [236, 78, 204, 205, 206, 5, 207, 156, 124, 125, 126, 237, 238, 239, 240, 131, 563, 564, 565, 566, 567, 568, 569, 570, 571, 572, 573, 574, 575, 576, 577, 578, 579, 580, 581, 582, 583, 584, 585, 586, 587, 588, 589, 590] (by decide +kernel) (by decide +kernel)
set_option maxRecDepth 20000 in
theorem gL_law_X4_down : GoodIn wsL_law (wsV RL 103 RX4 yX4_down wsX4_down) := goodIn_app (goodIn_of _ (by decide +kernel)) ggL_law_X4_down
set_option maxRecDepth 20000 in
theorem ggL_law_L_onBar : GoodIn wsL_law wsL_onBar := goodIn_ca (goodIn_r _ [243, 98, 244, 245, 246, 2, 247, 105, 106, 22, 172, 173, 174, 175, 176, 21, 177, 178, 35, 34, 248, 249, 250, 39, 41, 251, 252, 253, 254, 556, 557, 558, 559, 560, 561, 562, 591, 592, 593, 594, 595, 596, 597, 598] (by decide +kernel) (by decide +kernel)) (goodIn_sub (fun _ h => List.mem_append_left _ (List.mem_append_left _ (List.mem_append_right _ h))) (by decide +kernel))
set_option maxRecDepth 20000 in
theorem gL_law_L_onBar : GoodIn wsL_law (va_wsS RL 104 yL_onBar wsL_onBar) := goodIn_app (goodIn_of _ (by decide +kernel)) ggL_law_L_onBar
set_option maxRecDepth 20000 in
theorem ggL_law_X4_onBar : GoodIn wsL_law wsX4_onBar := goodIn_r _ [258, 208, 209, 210, 5, 211, 73, 203, 124, 125, 126, 259, 260, 261, 262, 156, 78, 79, 237, 238, 239, 240, 131, 563, 564, 565, 566, 567, 568, 569, 570, 571, 572, 573, 574, 575, 576, 577, 578, 579, 580, 581, 582, 583, 584, 585, 586, 587, 588, 589, 590] (by decide +kernel) (by decide +kernel)
set_option maxRecDepth 20000 in
theorem gL_law_X4_onBar : GoodIn wsL_law (wsV RL 106 RX4 yX4_onBar wsX4_onBar) := goodIn_app (goodIn_of _ (by decide +kernel)) ggL_law_X4_onBar
set_option maxRecDepth 20000 in
theorem ggL_law_L_where : GoodIn wsL_law wsL_where := goodIn_ca (goodIn_r _ [265, 98, 266, 267, 268, 2, 269, 22, 168, 169, 170, 171, 105, 106, 13, 230, 21, 231, 232, 39, 556, 557, 558, 559, 560, 561, 562, 591, 592, 593, 594, 595, 596, 597, 598] (by decide +kernel) (by decide +kernel)) (goodIn_sub (fun _ h => List.mem_append_left _ (List.mem_append_left _ (List.mem_append_right _ h))) (by decide +kernel))
set_option maxRecDepth 20000 in
theorem gL_law_L_where : GoodIn wsL_law (va_wsS RL 107 yL_where wsL_where) := goodIn_app (goodIn_of _ (by decide +kernel)) ggL_law_L_where
set_option maxRecDepth 20000 in
theorem ggL_law_X4_where : GoodIn wsL_law wsX4_where := goodIn_r _ [273, 78, 79, 204, 205, 206, 5, 207, 156, 124, 125, 126, 237, 238, 239, 240, 131, 563, 564, 565, 566, 567, 568, 569, 570, 571, 572, 573, 574, 575, 576, 577, 578, 579, 580, 581, 582, 583, 584, 585, 586, 587, 588, 589, 590] (by decide +kernel) (by decide +kernel)
set_option maxRecDepth 20000 in
theorem gL_law_X4_where : GoodIn wsL_law (wsV RL 109 RX4 yX4_where wsX4_where) := goodIn_app (goodIn_of _ (by decide +kernel)) ggL_law_X4_where
set_option maxRecDepth 20000 in
theorem ggL_law_X3_tour : GoodIn wsL_law wsX3_tour := goodIn_r _ [277, 22, 278, 21, 279, 280, 40, 39, 34, 281, 282, 283, 284, 41, 285, 176, 177, 178, 35, 286, 182, 183, 184, 38, 37, 185, 186, 187, 188, 117, 118, 119, 287, 288, 289, 290, 291, 179, 180, 181, 36, 292, 189, 190, 191, 192, 193, 194, 195, 293, 196, 197, 198, 556, 557, 558, 559, 560, 561, 562, 591, 592, 593, 594, 595, 596, 597, 598] (by decide +kernel) (by decide +kernel)
set_option maxRecDepth 20000 in
theorem gL_law_X3_tour : GoodIn wsL_law (wsV RL 110 RX3 yX3_tour wsX3_tour) := goodIn_app (goodIn_of _ (by decide +kernel)) ggL_law_X3_tour
set_option maxRecDepth 20000 in
theorem ggL_law_X4_tour : GoodIn wsL_law wsX4_tour := goodIn_r _ [297, 131, 203, 156, 93, 78, 74, 79, 208, 209, 210, 5, 211, 73, 124, 125, 126, 212, 213, 214, 215, 76, 75, 216, 217, 218, 219, 220, 221, 222, 563, 564, 565, 566, 567, 568, 569, 570, 571, 572, 573, 574, 575, 576, 577, 578, 579, 580, 581, 582, 583, 584, 585, 586, 587, 588, 589, 590] (by decide +kernel) (by decide +kernel)
set_option maxRecDepth 20000 in
theorem gL_law_X4_tour : GoodIn wsL_law (wsV RL 113 RX4 yX4_tour wsX4_tour) := goodIn_app (goodIn_of _ (by decide +kernel)) ggL_law_X4_tour
set_option maxRecDepth 20000 in
theorem ggL_law_L_patch : GoodIn wsL_law wsL_patch := goodIn_ca (goodIn_ca (goodIn_r _ [300, 98, 99, 301, 302, 303, 2, 304, 26, 168, 169, 170, 171, 105, 106, 13, 109, 110, 111, 112, 113, 305, 25, 306, 307, 308, 309, 310, 311, 49, 50, 556, 557, 558, 559, 560, 561, 562, 599, 600, 601, 602] (by decide +kernel) (by decide +kernel)) (goodIn_sub (fun _ h => List.mem_append_left _ (List.mem_append_left _ (List.mem_append_right _ h))) (by decide +kernel))) (goodIn_sub (fun _ h => List.mem_append_right _ h) (by decide +kernel))
set_option maxRecDepth 20000 in
theorem gL_law_L_patch : GoodIn wsL_law (va_wsS RL 114 yL_patch wsL_patch) := goodIn_app (goodIn_of _ (by decide +kernel)) ggL_law_L_patch
set_option maxRecDepth 20000 in
theorem ggL_law_X4_patch : GoodIn wsL_law wsX4_patch := goodIn_r _ [315, 76, 80, 204, 205, 206, 5, 207, 156, 124, 125, 126, 316, 317, 318, 157, 158, 159, 160, 131, 319, 320, 321, 322, 563, 564, 565, 566, 567, 568, 569, 570, 571, 572, 573, 574, 575, 576, 577, 578, 579, 580, 581, 582, 583, 584, 585, 586, 587, 588, 589, 590] (by decide +kernel) (by decide +kernel)
set_option maxRecDepth 20000 in
theorem gL_law_X4_patch : GoodIn wsL_law (wsV RL 116 RX4 yX4_patch wsX4_patch) := goodIn_app (goodIn_of _ (by decide +kernel)) ggL_law_X4_patch
set_option maxRecDepth 20000 in
theorem ggL_law_L_gap : GoodIn wsL_law wsL_gap := goodIn_ca (goodIn_r _ [325, 99, 326, 327, 328, 2, 329, 26, 109, 110, 111, 112, 113, 330, 25, 331, 332, 308, 309, 310, 311, 49, 50, 556, 557, 558, 559, 560, 561, 562, 599, 600, 601, 602] (by decide +kernel) (by decide +kernel)) (goodIn_sub (fun _ h => List.mem_append_right _ h) (by decide +kernel))
set_option maxRecDepth 20000 in
theorem gL_law_L_gap : GoodIn wsL_law (va_wsS RL 117 yL_gap wsL_gap) := goodIn_app (goodIn_of _ (by decide +kernel)) ggL_law_L_gap
set_option maxRecDepth 20000 in
theorem ggL_law_X4_gap : GoodIn wsL_law wsX4_gap := goodIn_r _ [336, 124, 125, 5, 126, 237, 238, 239, 240, 131, 319, 320, 321, 322, 156, 80, 76, 316, 317, 318, 563, 564, 565, 566, 567, 568, 569, 570, 571, 572, 573, 574, 575, 576, 577, 578, 579, 580, 581, 582, 583, 584, 585, 586, 587, 588, 589, 590] (by decide +kernel) (by decide +kernel)
set_option maxRecDepth 20000 in
theorem gL_law_X4_gap : GoodIn wsL_law (wsV RL 119 RX4 yX4_gap wsX4_gap) := goodIn_app (goodIn_of _ (by decide +kernel)) ggL_law_X4_gap
set_option maxRecDepth 20000 in
theorem ggL_law_L_plug : GoodIn wsL_law wsL_plug := goodIn_ca (goodIn_r _ [339, 98, 340, 341, 342, 2, 343, 26, 168, 169, 170, 171, 105, 106, 13, 344, 345, 346, 556, 557, 558, 559, 560, 561, 562, 599, 600, 601, 602] (by decide +kernel) (by decide +kernel)) (goodIn_sub (fun _ h => List.mem_append_left _ (List.mem_append_left _ (List.mem_append_right _ h))) (by decide +kernel))
set_option maxRecDepth 20000 in
theorem gL_law_L_plug : GoodIn wsL_law (va_wsS RL 120 yL_plug wsL_plug) := goodIn_app (goodIn_of _ (by decide +kernel)) ggL_law_L_plug
set_option maxRecDepth 20000 in
theorem ggL_law_X4_plug : GoodIn wsL_law wsX4_plug := goodIn_r _ [350, 81, 204, 205, 206, 5, 207, 156, 124, 125, 126, 237, 238, 239, 240, 131, 563, 564, 565, 566, 567, 568, 569, 570, 571, 572, 573, 574, 575, 576, 577, 578, 579, 580, 581, 582, 583, 584, 585, 586, 587, 588, 589, 590] (by decide +kernel) (by decide +kernel)
set_option maxRecDepth 20000 in
theorem gL_law_X4_plug : GoodIn wsL_law (wsV RL 122 RX4 yX4_plug wsX4_plug) := goodIn_app (goodIn_of _ (by decide +kernel)) ggL_law_X4_plug
set_option maxRecDepth 20000 in
theorem ggL_law_L_load : GoodIn wsL_law wsL_load := goodIn_ca (goodIn_r _ [353, 98, 354, 355, 356, 2, 357, 13, 26, 344, 345, 346, 105, 106, 358, 359, 360, 361, 22, 18, 30, 230, 21, 231, 232, 39, 362, 29, 363, 364, 65, 57, 62, 64, 58, 67, 66, 59, 365, 366, 367, 368, 369, 370, 371, 556, 557, 558, 559, 560, 561, 562, 599, 600, 601, 602, 591, 592, 593, 594, 595, 596, 597, 598, 603, 604, 605, 606, 607, 608, 609, 610, 611, 612, 613] (by decide +kernel) (by decide +kernel)) (goodIn_sub (fun _ h => List.mem_append_left _ (List.mem_append_left _ (List.mem_append_right _ h))) (by decide +kernel))
set_option maxRecDepth 20000 in
theorem gL_law_L_load : GoodIn wsL_law (va_wsS RL 123 yL_load wsL_load) := goodIn_app (goodIn_of _ (by decide +kernel)) ggL_law_L_load
set_option maxRecDepth 20000 in
theorem ggL_law_X4_load : GoodIn wsL_law wsX4_load := goodIn_r _ [375, 156, 81, 76, 124, 125, 5, 126, 237, 238, 239, 240, 131, 376, 377, 378, 379, 380, 381, 382, 78, 82, 383, 384, 385, 386, 387, 86, 87, 85, 84, 88, 388, 389, 390, 563, 564, 565, 566, 567, 568, 569, 570, 571, 572, 573, 574, 575, 576, 577, 578, 579, 580, 581, 582, 583, 584, 585, 586, 587, 588, 589, 590] (by decide +kernel) (by decide +kernel)
set_option maxRecDepth 20000 in
theorem gL_law_X4_load : GoodIn wsL_law (wsV RL 125 RX4 yX4_load wsX4_load) := goodIn_app (goodIn_of _ (by decide +kernel)) ggL_law_X4_load
set_option maxRecDepth 20000 in
theorem ggL_law_L_cue : GoodIn wsL_law wsL_cue := goodIn_ca (goodIn_ca (goodIn_r _ [393, 99, 100, 394, 395, 396, 2, 397, 107, 108, 30, 109, 110, 111, 112, 113, 398, 29, 399, 400, 57, 58, 59, 60, 556, 557, 558, 559, 560, 561, 562, 603, 604, 605, 606, 607, 608, 609, 610, 611, 612, 613] (by decide +kernel) (by decide +kernel)) (goodIn_sub (fun _ h => List.mem_append_left _ (List.mem_append_right _ h)) (by decide +kernel))) (goodIn_sub (fun _ h => List.mem_append_right _ h) (by decide +kernel))
set_option maxRecDepth 20000 in
theorem gL_law_L_cue : GoodIn wsL_law (va_wsS RL 126 yL_cue wsL_cue) := goodIn_app (goodIn_of _ (by decide +kernel)) ggL_law_L_cue
set_option maxRecDepth 20000 in
theorem ggL_law_X4_cue : GoodIn wsL_law wsX4_cue := goodIn_r _ [404, 405, 89, 90, 91, 124, 125, 5, 126, 157, 158, 159, 160, 131, 563, 564, 565, 566, 567, 568, 569, 570, 571, 572, 573, 574, 575, 576, 577, 578, 579, 580, 581, 582, 583, 584, 585, 586, 587, 588, 589, 590] (by decide +kernel) (by decide +kernel)
set_option maxRecDepth 20000 in
theorem gL_law_X4_cue : GoodIn wsL_law (wsV RL 128 RX4 yX4_cue wsX4_cue) := goodIn_app (goodIn_of _ (by decide +kernel)) ggL_law_X4_cue
set_option maxRecDepth 20000 in
theorem ggL_law_L_name : GoodIn wsL_law wsL_name := goodIn_ca (goodIn_ca (goodIn_r _ [408, 98, 99, 409, 410, 411, 2, 412, 105, 106, 30, 168, 169, 170, 171, 13, 109, 110, 111, 112, 113, 413, 29, 414, 556, 557, 558, 559, 560, 561, 562, 603, 604, 605, 606, 607, 608, 609, 610, 611, 612, 613] (by decide +kernel) (by decide +kernel)) (goodIn_sub (fun _ h => List.mem_append_left _ (List.mem_append_left _ (List.mem_append_right _ h))) (by decide +kernel))) (goodIn_sub (fun _ h => List.mem_append_right _ h) (by decide +kernel))
set_option maxRecDepth 20000 in
theorem gL_law_L_name : GoodIn wsL_law (va_wsS RL 129 yL_name wsL_name) := goodIn_app (goodIn_of _ (by decide +kernel)) ggL_law_L_name
set_option maxRecDepth 20000 in
theorem ggL_law_X4_name : GoodIn wsL_law wsX4_name := goodIn_r _ [418, 92, 419, 420, 421, 5, 422, 405, 124, 125, 126, 204, 205, 206, 207, 156, 157, 158, 159, 160, 131, 563, 564, 565, 566, 567, 568, 569, 570, 571, 572, 573, 574, 575, 576, 577, 578, 579, 580, 581, 582, 583, 584, 585, 586, 587, 588, 589, 590] (by decide +kernel) (by decide +kernel)
set_option maxRecDepth 20000 in
theorem gL_law_X4_name : GoodIn wsL_law (wsV RL 131 RX4 yX4_name wsX4_name) := goodIn_app (goodIn_of _ (by decide +kernel)) ggL_law_X4_name
set_option maxRecDepth 20000 in
theorem ggL_law_L_go : GoodIn wsL_law wsL_go := goodIn_ca (goodIn_r _ [425, 100, 426, 427, 428, 2, 429, 107, 108, 30, 430, 29, 431, 432, 63, 57, 60, 433, 434, 435, 436, 61, 66, 67, 65, 64, 62, 437, 413, 414, 438, 362, 363, 364, 58, 59, 365, 366, 367, 368, 369, 370, 371, 556, 557, 558, 559, 560, 561, 562, 603, 604, 605, 606, 607, 608, 609, 610, 611, 612, 613] (by decide +kernel) (by decide +kernel)) (goodIn_sub (fun _ h => List.mem_append_left _ (List.mem_append_right _ h)) (by decide +kernel))
set_option maxRecDepth 20000 in
theorem gL_law_L_go : GoodIn wsL_law (va_wsS RL 132 yL_go wsL_go) := goodIn_app (goodIn_of _ (by decide +kernel)) ggL_law_L_go
set_option maxRecDepth 20000 in
theorem ggL_law_X4_go : GoodIn wsL_law wsX4_go := goodIn_r _ [442, 443, 405, 237, 238, 239, 5, 240, 131, 444, 445, 446, 447, 156, 92, 84, 85, 86, 387, 87, 89, 88, 90, 448, 91, 383, 384, 385, 386, 388, 389, 390, 563, 564, 565, 566, 567, 568, 569, 570, 571, 572, 573, 574, 575, 576, 577, 578, 579, 580, 581, 582, 583, 584, 585, 586, 587, 588, 589, 590] (by decide +kernel) (by decide +kernel)
set_option maxRecDepth 20000 in
theorem gL_law_X4_go : GoodIn wsL_law (wsV RL 135 RX4 yX4_go wsX4_go) := goodIn_app (goodIn_of _ (by decide +kernel)) ggL_law_X4_go
set_option maxRecDepth 20000 in
theorem ggL_law_L_tick : GoodIn wsL_law wsL_tick := goodIn_ca (goodIn_r _ [451, 99, 452, 453, 454, 2, 455, 30, 109, 110, 111, 112, 113, 456, 29, 457, 458, 62, 63, 57, 60, 64, 459, 430, 431, 432, 433, 434, 435, 436, 61, 66, 67, 65, 437, 413, 414, 438, 362, 363, 364, 58, 59, 365, 366, 367, 368, 369, 370, 371, 460, 461, 462, 463, 13, 16, 358, 359, 360, 361, 22, 18, 230, 21, 231, 232, 39, 556, 557, 558, 559, 560, 561, 562, 603, 604, 605, 606, 607, 608, 609, 610, 611, 612, 613, 591, 592, 593, 594, 595, 596, 597, 598] (by decide +kernel) (by decide +kernel)) (goodIn_sub (fun _ h => List.mem_append_right _ h) (by decide +kernel))
set_option maxRecDepth 20000 in
theorem gL_law_L_tick : GoodIn wsL_law (va_wsS RL 136 yL_tick wsL_tick) := goodIn_app (goodIn_of _ (by decide +kernel)) ggL_law_L_tick
set_option maxRecDepth 20000 in
theorem ggL_law_X4_tick : GoodIn wsL_law wsX4_tick := goodIn_r _ [467, 387, 443, 91, 448, 156, 83, 124, 125, 5, 126, 237, 238, 239, 240, 131, 444, 445, 446, 447, 405, 92, 84, 85, 86, 87, 89, 88, 90, 383, 384, 385, 386, 388, 389, 390, 379, 380, 381, 382, 78, 82, 563, 564, 565, 566, 567, 568, 569, 570, 571, 572, 573, 574, 575, 576, 577, 578, 579, 580, 581, 582, 583, 584, 585, 586, 587, 588, 589, 590] (by decide +kernel) (by decide +kernel)
set_option maxRecDepth 20000 in
theorem gL_law_X4_tick : GoodIn wsL_law (wsV RL 138 RX4 yX4_tick wsX4_tick) := goodIn_app (goodIn_of _ (by decide +kernel)) ggL_law_X4_tick
set_option maxRecDepth 20000 in
theorem ggL_law_X3_rewind : GoodIn wsL_law wsX3_rewind := goodIn_r _ [471, 30, 472, 29, 473, 474, 63, 65, 68, 43, 44, 45, 556, 557, 558, 559, 560, 561, 562, 603, 604, 605, 606, 607, 608, 609, 610, 611, 612, 613] (by decide +kernel) (by decide +kernel)
set_option maxRecDepth 20000 in
theorem gL_law_X3_rewind : GoodIn wsL_law (wsV RL 139 RX3 yX3_rewind wsX3_rewind) := goodIn_app (goodIn_of _ (by decide +kernel)) ggL_law_X3_rewind
set_option maxRecDepth 20000 in
theorem ggL_law_X4_rewind : GoodIn wsL_law wsX4_rewind := goodIn_r _ [478, 131, 443, 156, 84, 85, 87, 563, 564, 565, 566, 567, 568, 569, 570, 571, 572, 573, 574, 575, 576, 577, 578, 579, 580, 581, 582, 583, 584, 585, 586, 587, 588, 589, 590] (by decide +kernel) (by decide +kernel)
set_option maxRecDepth 20000 in
theorem gL_law_X4_rewind : GoodIn wsL_law (wsV RL 142 RX4 yX4_rewind wsX4_rewind) := goodIn_app (goodIn_of _ (by decide +kernel)) ggL_law_X4_rewind
set_option maxRecDepth 20000 in
theorem ggL_law_L_level : GoodIn wsL_law wsL_level := goodIn_ca (goodIn_r _ [481, 98, 482, 483, 484, 2, 485, 168, 169, 170, 171, 105, 106, 13, 358, 359, 360, 361, 22, 18, 30, 230, 21, 231, 232, 39, 362, 29, 363, 364, 65, 57, 62, 64, 58, 67, 66, 59, 365, 366, 367, 368, 369, 370, 371, 556, 557, 558, 559, 560, 561, 562, 591, 592, 593, 594, 595, 596, 597, 598, 603, 604, 605, 606, 607, 608, 609, 610, 611, 612, 613] (by decide +kernel) (by decide +kernel)) (goodIn_sub (fun _ h => List.mem_append_left _ (List.mem_append_left _ (List.mem_append_right _ h))) (by decide +kernel))
set_option maxRecDepth 20000 in
theorem gL_law_L_level : GoodIn wsL_law (va_wsS RL 143 yL_level wsL_level) := goodIn_app (goodIn_of _ (by decide +kernel)) ggL_law_L_level
set_option maxRecDepth 20000 in
theorem ggL_law_X4_level : GoodIn wsL_law wsX4_level := goodIn_r _ [489, 204, 205, 206, 5, 207, 156, 124, 125, 126, 237, 238, 239, 240, 131, 379, 380, 381, 382, 78, 82, 383, 384, 385, 386, 387, 86, 87, 85, 84, 88, 388, 389, 390, 563, 564, 565, 566, 567, 568, 569, 570, 571, 572, 573, 574, 575, 576, 577, 578, 579, 580, 581, 582, 583, 584, 585, 586, 587, 588, 589, 590] (by decide +kernel) (by decide +kernel)
set_option maxRecDepth 20000 in
theorem gL_law_X4_level : GoodIn wsL_law (wsV RL 145 RX4 yX4_level wsX4_level) := goodIn_app (goodIn_of _ (by decide +kernel)) ggL_law_X4_level
set_option maxRecDepth 20000 in
theorem ggL_law_L_wanted : GoodIn wsL_law wsL_wanted := goodIn_ca (goodIn_r _ [492, 98, 493, 494, 495, 2, 496, 30, 168, 169, 170, 171, 105, 106, 13, 362, 29, 363, 364, 65, 57, 62, 64, 58, 67, 66, 59, 365, 366, 367, 368, 369, 370, 371, 556, 557, 558, 559, 560, 561, 562, 603, 604, 605, 606, 607, 608, 609, 610, 611, 612, 613] (by decide +kernel) (by decide +kernel)) (goodIn_sub (fun _ h => List.mem_append_left _ (List.mem_append_left _ (List.mem_append_right _ h))) (by decide +kernel))
set_option maxRecDepth 20000 in
theorem gL_law_L_wanted : GoodIn wsL_law (va_wsS RL 146 yL_wanted wsL_wanted) := goodIn_app (goodIn_of _ (by decide +kernel)) ggL_law_L_wanted
set_option maxRecDepth 20000 in
theorem ggL_law_X4_wanted : GoodIn wsL_law wsX4_wanted := goodIn_r _ [500, 204, 205, 206, 5, 207, 156, 124, 125, 126, 237, 238, 239, 240, 131, 383, 384, 385, 386, 387, 86, 87, 85, 84, 88, 388, 389, 390, 563, 564, 565, 566, 567, 568, 569, 570, 571, 572, 573, 574, 575, 576, 577, 578, 579, 580, 581, 582, 583, 584, 585, 586, 587, 588, 589, 590] (by decide +kernel) (by decide +kernel)
set_option maxRecDepth 20000 in
theorem gL_law_X4_wanted : GoodIn wsL_law (wsV RL 148 RX4 yX4_wanted wsX4_wanted) := goodIn_app (goodIn_of _ (by decide +kernel)) ggL_law_X4_wanted
set_option maxRecDepth 20000 in
theorem ggL_law_L_wantedByCues : GoodIn wsL_law wsL_wantedByCues := goodIn_ca (goodIn_r _ [503, 98, 504, 505, 506, 2, 507, 30, 168, 169, 170, 171, 105, 106, 13, 362, 29, 363, 364, 65, 57, 62, 64, 58, 67, 66, 59, 365, 366, 367, 368, 369, 370, 371, 556, 557, 558, 559, 560, 561, 562, 603, 604, 605, 606, 607, 608, 609, 610, 611, 612, 613] (by decide +kernel) (by decide +kernel)) (goodIn_sub (fun _ h => List.mem_append_left _ (List.mem_append_left _ (List.mem_append_right _ h))) (by decide +kernel))
set_option maxRecDepth 20000 in
theorem gL_law_L_wantedByCues : GoodIn wsL_law (va_wsS RL 149 yL_wantedByCues wsL_wantedByCues) := goodIn_app (goodIn_of _ (by decide +kernel)) ggL_law_L_wantedByCues
set_option maxRecDepth 20000 in
theorem ggL_law_X4_wantedByCues : GoodIn wsL_law wsX4_wantedByCues := goodIn_r _ [511, 204, 205, 206, 5, 207, 156, 124, 125, 126, 237, 238, 239, 240, 131, 383, 384, 385, 386, 387, 86, 87, 85, 84, 88, 388, 389, 390, 563, 564, 565, 566, 567, 568, 569, 570, 571, 572, 573, 574, 575, 576, 577, 578, 579, 580, 581, 582, 583, 584, 585, 586, 587, 588, 589, 590] (by decide +kernel) (by decide +kernel)
set_option maxRecDepth 20000 in
theorem gL_law_X4_wantedByCues : GoodIn wsL_law (wsV RL 151 RX4 yX4_wantedByCues wsX4_wantedByCues) := goodIn_app (goodIn_of _ (by decide +kernel)) ggL_law_X4_wantedByCues
set_option maxRecDepth 20000 in
theorem ggL_law_L_bulb : GoodIn wsL_law wsL_bulb := goodIn_ca (goodIn_r _ [514, 98, 515, 516, 517, 2, 518, 18, 168, 169, 170, 171, 105, 106, 13, 556, 557, 558, 559, 560, 561, 562] (by decide +kernel) (by decide +kernel)) (goodIn_sub (fun _ h => List.mem_append_left _ (List.mem_append_left _ (List.mem_append_right _ h))) (by decide +kernel))
set_option maxRecDepth 20000 in
theorem gL_law_L_bulb : GoodIn wsL_law (va_wsS RL 152 yL_bulb wsL_bulb) := goodIn_app (goodIn_of _ (by decide +kernel)) ggL_law_L_bulb
set_option maxRecDepth 20000 in
theorem ggL_law_X4_bulb : GoodIn wsL_law wsX4_bulb := goodIn_r _ [522, 82, 204, 205, 206, 5, 207, 156, 124, 125, 126, 237, 238, 239, 240, 131, 563, 564, 565, 566, 567, 568, 569, 570, 571, 572, 573, 574, 575, 576, 577, 578, 579, 580, 581, 582, 583, 584, 585, 586, 587, 588, 589, 590] (by decide +kernel) (by decide +kernel)
set_option maxRecDepth 20000 in
theorem gL_law_X4_bulb : GoodIn wsL_law (wsV RL 154 RX4 yX4_bulb wsX4_bulb) := goodIn_app (goodIn_of _ (by decide +kernel)) ggL_law_X4_bulb
set_option maxRecDepth 20000 in
theorem ggL_law_L_standIn : GoodIn wsL_law wsL_standIn := goodIn_ca (goodIn_ca (goodIn_ca (goodIn_r _ [525, 98, 99, 100, 526, 527, 528, 2, 529, 112, 113, 107, 108, 18, 30, 168, 169, 170, 171, 105, 106, 13, 530, 29, 531, 532, 57, 61, 437, 413, 414, 556, 557, 558, 559, 560, 561, 562, 603, 604, 605, 606, 607, 608, 609, 610, 611, 612, 613] (by decide +kernel) (by decide +kernel)) (goodIn_sub (fun _ h => List.mem_append_right _ h) (by decide +kernel))) (goodIn_sub (fun _ h => List.mem_append_left _ (List.mem_append_right _ h)) (by decide +kernel))) (goodIn_sub (fun _ h => List.mem_append_left _ (List.mem_append_left _ (List.mem_append_right _ h))) (by decide +kernel))
set_option maxRecDepth 20000 in
theorem gL_law_L_standIn : GoodIn wsL_law (va_wsS RL 155 yL_standIn wsL_standIn) := goodIn_app (goodIn_of _ (by decide +kernel)) ggL_law_L_standIn
set_option maxRecDepth 20000 in
theorem ggL_law_X4_standIn : GoodIn wsL_law wsX4_standIn := goodIn_r _ [536, 82, 405, 92, 204, 205, 206, 5, 207, 156, 124, 125, 126, 127, 128, 129, 130, 131, 563, 564, 565, 566, 567, 568, 569, 570, 571, 572, 573, 574, 575, 576, 577, 578, 579, 580, 581, 582, 583, 584, 585, 586, 587, 588, 589, 590] (by decide +kernel) (by decide +kernel)
set_option maxRecDepth 20000 in
theorem gL_law_X4_standIn : GoodIn wsL_law (wsV RL 157 RX4 yX4_standIn wsX4_standIn) := goodIn_app (goodIn_of _ (by decide +kernel)) ggL_law_X4_standIn
set_option maxRecDepth 20000 in
theorem ggL_law_L_colour : GoodIn wsL_law wsL_colour := goodIn_ca (goodIn_ca (goodIn_r _ [539, 98, 99, 540, 541, 542, 2, 543, 15, 16, 168, 169, 170, 171, 105, 106, 13, 109, 110, 111, 112, 113, 556, 557, 558, 559, 560, 561, 562] (by decide +kernel) (by decide +kernel)) (goodIn_sub (fun _ h => List.mem_append_left _ (List.mem_append_left _ (List.mem_append_right _ h))) (by decide +kernel))) (goodIn_sub (fun _ h => List.mem_append_right _ h) (by decide +kernel))
set_option maxRecDepth 20000 in
theorem gL_law_L_colour : GoodIn wsL_law (va_wsS RL 158 yL_colour wsL_colour) := goodIn_app (goodIn_of _ (by decide +kernel)) ggL_law_L_colour
set_option maxRecDepth 20000 in
theorem ggL_law_X4_colour : GoodIn wsL_law wsX4_colour := goodIn_r _ [547, 77, 83, 204, 205, 206, 5, 207, 156, 124, 125, 126, 157, 158, 159, 160, 131, 563, 564, 565, 566, 567, 568, 569, 570, 571, 572, 573, 574, 575, 576, 577, 578, 579, 580, 581, 582, 583, 584, 585, 586, 587, 588, 589, 590] (by decide +kernel) (by decide +kernel)
set_option maxRecDepth 20000 in
theorem gL_law_X4_colour : GoodIn wsL_law (wsV RL 160 RX4 yX4_colour wsX4_colour) := goodIn_app (goodIn_of _ (by decide +kernel)) ggL_law_X4_colour
set_option maxRecDepth 20000 in
theorem ggL_law_X3_burnt : GoodIn wsL_law wsX3_burnt := goodIn_r _ [551, 13, 16, 556, 557, 558, 559, 560, 561, 562] (by decide +kernel) (by decide +kernel)
set_option maxRecDepth 20000 in
theorem gL_law_X3_burnt : GoodIn wsL_law (wsV RL 161 RX3 yX3_burnt wsX3_burnt) := goodIn_app (goodIn_of _ (by decide +kernel)) ggL_law_X3_burnt
set_option maxRecDepth 20000 in
theorem ggL_law_X4_burnt : GoodIn wsL_law wsX4_burnt := goodIn_r _ [555, 131, 156, 83, 563, 564, 565, 566, 567, 568, 569, 570, 571, 572, 573, 574, 575, 576, 577, 578, 579, 580, 581, 582, 583, 584, 585, 586, 587, 588, 589, 590] (by decide +kernel) (by decide +kernel)
set_option maxRecDepth 20000 in
theorem gL_law_X4_burnt : GoodIn wsL_law (wsV RL 164 RX4 yX4_burnt wsX4_burnt) := goodIn_app (goodIn_of _ (by decide +kernel)) ggL_law_X4_burnt
end
section
theorem dL_law_0 : decode cL_law 0 = .ok (.new 8, 3) := by decide +kernel
theorem dL_law_3 : decode cL_law 3 = .ok (.dup, 1) := by decide +kernel
theorem dL_law_4 : decode cL_law 4 = .ok (.invokespecial 80, 3) := by decide +kernel
theorem dL_law_7 : decode cL_law 7 = .ok (.astore_n 1, 1) := by decide +kernel
theorem dL_law_8 : decode cL_law 8 = .ok (.new 81, 3) := by decide +kernel
theorem dL_law_11 : decode cL_law 11 = .ok (.dup, 1) := by decide +kernel
theorem dL_law_12 : decode cL_law 12 = .ok (.invokespecial 83, 3) := by decide +kernel
theorem dL_law_15 : decode cL_law 15 = .ok (.astore_n 2, 1) := by decide +kernel
theorem dL_law_16 : decode cL_law 16 = .ok (.iconst 1, 1) := by decide +kernel
theorem dL_law_17 : decode cL_law 17 = .ok (.newarray .long, 2) := by decide +kernel
theorem dL_law_19 : decode cL_law 19 = .ok (.astore_n 3, 1) := by decide +kernel
theorem dL_law_20 : decode cL_law 20 = .ok (.iconst 0, 1) := by decide +kernel
theorem dL_law_21 : decode cL_law 21 = .ok (.istore 4, 2) := by decide +kernel
theorem dL_law_23 : decode cL_law 23 = .ok (.iload 4, 2) := by decide +kernel
theorem dL_law_25 : decode cL_law 25 = .ok (.aload_n 0, 1) := by decide +kernel
theorem dL_law_26 : decode cL_law 26 = .ok (.arraylength, 1) := by decide +kernel
theorem dL_law_27 : decode cL_law 27 = .ok (.iconst 4, 1) := by decide +kernel
theorem dL_law_28 : decode cL_law 28 = .ok (.isub, 1) := by decide +kernel
theorem dL_law_29 : decode cL_law 29 = .ok (.if_icmp .gt 1450, 3) := by decide +kernel
theorem dL_law_32 : decode cL_law 32 = .ok (.aload_n 0, 1) := by decide +kernel
theorem dL_law_33 : decode cL_law 33 = .ok (.iload 4, 2) := by decide +kernel
theorem dL_law_35 : decode cL_law 35 = .ok (.iaload, 1) := by decide +kernel
theorem dL_law_36 : decode cL_law 36 = .ok (.bipush 31, 2) := by decide +kernel
theorem dL_law_38 : decode cL_law 38 = .ok (.iand, 1) := by decide +kernel
theorem dL_law_39 : decode cL_law 39 = .ok (.tableswitch 1434 0 22 #[105, 185, 253, 333, 396, 464, 520, 533, 601, 657, 725, 781, 861, 941, 985, 1041, 1054, 1110, 1166, 1222, 1285, 1353, 1421], 105) := by decide +kernel
theorem dL_law_144 : decode cL_law 144 = .ok (.aload_n 1, 1) := by decide +kernel
theorem dL_law_145 : decode cL_law 145 = .ok (.aload_n 0, 1) := by decide +kernel
theorem dL_law_146 : decode cL_law 146 = .ok (.iload 4, 2) := by decide +kernel
theorem dL_law_148 : decode cL_law 148 = .ok (.iconst 1, 1) := by decide +kernel
theorem dL_law_149 : decode cL_law 149 = .ok (.iadd, 1) := by decide +kernel
theorem dL_law_150 : decode cL_law 150 = .ok (.iaload, 1) := by decide +kernel
theorem dL_law_151 : decode cL_law 151 = .ok (.aload_n 0, 1) := by decide +kernel
theorem dL_law_152 : decode cL_law 152 = .ok (.iload 4, 2) := by decide +kernel
theorem dL_law_154 : decode cL_law 154 = .ok (.iconst 2, 1) := by decide +kernel
theorem dL_law_155 : decode cL_law 155 = .ok (.iadd, 1) := by decide +kernel
theorem dL_law_156 : decode cL_law 156 = .ok (.iaload, 1) := by decide +kernel
theorem dL_law_157 : decode cL_law 157 = .ok (.aload_n 0, 1) := by decide +kernel
theorem dL_law_158 : decode cL_law 158 = .ok (.iload 4, 2) := by decide +kernel
theorem dL_law_160 : decode cL_law 160 = .ok (.iconst 3, 1) := by decide +kernel
theorem dL_law_161 : decode cL_law 161 = .ok (.iadd, 1) := by decide +kernel
theorem dL_law_162 : decode cL_law 162 = .ok (.iaload, 1) := by decide +kernel
theorem dL_law_163 : decode cL_law 163 = .ok (.aload_n 3, 1) := by decide +kernel
theorem dL_law_164 : decode cL_law 164 = .ok (.invokestatic 84, 3) := by decide +kernel
theorem dL_law_167 : decode cL_law 167 = .ok (.istore 5, 2) := by decide +kernel
theorem dL_law_169 : decode cL_law 169 = .ok (.aload_n 2, 1) := by decide +kernel
theorem dL_law_170 : decode cL_law 170 = .ok (.aload_n 0, 1) := by decide +kernel
theorem dL_law_171 : decode cL_law 171 = .ok (.iload 4, 2) := by decide +kernel
theorem dL_law_173 : decode cL_law 173 = .ok (.iconst 1, 1) := by decide +kernel
theorem dL_law_174 : decode cL_law 174 = .ok (.iadd, 1) := by decide +kernel
theorem dL_law_175 : decode cL_law 175 = .ok (.iaload, 1) := by decide +kernel
theorem dL_law_176 : decode cL_law 176 = .ok (.aload_n 0, 1) := by decide +kernel
theorem dL_law_177 : decode cL_law 177 = .ok (.iload 4, 2) := by decide +kernel
theorem dL_law_179 : decode cL_law 179 = .ok (.iconst 2, 1) := by decide +kernel
theorem dL_law_180 : decode cL_law 180 = .ok (.iadd, 1) := by decide +kernel
theorem dL_law_181 : decode cL_law 181 = .ok (.iaload, 1) := by decide +kernel
theorem dL_law_182 : decode cL_law 182 = .ok (.aload_n 0, 1) := by decide +kernel
theorem dL_law_183 : decode cL_law 183 = .ok (.iload 4, 2) := by decide +kernel
theorem dL_law_185 : decode cL_law 185 = .ok (.iconst 3, 1) := by decide +kernel
theorem dL_law_186 : decode cL_law 186 = .ok (.iadd, 1) := by decide +kernel
theorem dL_law_187 : decode cL_law 187 = .ok (.iaload, 1) := by decide +kernel
theorem dL_law_188 : decode cL_law 188 = .ok (.invokevirtual 89, 3) := by decide +kernel
theorem dL_law_191 : decode cL_law 191 = .ok (.istore 6, 2) := by decide +kernel
theorem dL_law_193 : decode cL_law 193 = .ok (.aload_n 2, 1) := by decide +kernel
theorem dL_law_194 : decode cL_law 194 = .ok (.invokevirtual 90, 3) := by decide +kernel
theorem dL_law_197 : decode cL_law 197 = .ok (.iload 5, 2) := by decide +kernel
theorem dL_law_199 : decode cL_law 199 = .ok (.if_icmp .eq 5, 3) := by decide +kernel
theorem dL_law_202 : decode cL_law 202 = .ok (.iconst 0, 1) := by decide +kernel
theorem dL_law_203 : decode cL_law 203 = .ok (.ireturn, 1) := by decide +kernel
theorem dL_law_204 : decode cL_law 204 = .ok (.iload 5, 2) := by decide +kernel
theorem dL_law_206 : decode cL_law 206 = .ok (.ifCond .ne 15, 3) := by decide +kernel
theorem dL_law_209 : decode cL_law 209 = .ok (.aload_n 3, 1) := by decide +kernel
theorem dL_law_210 : decode cL_law 210 = .ok (.iconst 0, 1) := by decide +kernel
theorem dL_law_211 : decode cL_law 211 = .ok (.laload, 1) := by decide +kernel
theorem dL_law_212 : decode cL_law 212 = .ok (.iload 6, 2) := by decide +kernel
theorem dL_law_214 : decode cL_law 214 = .ok (.i2l, 1) := by decide +kernel
theorem dL_law_215 : decode cL_law 215 = .ok (.lcmp, 1) := by decide +kernel
theorem dL_law_216 : decode cL_law 216 = .ok (.ifCond .eq 5, 3) := by decide +kernel
theorem dL_law_219 : decode cL_law 219 = .ok (.iconst 0, 1) := by decide +kernel
theorem dL_law_220 : decode cL_law 220 = .ok (.ireturn, 1) := by decide +kernel
theorem dL_law_221 : decode cL_law 221 = .ok (.goto 1252, 3) := by decide +kernel
theorem dL_law_224 : decode cL_law 224 = .ok (.aload_n 1, 1) := by decide +kernel
theorem dL_law_225 : decode cL_law 225 = .ok (.aload_n 0, 1) := by decide +kernel
theorem dL_law_226 : decode cL_law 226 = .ok (.iload 4, 2) := by decide +kernel
theorem dL_law_228 : decode cL_law 228 = .ok (.iconst 1, 1) := by decide +kernel
theorem dL_law_229 : decode cL_law 229 = .ok (.iadd, 1) := by decide +kernel
theorem dL_law_230 : decode cL_law 230 = .ok (.iaload, 1) := by decide +kernel
theorem dL_law_231 : decode cL_law 231 = .ok (.aload_n 0, 1) := by decide +kernel
theorem dL_law_232 : decode cL_law 232 = .ok (.iload 4, 2) := by decide +kernel
theorem dL_law_234 : decode cL_law 234 = .ok (.iconst 2, 1) := by decide +kernel
theorem dL_law_235 : decode cL_law 235 = .ok (.iadd, 1) := by decide +kernel
theorem dL_law_236 : decode cL_law 236 = .ok (.iaload, 1) := by decide +kernel
theorem dL_law_237 : decode cL_law 237 = .ok (.aload_n 3, 1) := by decide +kernel
theorem dL_law_238 : decode cL_law 238 = .ok (.invokestatic 93, 3) := by decide +kernel
theorem dL_law_241 : decode cL_law 241 = .ok (.istore 5, 2) := by decide +kernel
theorem dL_law_243 : decode cL_law 243 = .ok (.aload_n 2, 1) := by decide +kernel
theorem dL_law_244 : decode cL_law 244 = .ok (.aload_n 0, 1) := by decide +kernel
theorem dL_law_245 : decode cL_law 245 = .ok (.iload 4, 2) := by decide +kernel
theorem dL_law_247 : decode cL_law 247 = .ok (.iconst 1, 1) := by decide +kernel
theorem dL_law_248 : decode cL_law 248 = .ok (.iadd, 1) := by decide +kernel
theorem dL_law_249 : decode cL_law 249 = .ok (.iaload, 1) := by decide +kernel
theorem dL_law_250 : decode cL_law 250 = .ok (.aload_n 0, 1) := by decide +kernel
theorem dL_law_251 : decode cL_law 251 = .ok (.iload 4, 2) := by decide +kernel
theorem dL_law_253 : decode cL_law 253 = .ok (.iconst 2, 1) := by decide +kernel
theorem dL_law_254 : decode cL_law 254 = .ok (.iadd, 1) := by decide +kernel
theorem dL_law_255 : decode cL_law 255 = .ok (.iaload, 1) := by decide +kernel
theorem dL_law_256 : decode cL_law 256 = .ok (.invokevirtual 96, 3) := by decide +kernel
theorem dL_law_259 : decode cL_law 259 = .ok (.istore 6, 2) := by decide +kernel
theorem dL_law_261 : decode cL_law 261 = .ok (.aload_n 2, 1) := by decide +kernel
theorem dL_law_262 : decode cL_law 262 = .ok (.invokevirtual 90, 3) := by decide +kernel
theorem dL_law_265 : decode cL_law 265 = .ok (.iload 5, 2) := by decide +kernel
theorem dL_law_267 : decode cL_law 267 = .ok (.if_icmp .eq 5, 3) := by decide +kernel
theorem dL_law_270 : decode cL_law 270 = .ok (.iconst 0, 1) := by decide +kernel
theorem dL_law_271 : decode cL_law 271 = .ok (.ireturn, 1) := by decide +kernel
theorem dL_law_272 : decode cL_law 272 = .ok (.iload 5, 2) := by decide +kernel
theorem dL_law_274 : decode cL_law 274 = .ok (.ifCond .ne 15, 3) := by decide +kernel
theorem dL_law_277 : decode cL_law 277 = .ok (.aload_n 3, 1) := by decide +kernel
theorem dL_law_278 : decode cL_law 278 = .ok (.iconst 0, 1) := by decide +kernel
theorem dL_law_279 : decode cL_law 279 = .ok (.laload, 1) := by decide +kernel
theorem dL_law_280 : decode cL_law 280 = .ok (.iload 6, 2) := by decide +kernel
theorem dL_law_282 : decode cL_law 282 = .ok (.i2l, 1) := by decide +kernel
theorem dL_law_283 : decode cL_law 283 = .ok (.lcmp, 1) := by decide +kernel
theorem dL_law_284 : decode cL_law 284 = .ok (.ifCond .eq 5, 3) := by decide +kernel
theorem dL_law_287 : decode cL_law 287 = .ok (.iconst 0, 1) := by decide +kernel
theorem dL_law_288 : decode cL_law 288 = .ok (.ireturn, 1) := by decide +kernel
theorem dL_law_289 : decode cL_law 289 = .ok (.goto 1184, 3) := by decide +kernel
theorem dL_law_292 : decode cL_law 292 = .ok (.aload_n 1, 1) := by decide +kernel
theorem dL_law_293 : decode cL_law 293 = .ok (.aload_n 0, 1) := by decide +kernel
theorem dL_law_294 : decode cL_law 294 = .ok (.iload 4, 2) := by decide +kernel
theorem dL_law_296 : decode cL_law 296 = .ok (.iconst 1, 1) := by decide +kernel
theorem dL_law_297 : decode cL_law 297 = .ok (.iadd, 1) := by decide +kernel
theorem dL_law_298 : decode cL_law 298 = .ok (.iaload, 1) := by decide +kernel
theorem dL_law_299 : decode cL_law 299 = .ok (.aload_n 0, 1) := by decide +kernel
theorem dL_law_300 : decode cL_law 300 = .ok (.iload 4, 2) := by decide +kernel
theorem dL_law_302 : decode cL_law 302 = .ok (.iconst 2, 1) := by decide +kernel
theorem dL_law_303 : decode cL_law 303 = .ok (.iadd, 1) := by decide +kernel
theorem dL_law_304 : decode cL_law 304 = .ok (.iaload, 1) := by decide +kernel
theorem dL_law_305 : decode cL_law 305 = .ok (.aload_n 0, 1) := by decide +kernel
theorem dL_law_306 : decode cL_law 306 = .ok (.iload 4, 2) := by decide +kernel
theorem dL_law_308 : decode cL_law 308 = .ok (.iconst 3, 1) := by decide +kernel
theorem dL_law_309 : decode cL_law 309 = .ok (.iadd, 1) := by decide +kernel
theorem dL_law_310 : decode cL_law 310 = .ok (.iaload, 1) := by decide +kernel
theorem dL_law_311 : decode cL_law 311 = .ok (.aload_n 3, 1) := by decide +kernel
theorem dL_law_312 : decode cL_law 312 = .ok (.invokestatic 97, 3) := by decide +kernel
theorem dL_law_315 : decode cL_law 315 = .ok (.istore 5, 2) := by decide +kernel
theorem dL_law_317 : decode cL_law 317 = .ok (.aload_n 2, 1) := by decide +kernel
theorem dL_law_318 : decode cL_law 318 = .ok (.aload_n 0, 1) := by decide +kernel
theorem dL_law_319 : decode cL_law 319 = .ok (.iload 4, 2) := by decide +kernel
theorem dL_law_321 : decode cL_law 321 = .ok (.iconst 1, 1) := by decide +kernel
theorem dL_law_322 : decode cL_law 322 = .ok (.iadd, 1) := by decide +kernel
theorem dL_law_323 : decode cL_law 323 = .ok (.iaload, 1) := by decide +kernel
theorem dL_law_324 : decode cL_law 324 = .ok (.aload_n 0, 1) := by decide +kernel
theorem dL_law_325 : decode cL_law 325 = .ok (.iload 4, 2) := by decide +kernel
theorem dL_law_327 : decode cL_law 327 = .ok (.iconst 2, 1) := by decide +kernel
theorem dL_law_328 : decode cL_law 328 = .ok (.iadd, 1) := by decide +kernel
theorem dL_law_329 : decode cL_law 329 = .ok (.iaload, 1) := by decide +kernel
theorem dL_law_330 : decode cL_law 330 = .ok (.aload_n 0, 1) := by decide +kernel
theorem dL_law_331 : decode cL_law 331 = .ok (.iload 4, 2) := by decide +kernel
theorem dL_law_333 : decode cL_law 333 = .ok (.iconst 3, 1) := by decide +kernel
theorem dL_law_334 : decode cL_law 334 = .ok (.iadd, 1) := by decide +kernel
theorem dL_law_335 : decode cL_law 335 = .ok (.iaload, 1) := by decide +kernel
theorem dL_law_336 : decode cL_law 336 = .ok (.invokevirtual 99, 3) := by decide +kernel
theorem dL_law_339 : decode cL_law 339 = .ok (.istore 6, 2) := by decide +kernel
theorem dL_law_341 : decode cL_law 341 = .ok (.aload_n 2, 1) := by decide +kernel
theorem dL_law_342 : decode cL_law 342 = .ok (.invokevirtual 90, 3) := by decide +kernel
theorem dL_law_345 : decode cL_law 345 = .ok (.iload 5, 2) := by decide +kernel
theorem dL_law_347 : decode cL_law 347 = .ok (.if_icmp .eq 5, 3) := by decide +kernel
theorem dL_law_350 : decode cL_law 350 = .ok (.iconst 0, 1) := by decide +kernel
theorem dL_law_351 : decode cL_law 351 = .ok (.ireturn, 1) := by decide +kernel
theorem dL_law_352 : decode cL_law 352 = .ok (.iload 5, 2) := by decide +kernel
theorem dL_law_354 : decode cL_law 354 = .ok (.ifCond .ne 15, 3) := by decide +kernel
theorem dL_law_357 : decode cL_law 357 = .ok (.aload_n 3, 1) := by decide +kernel
theorem dL_law_358 : decode cL_law 358 = .ok (.iconst 0, 1) := by decide +kernel
theorem dL_law_359 : decode cL_law 359 = .ok (.laload, 1) := by decide +kernel
theorem dL_law_360 : decode cL_law 360 = .ok (.iload 6, 2) := by decide +kernel
theorem dL_law_362 : decode cL_law 362 = .ok (.i2l, 1) := by decide +kernel
theorem dL_law_363 : decode cL_law 363 = .ok (.lcmp, 1) := by decide +kernel
theorem dL_law_364 : decode cL_law 364 = .ok (.ifCond .eq 5, 3) := by decide +kernel
theorem dL_law_367 : decode cL_law 367 = .ok (.iconst 0, 1) := by decide +kernel
theorem dL_law_368 : decode cL_law 368 = .ok (.ireturn, 1) := by decide +kernel
theorem dL_law_369 : decode cL_law 369 = .ok (.goto 1104, 3) := by decide +kernel
theorem dL_law_372 : decode cL_law 372 = .ok (.aload_n 1, 1) := by decide +kernel
theorem dL_law_373 : decode cL_law 373 = .ok (.aload_n 0, 1) := by decide +kernel
theorem dL_law_374 : decode cL_law 374 = .ok (.iload 4, 2) := by decide +kernel
theorem dL_law_376 : decode cL_law 376 = .ok (.iconst 1, 1) := by decide +kernel
theorem dL_law_377 : decode cL_law 377 = .ok (.iadd, 1) := by decide +kernel
theorem dL_law_378 : decode cL_law 378 = .ok (.iaload, 1) := by decide +kernel
theorem dL_law_379 : decode cL_law 379 = .ok (.aload_n 3, 1) := by decide +kernel
theorem dL_law_380 : decode cL_law 380 = .ok (.invokestatic 100, 3) := by decide +kernel
theorem dL_law_383 : decode cL_law 383 = .ok (.istore 5, 2) := by decide +kernel
theorem dL_law_385 : decode cL_law 385 = .ok (.aload_n 2, 1) := by decide +kernel
theorem dL_law_386 : decode cL_law 386 = .ok (.aload_n 0, 1) := by decide +kernel
theorem dL_law_387 : decode cL_law 387 = .ok (.iload 4, 2) := by decide +kernel
theorem dL_law_389 : decode cL_law 389 = .ok (.iconst 1, 1) := by decide +kernel
theorem dL_law_390 : decode cL_law 390 = .ok (.iadd, 1) := by decide +kernel
theorem dL_law_391 : decode cL_law 391 = .ok (.iaload, 1) := by decide +kernel
theorem dL_law_392 : decode cL_law 392 = .ok (.invokevirtual 103, 3) := by decide +kernel
theorem dL_law_395 : decode cL_law 395 = .ok (.istore 6, 2) := by decide +kernel
theorem dL_law_397 : decode cL_law 397 = .ok (.aload_n 2, 1) := by decide +kernel
theorem dL_law_398 : decode cL_law 398 = .ok (.invokevirtual 90, 3) := by decide +kernel
theorem dL_law_401 : decode cL_law 401 = .ok (.iload 5, 2) := by decide +kernel
theorem dL_law_403 : decode cL_law 403 = .ok (.if_icmp .eq 5, 3) := by decide +kernel
theorem dL_law_406 : decode cL_law 406 = .ok (.iconst 0, 1) := by decide +kernel
theorem dL_law_407 : decode cL_law 407 = .ok (.ireturn, 1) := by decide +kernel
theorem dL_law_408 : decode cL_law 408 = .ok (.iload 5, 2) := by decide +kernel
theorem dL_law_410 : decode cL_law 410 = .ok (.ifCond .ne 22, 3) := by decide +kernel
theorem dL_law_413 : decode cL_law 413 = .ok (.aload_n 3, 1) := by decide +kernel
theorem dL_law_414 : decode cL_law 414 = .ok (.iconst 0, 1) := by decide +kernel
theorem dL_law_415 : decode cL_law 415 = .ok (.laload, 1) := by decide +kernel
theorem dL_law_416 : decode cL_law 416 = .ok (.iload 6, 2) := by decide +kernel
theorem dL_law_418 : decode cL_law 418 = .ok (.ifCond .eq 7, 3) := by decide +kernel
theorem dL_law_421 : decode cL_law 421 = .ok (.lconst 1, 1) := by decide +kernel
theorem dL_law_422 : decode cL_law 422 = .ok (.goto 4, 3) := by decide +kernel
theorem dL_law_425 : decode cL_law 425 = .ok (.lconst 0, 1) := by decide +kernel
theorem dL_law_426 : decode cL_law 426 = .ok (.lcmp, 1) := by decide +kernel
theorem dL_law_427 : decode cL_law 427 = .ok (.ifCond .eq 5, 3) := by decide +kernel
theorem dL_law_430 : decode cL_law 430 = .ok (.iconst 0, 1) := by decide +kernel
theorem dL_law_431 : decode cL_law 431 = .ok (.ireturn, 1) := by decide +kernel
theorem dL_law_432 : decode cL_law 432 = .ok (.goto 1041, 3) := by decide +kernel
theorem dL_law_435 : decode cL_law 435 = .ok (.aload_n 1, 1) := by decide +kernel
theorem dL_law_436 : decode cL_law 436 = .ok (.aload_n 0, 1) := by decide +kernel
theorem dL_law_437 : decode cL_law 437 = .ok (.iload 4, 2) := by decide +kernel
theorem dL_law_439 : decode cL_law 439 = .ok (.iconst 1, 1) := by decide +kernel
theorem dL_law_440 : decode cL_law 440 = .ok (.iadd, 1) := by decide +kernel
theorem dL_law_441 : decode cL_law 441 = .ok (.iaload, 1) := by decide +kernel
theorem dL_law_442 : decode cL_law 442 = .ok (.aload_n 0, 1) := by decide +kernel
theorem dL_law_443 : decode cL_law 443 = .ok (.iload 4, 2) := by decide +kernel
theorem dL_law_445 : decode cL_law 445 = .ok (.iconst 2, 1) := by decide +kernel
theorem dL_law_446 : decode cL_law 446 = .ok (.iadd, 1) := by decide +kernel
theorem dL_law_447 : decode cL_law 447 = .ok (.iaload, 1) := by decide +kernel
theorem dL_law_448 : decode cL_law 448 = .ok (.aload_n 3, 1) := by decide +kernel
theorem dL_law_449 : decode cL_law 449 = .ok (.invokestatic 104, 3) := by decide +kernel
theorem dL_law_452 : decode cL_law 452 = .ok (.istore 5, 2) := by decide +kernel
theorem dL_law_454 : decode cL_law 454 = .ok (.aload_n 2, 1) := by decide +kernel
theorem dL_law_455 : decode cL_law 455 = .ok (.aload_n 0, 1) := by decide +kernel
theorem dL_law_456 : decode cL_law 456 = .ok (.iload 4, 2) := by decide +kernel
theorem dL_law_458 : decode cL_law 458 = .ok (.iconst 1, 1) := by decide +kernel
theorem dL_law_459 : decode cL_law 459 = .ok (.iadd, 1) := by decide +kernel
theorem dL_law_460 : decode cL_law 460 = .ok (.iaload, 1) := by decide +kernel
theorem dL_law_461 : decode cL_law 461 = .ok (.aload_n 0, 1) := by decide +kernel
theorem dL_law_462 : decode cL_law 462 = .ok (.iload 4, 2) := by decide +kernel
theorem dL_law_464 : decode cL_law 464 = .ok (.iconst 2, 1) := by decide +kernel
theorem dL_law_465 : decode cL_law 465 = .ok (.iadd, 1) := by decide +kernel
theorem dL_law_466 : decode cL_law 466 = .ok (.iaload, 1) := by decide +kernel
theorem dL_law_467 : decode cL_law 467 = .ok (.invokevirtual 106, 3) := by decide +kernel
theorem dL_law_470 : decode cL_law 470 = .ok (.istore 6, 2) := by decide +kernel
theorem dL_law_472 : decode cL_law 472 = .ok (.aload_n 2, 1) := by decide +kernel
theorem dL_law_473 : decode cL_law 473 = .ok (.invokevirtual 90, 3) := by decide +kernel
theorem dL_law_476 : decode cL_law 476 = .ok (.iload 5, 2) := by decide +kernel
theorem dL_law_478 : decode cL_law 478 = .ok (.if_icmp .eq 5, 3) := by decide +kernel
theorem dL_law_481 : decode cL_law 481 = .ok (.iconst 0, 1) := by decide +kernel
theorem dL_law_482 : decode cL_law 482 = .ok (.ireturn, 1) := by decide +kernel
theorem dL_law_483 : decode cL_law 483 = .ok (.iload 5, 2) := by decide +kernel
theorem dL_law_485 : decode cL_law 485 = .ok (.ifCond .ne 15, 3) := by decide +kernel
theorem dL_law_488 : decode cL_law 488 = .ok (.aload_n 3, 1) := by decide +kernel
theorem dL_law_489 : decode cL_law 489 = .ok (.iconst 0, 1) := by decide +kernel
theorem dL_law_490 : decode cL_law 490 = .ok (.laload, 1) := by decide +kernel
theorem dL_law_491 : decode cL_law 491 = .ok (.iload 6, 2) := by decide +kernel
theorem dL_law_493 : decode cL_law 493 = .ok (.i2l, 1) := by decide +kernel
theorem dL_law_494 : decode cL_law 494 = .ok (.lcmp, 1) := by decide +kernel
theorem dL_law_495 : decode cL_law 495 = .ok (.ifCond .eq 5, 3) := by decide +kernel
theorem dL_law_498 : decode cL_law 498 = .ok (.iconst 0, 1) := by decide +kernel
theorem dL_law_499 : decode cL_law 499 = .ok (.ireturn, 1) := by decide +kernel
theorem dL_law_500 : decode cL_law 500 = .ok (.goto 973, 3) := by decide +kernel
theorem dL_law_503 : decode cL_law 503 = .ok (.aload_n 1, 1) := by decide +kernel
theorem dL_law_504 : decode cL_law 504 = .ok (.aload_n 0, 1) := by decide +kernel
theorem dL_law_505 : decode cL_law 505 = .ok (.iload 4, 2) := by decide +kernel
theorem dL_law_507 : decode cL_law 507 = .ok (.iconst 1, 1) := by decide +kernel
theorem dL_law_508 : decode cL_law 508 = .ok (.iadd, 1) := by decide +kernel
theorem dL_law_509 : decode cL_law 509 = .ok (.iaload, 1) := by decide +kernel
theorem dL_law_510 : decode cL_law 510 = .ok (.aload_n 3, 1) := by decide +kernel
theorem dL_law_511 : decode cL_law 511 = .ok (.invokestatic 107, 3) := by decide +kernel
theorem dL_law_514 : decode cL_law 514 = .ok (.istore 5, 2) := by decide +kernel
theorem dL_law_516 : decode cL_law 516 = .ok (.aload_n 2, 1) := by decide +kernel
theorem dL_law_517 : decode cL_law 517 = .ok (.aload_n 0, 1) := by decide +kernel
theorem dL_law_518 : decode cL_law 518 = .ok (.iload 4, 2) := by decide +kernel
theorem dL_law_520 : decode cL_law 520 = .ok (.iconst 1, 1) := by decide +kernel
theorem dL_law_521 : decode cL_law 521 = .ok (.iadd, 1) := by decide +kernel
theorem dL_law_522 : decode cL_law 522 = .ok (.iaload, 1) := by decide +kernel
theorem dL_law_523 : decode cL_law 523 = .ok (.invokevirtual 109, 3) := by decide +kernel
theorem dL_law_526 : decode cL_law 526 = .ok (.istore 6, 2) := by decide +kernel
theorem dL_law_528 : decode cL_law 528 = .ok (.aload_n 2, 1) := by decide +kernel
theorem dL_law_529 : decode cL_law 529 = .ok (.invokevirtual 90, 3) := by decide +kernel
theorem dL_law_532 : decode cL_law 532 = .ok (.iload 5, 2) := by decide +kernel
theorem dL_law_534 : decode cL_law 534 = .ok (.if_icmp .eq 5, 3) := by decide +kernel
theorem dL_law_537 : decode cL_law 537 = .ok (.iconst 0, 1) := by decide +kernel
theorem dL_law_538 : decode cL_law 538 = .ok (.ireturn, 1) := by decide +kernel
theorem dL_law_539 : decode cL_law 539 = .ok (.iload 5, 2) := by decide +kernel
theorem dL_law_541 : decode cL_law 541 = .ok (.ifCond .ne 15, 3) := by decide +kernel
theorem dL_law_544 : decode cL_law 544 = .ok (.aload_n 3, 1) := by decide +kernel
theorem dL_law_545 : decode cL_law 545 = .ok (.iconst 0, 1) := by decide +kernel
theorem dL_law_546 : decode cL_law 546 = .ok (.laload, 1) := by decide +kernel
theorem dL_law_547 : decode cL_law 547 = .ok (.iload 6, 2) := by decide +kernel
theorem dL_law_549 : decode cL_law 549 = .ok (.i2l, 1) := by decide +kernel
theorem dL_law_550 : decode cL_law 550 = .ok (.lcmp, 1) := by decide +kernel
theorem dL_law_551 : decode cL_law 551 = .ok (.ifCond .eq 5, 3) := by decide +kernel
theorem dL_law_554 : decode cL_law 554 = .ok (.iconst 0, 1) := by decide +kernel
theorem dL_law_555 : decode cL_law 555 = .ok (.ireturn, 1) := by decide +kernel
theorem dL_law_556 : decode cL_law 556 = .ok (.goto 917, 3) := by decide +kernel
theorem dL_law_559 : decode cL_law 559 = .ok (.aload_n 1, 1) := by decide +kernel
theorem dL_law_560 : decode cL_law 560 = .ok (.invokevirtual 110, 3) := by decide +kernel
theorem dL_law_563 : decode cL_law 563 = .ok (.aload_n 2, 1) := by decide +kernel
theorem dL_law_564 : decode cL_law 564 = .ok (.invokevirtual 113, 3) := by decide +kernel
theorem dL_law_567 : decode cL_law 567 = .ok (.if_icmp .eq 906, 3) := by decide +kernel
theorem dL_law_570 : decode cL_law 570 = .ok (.iconst 0, 1) := by decide +kernel
theorem dL_law_571 : decode cL_law 571 = .ok (.ireturn, 1) := by decide +kernel
theorem dL_law_572 : decode cL_law 572 = .ok (.aload_n 1, 1) := by decide +kernel
theorem dL_law_573 : decode cL_law 573 = .ok (.aload_n 0, 1) := by decide +kernel
theorem dL_law_574 : decode cL_law 574 = .ok (.iload 4, 2) := by decide +kernel
theorem dL_law_576 : decode cL_law 576 = .ok (.iconst 1, 1) := by decide +kernel
theorem dL_law_577 : decode cL_law 577 = .ok (.iadd, 1) := by decide +kernel
theorem dL_law_578 : decode cL_law 578 = .ok (.iaload, 1) := by decide +kernel
theorem dL_law_579 : decode cL_law 579 = .ok (.aload_n 0, 1) := by decide +kernel
theorem dL_law_580 : decode cL_law 580 = .ok (.iload 4, 2) := by decide +kernel
theorem dL_law_582 : decode cL_law 582 = .ok (.iconst 2, 1) := by decide +kernel
theorem dL_law_583 : decode cL_law 583 = .ok (.iadd, 1) := by decide +kernel
theorem dL_law_584 : decode cL_law 584 = .ok (.iaload, 1) := by decide +kernel
theorem dL_law_585 : decode cL_law 585 = .ok (.aload_n 3, 1) := by decide +kernel
theorem dL_law_586 : decode cL_law 586 = .ok (.invokestatic 114, 3) := by decide +kernel
theorem dL_law_589 : decode cL_law 589 = .ok (.istore 5, 2) := by decide +kernel
theorem dL_law_591 : decode cL_law 591 = .ok (.aload_n 2, 1) := by decide +kernel
theorem dL_law_592 : decode cL_law 592 = .ok (.aload_n 0, 1) := by decide +kernel
theorem dL_law_593 : decode cL_law 593 = .ok (.iload 4, 2) := by decide +kernel
theorem dL_law_595 : decode cL_law 595 = .ok (.iconst 1, 1) := by decide +kernel
theorem dL_law_596 : decode cL_law 596 = .ok (.iadd, 1) := by decide +kernel
theorem dL_law_597 : decode cL_law 597 = .ok (.iaload, 1) := by decide +kernel
theorem dL_law_598 : decode cL_law 598 = .ok (.aload_n 0, 1) := by decide +kernel
theorem dL_law_599 : decode cL_law 599 = .ok (.iload 4, 2) := by decide +kernel
theorem dL_law_601 : decode cL_law 601 = .ok (.iconst 2, 1) := by decide +kernel
theorem dL_law_602 : decode cL_law 602 = .ok (.iadd, 1) := by decide +kernel
theorem dL_law_603 : decode cL_law 603 = .ok (.iaload, 1) := by decide +kernel
theorem dL_law_604 : decode cL_law 604 = .ok (.invokevirtual 116, 3) := by decide +kernel
theorem dL_law_607 : decode cL_law 607 = .ok (.istore 6, 2) := by decide +kernel
theorem dL_law_609 : decode cL_law 609 = .ok (.aload_n 2, 1) := by decide +kernel
theorem dL_law_610 : decode cL_law 610 = .ok (.invokevirtual 90, 3) := by decide +kernel
theorem dL_law_613 : decode cL_law 613 = .ok (.iload 5, 2) := by decide +kernel
theorem dL_law_615 : decode cL_law 615 = .ok (.if_icmp .eq 5, 3) := by decide +kernel
theorem dL_law_618 : decode cL_law 618 = .ok (.iconst 0, 1) := by decide +kernel
theorem dL_law_619 : decode cL_law 619 = .ok (.ireturn, 1) := by decide +kernel
theorem dL_law_620 : decode cL_law 620 = .ok (.iload 5, 2) := by decide +kernel
theorem dL_law_622 : decode cL_law 622 = .ok (.ifCond .ne 15, 3) := by decide +kernel
theorem dL_law_625 : decode cL_law 625 = .ok (.aload_n 3, 1) := by decide +kernel
theorem dL_law_626 : decode cL_law 626 = .ok (.iconst 0, 1) := by decide +kernel
theorem dL_law_627 : decode cL_law 627 = .ok (.laload, 1) := by decide +kernel
theorem dL_law_628 : decode cL_law 628 = .ok (.iload 6, 2) := by decide +kernel
theorem dL_law_630 : decode cL_law 630 = .ok (.i2l, 1) := by decide +kernel
theorem dL_law_631 : decode cL_law 631 = .ok (.lcmp, 1) := by decide +kernel
theorem dL_law_632 : decode cL_law 632 = .ok (.ifCond .eq 5, 3) := by decide +kernel
theorem dL_law_635 : decode cL_law 635 = .ok (.iconst 0, 1) := by decide +kernel
theorem dL_law_636 : decode cL_law 636 = .ok (.ireturn, 1) := by decide +kernel
theorem dL_law_637 : decode cL_law 637 = .ok (.goto 836, 3) := by decide +kernel
theorem dL_law_640 : decode cL_law 640 = .ok (.aload_n 1, 1) := by decide +kernel
theorem dL_law_641 : decode cL_law 641 = .ok (.aload_n 0, 1) := by decide +kernel
theorem dL_law_642 : decode cL_law 642 = .ok (.iload 4, 2) := by decide +kernel
theorem dL_law_644 : decode cL_law 644 = .ok (.iconst 1, 1) := by decide +kernel
theorem dL_law_645 : decode cL_law 645 = .ok (.iadd, 1) := by decide +kernel
theorem dL_law_646 : decode cL_law 646 = .ok (.iaload, 1) := by decide +kernel
theorem dL_law_647 : decode cL_law 647 = .ok (.aload_n 3, 1) := by decide +kernel
theorem dL_law_648 : decode cL_law 648 = .ok (.invokestatic 117, 3) := by decide +kernel
theorem dL_law_651 : decode cL_law 651 = .ok (.istore 5, 2) := by decide +kernel
theorem dL_law_653 : decode cL_law 653 = .ok (.aload_n 2, 1) := by decide +kernel
theorem dL_law_654 : decode cL_law 654 = .ok (.aload_n 0, 1) := by decide +kernel
theorem dL_law_655 : decode cL_law 655 = .ok (.iload 4, 2) := by decide +kernel
theorem dL_law_657 : decode cL_law 657 = .ok (.iconst 1, 1) := by decide +kernel
theorem dL_law_658 : decode cL_law 658 = .ok (.iadd, 1) := by decide +kernel
theorem dL_law_659 : decode cL_law 659 = .ok (.iaload, 1) := by decide +kernel
theorem dL_law_660 : decode cL_law 660 = .ok (.invokevirtual 119, 3) := by decide +kernel
theorem dL_law_663 : decode cL_law 663 = .ok (.istore 6, 2) := by decide +kernel
theorem dL_law_665 : decode cL_law 665 = .ok (.aload_n 2, 1) := by decide +kernel
theorem dL_law_666 : decode cL_law 666 = .ok (.invokevirtual 90, 3) := by decide +kernel
theorem dL_law_669 : decode cL_law 669 = .ok (.iload 5, 2) := by decide +kernel
theorem dL_law_671 : decode cL_law 671 = .ok (.if_icmp .eq 5, 3) := by decide +kernel
theorem dL_law_674 : decode cL_law 674 = .ok (.iconst 0, 1) := by decide +kernel
theorem dL_law_675 : decode cL_law 675 = .ok (.ireturn, 1) := by decide +kernel
theorem dL_law_676 : decode cL_law 676 = .ok (.iload 5, 2) := by decide +kernel
theorem dL_law_678 : decode cL_law 678 = .ok (.ifCond .ne 15, 3) := by decide +kernel
theorem dL_law_681 : decode cL_law 681 = .ok (.aload_n 3, 1) := by decide +kernel
theorem dL_law_682 : decode cL_law 682 = .ok (.iconst 0, 1) := by decide +kernel
theorem dL_law_683 : decode cL_law 683 = .ok (.laload, 1) := by decide +kernel
theorem dL_law_684 : decode cL_law 684 = .ok (.iload 6, 2) := by decide +kernel
theorem dL_law_686 : decode cL_law 686 = .ok (.i2l, 1) := by decide +kernel
theorem dL_law_687 : decode cL_law 687 = .ok (.lcmp, 1) := by decide +kernel
theorem dL_law_688 : decode cL_law 688 = .ok (.ifCond .eq 5, 3) := by decide +kernel
theorem dL_law_691 : decode cL_law 691 = .ok (.iconst 0, 1) := by decide +kernel
theorem dL_law_692 : decode cL_law 692 = .ok (.ireturn, 1) := by decide +kernel
theorem dL_law_693 : decode cL_law 693 = .ok (.goto 780, 3) := by decide +kernel
theorem dL_law_696 : decode cL_law 696 = .ok (.aload_n 1, 1) := by decide +kernel
theorem dL_law_697 : decode cL_law 697 = .ok (.aload_n 0, 1) := by decide +kernel
theorem dL_law_698 : decode cL_law 698 = .ok (.iload 4, 2) := by decide +kernel
theorem dL_law_700 : decode cL_law 700 = .ok (.iconst 1, 1) := by decide +kernel
theorem dL_law_701 : decode cL_law 701 = .ok (.iadd, 1) := by decide +kernel
theorem dL_law_702 : decode cL_law 702 = .ok (.iaload, 1) := by decide +kernel
theorem dL_law_703 : decode cL_law 703 = .ok (.aload_n 0, 1) := by decide +kernel
theorem dL_law_704 : decode cL_law 704 = .ok (.iload 4, 2) := by decide +kernel
theorem dL_law_706 : decode cL_law 706 = .ok (.iconst 2, 1) := by decide +kernel
theorem dL_law_707 : decode cL_law 707 = .ok (.iadd, 1) := by decide +kernel
theorem dL_law_708 : decode cL_law 708 = .ok (.iaload, 1) := by decide +kernel
theorem dL_law_709 : decode cL_law 709 = .ok (.aload_n 3, 1) := by decide +kernel
theorem dL_law_710 : decode cL_law 710 = .ok (.invokestatic 120, 3) := by decide +kernel
theorem dL_law_713 : decode cL_law 713 = .ok (.istore 5, 2) := by decide +kernel
theorem dL_law_715 : decode cL_law 715 = .ok (.aload_n 2, 1) := by decide +kernel
theorem dL_law_716 : decode cL_law 716 = .ok (.aload_n 0, 1) := by decide +kernel
theorem dL_law_717 : decode cL_law 717 = .ok (.iload 4, 2) := by decide +kernel
theorem dL_law_719 : decode cL_law 719 = .ok (.iconst 1, 1) := by decide +kernel
theorem dL_law_720 : decode cL_law 720 = .ok (.iadd, 1) := by decide +kernel
theorem dL_law_721 : decode cL_law 721 = .ok (.iaload, 1) := by decide +kernel
theorem dL_law_722 : decode cL_law 722 = .ok (.aload_n 0, 1) := by decide +kernel
theorem dL_law_723 : decode cL_law 723 = .ok (.iload 4, 2) := by decide +kernel
theorem dL_law_725 : decode cL_law 725 = .ok (.iconst 2, 1) := by decide +kernel
theorem dL_law_726 : decode cL_law 726 = .ok (.iadd, 1) := by decide +kernel
theorem dL_law_727 : decode cL_law 727 = .ok (.iaload, 1) := by decide +kernel
theorem dL_law_728 : decode cL_law 728 = .ok (.invokevirtual 122, 3) := by decide +kernel
theorem dL_law_731 : decode cL_law 731 = .ok (.istore 6, 2) := by decide +kernel
theorem dL_law_733 : decode cL_law 733 = .ok (.aload_n 2, 1) := by decide +kernel
theorem dL_law_734 : decode cL_law 734 = .ok (.invokevirtual 90, 3) := by decide +kernel
theorem dL_law_737 : decode cL_law 737 = .ok (.iload 5, 2) := by decide +kernel
theorem dL_law_739 : decode cL_law 739 = .ok (.if_icmp .eq 5, 3) := by decide +kernel
theorem dL_law_742 : decode cL_law 742 = .ok (.iconst 0, 1) := by decide +kernel
theorem dL_law_743 : decode cL_law 743 = .ok (.ireturn, 1) := by decide +kernel
theorem dL_law_744 : decode cL_law 744 = .ok (.iload 5, 2) := by decide +kernel
theorem dL_law_746 : decode cL_law 746 = .ok (.ifCond .ne 15, 3) := by decide +kernel
theorem dL_law_749 : decode cL_law 749 = .ok (.aload_n 3, 1) := by decide +kernel
theorem dL_law_750 : decode cL_law 750 = .ok (.iconst 0, 1) := by decide +kernel
theorem dL_law_751 : decode cL_law 751 = .ok (.laload, 1) := by decide +kernel
theorem dL_law_752 : decode cL_law 752 = .ok (.iload 6, 2) := by decide +kernel
theorem dL_law_754 : decode cL_law 754 = .ok (.i2l, 1) := by decide +kernel
theorem dL_law_755 : decode cL_law 755 = .ok (.lcmp, 1) := by decide +kernel
theorem dL_law_756 : decode cL_law 756 = .ok (.ifCond .eq 5, 3) := by decide +kernel
theorem dL_law_759 : decode cL_law 759 = .ok (.iconst 0, 1) := by decide +kernel
theorem dL_law_760 : decode cL_law 760 = .ok (.ireturn, 1) := by decide +kernel
theorem dL_law_761 : decode cL_law 761 = .ok (.goto 712, 3) := by decide +kernel
theorem dL_law_764 : decode cL_law 764 = .ok (.aload_n 1, 1) := by decide +kernel
theorem dL_law_765 : decode cL_law 765 = .ok (.aload_n 0, 1) := by decide +kernel
theorem dL_law_766 : decode cL_law 766 = .ok (.iload 4, 2) := by decide +kernel
theorem dL_law_768 : decode cL_law 768 = .ok (.iconst 1, 1) := by decide +kernel
theorem dL_law_769 : decode cL_law 769 = .ok (.iadd, 1) := by decide +kernel
theorem dL_law_770 : decode cL_law 770 = .ok (.iaload, 1) := by decide +kernel
theorem dL_law_771 : decode cL_law 771 = .ok (.aload_n 3, 1) := by decide +kernel
theorem dL_law_772 : decode cL_law 772 = .ok (.invokestatic 123, 3) := by decide +kernel
theorem dL_law_775 : decode cL_law 775 = .ok (.istore 5, 2) := by decide +kernel
theorem dL_law_777 : decode cL_law 777 = .ok (.aload_n 2, 1) := by decide +kernel
theorem dL_law_778 : decode cL_law 778 = .ok (.aload_n 0, 1) := by decide +kernel
theorem dL_law_779 : decode cL_law 779 = .ok (.iload 4, 2) := by decide +kernel
theorem dL_law_781 : decode cL_law 781 = .ok (.iconst 1, 1) := by decide +kernel
end
section
theorem dL_law_782 : decode cL_law 782 = .ok (.iadd, 1) := by decide +kernel
theorem dL_law_783 : decode cL_law 783 = .ok (.iaload, 1) := by decide +kernel
theorem dL_law_784 : decode cL_law 784 = .ok (.invokevirtual 125, 3) := by decide +kernel
theorem dL_law_787 : decode cL_law 787 = .ok (.istore 6, 2) := by decide +kernel
theorem dL_law_789 : decode cL_law 789 = .ok (.aload_n 2, 1) := by decide +kernel
theorem dL_law_790 : decode cL_law 790 = .ok (.invokevirtual 90, 3) := by decide +kernel
theorem dL_law_793 : decode cL_law 793 = .ok (.iload 5, 2) := by decide +kernel
theorem dL_law_795 : decode cL_law 795 = .ok (.if_icmp .eq 5, 3) := by decide +kernel
theorem dL_law_798 : decode cL_law 798 = .ok (.iconst 0, 1) := by decide +kernel
theorem dL_law_799 : decode cL_law 799 = .ok (.ireturn, 1) := by decide +kernel
theorem dL_law_800 : decode cL_law 800 = .ok (.iload 5, 2) := by decide +kernel
theorem dL_law_802 : decode cL_law 802 = .ok (.ifCond .ne 15, 3) := by decide +kernel
theorem dL_law_805 : decode cL_law 805 = .ok (.aload_n 3, 1) := by decide +kernel
theorem dL_law_806 : decode cL_law 806 = .ok (.iconst 0, 1) := by decide +kernel
theorem dL_law_807 : decode cL_law 807 = .ok (.laload, 1) := by decide +kernel
theorem dL_law_808 : decode cL_law 808 = .ok (.iload 6, 2) := by decide +kernel
theorem dL_law_810 : decode cL_law 810 = .ok (.i2l, 1) := by decide +kernel
theorem dL_law_811 : decode cL_law 811 = .ok (.lcmp, 1) := by decide +kernel
theorem dL_law_812 : decode cL_law 812 = .ok (.ifCond .eq 5, 3) := by decide +kernel
theorem dL_law_815 : decode cL_law 815 = .ok (.iconst 0, 1) := by decide +kernel
theorem dL_law_816 : decode cL_law 816 = .ok (.ireturn, 1) := by decide +kernel
theorem dL_law_817 : decode cL_law 817 = .ok (.goto 656, 3) := by decide +kernel
theorem dL_law_820 : decode cL_law 820 = .ok (.aload_n 1, 1) := by decide +kernel
theorem dL_law_821 : decode cL_law 821 = .ok (.aload_n 0, 1) := by decide +kernel
theorem dL_law_822 : decode cL_law 822 = .ok (.iload 4, 2) := by decide +kernel
theorem dL_law_824 : decode cL_law 824 = .ok (.iconst 1, 1) := by decide +kernel
theorem dL_law_825 : decode cL_law 825 = .ok (.iadd, 1) := by decide +kernel
theorem dL_law_826 : decode cL_law 826 = .ok (.iaload, 1) := by decide +kernel
theorem dL_law_827 : decode cL_law 827 = .ok (.aload_n 0, 1) := by decide +kernel
theorem dL_law_828 : decode cL_law 828 = .ok (.iload 4, 2) := by decide +kernel
theorem dL_law_830 : decode cL_law 830 = .ok (.iconst 2, 1) := by decide +kernel
theorem dL_law_831 : decode cL_law 831 = .ok (.iadd, 1) := by decide +kernel
theorem dL_law_832 : decode cL_law 832 = .ok (.iaload, 1) := by decide +kernel
theorem dL_law_833 : decode cL_law 833 = .ok (.aload_n 0, 1) := by decide +kernel
theorem dL_law_834 : decode cL_law 834 = .ok (.iload 4, 2) := by decide +kernel
theorem dL_law_836 : decode cL_law 836 = .ok (.iconst 3, 1) := by decide +kernel
theorem dL_law_837 : decode cL_law 837 = .ok (.iadd, 1) := by decide +kernel
theorem dL_law_838 : decode cL_law 838 = .ok (.iaload, 1) := by decide +kernel
theorem dL_law_839 : decode cL_law 839 = .ok (.aload_n 3, 1) := by decide +kernel
theorem dL_law_840 : decode cL_law 840 = .ok (.invokestatic 126, 3) := by decide +kernel
theorem dL_law_843 : decode cL_law 843 = .ok (.istore 5, 2) := by decide +kernel
theorem dL_law_845 : decode cL_law 845 = .ok (.aload_n 2, 1) := by decide +kernel
theorem dL_law_846 : decode cL_law 846 = .ok (.aload_n 0, 1) := by decide +kernel
theorem dL_law_847 : decode cL_law 847 = .ok (.iload 4, 2) := by decide +kernel
theorem dL_law_849 : decode cL_law 849 = .ok (.iconst 1, 1) := by decide +kernel
theorem dL_law_850 : decode cL_law 850 = .ok (.iadd, 1) := by decide +kernel
theorem dL_law_851 : decode cL_law 851 = .ok (.iaload, 1) := by decide +kernel
theorem dL_law_852 : decode cL_law 852 = .ok (.aload_n 0, 1) := by decide +kernel
theorem dL_law_853 : decode cL_law 853 = .ok (.iload 4, 2) := by decide +kernel
theorem dL_law_855 : decode cL_law 855 = .ok (.iconst 2, 1) := by decide +kernel
theorem dL_law_856 : decode cL_law 856 = .ok (.iadd, 1) := by decide +kernel
theorem dL_law_857 : decode cL_law 857 = .ok (.iaload, 1) := by decide +kernel
theorem dL_law_858 : decode cL_law 858 = .ok (.aload_n 0, 1) := by decide +kernel
theorem dL_law_859 : decode cL_law 859 = .ok (.iload 4, 2) := by decide +kernel
theorem dL_law_861 : decode cL_law 861 = .ok (.iconst 3, 1) := by decide +kernel
theorem dL_law_862 : decode cL_law 862 = .ok (.iadd, 1) := by decide +kernel
theorem dL_law_863 : decode cL_law 863 = .ok (.iaload, 1) := by decide +kernel
theorem dL_law_864 : decode cL_law 864 = .ok (.invokevirtual 128, 3) := by decide +kernel
theorem dL_law_867 : decode cL_law 867 = .ok (.istore 6, 2) := by decide +kernel
theorem dL_law_869 : decode cL_law 869 = .ok (.aload_n 2, 1) := by decide +kernel
theorem dL_law_870 : decode cL_law 870 = .ok (.invokevirtual 90, 3) := by decide +kernel
theorem dL_law_873 : decode cL_law 873 = .ok (.iload 5, 2) := by decide +kernel
theorem dL_law_875 : decode cL_law 875 = .ok (.if_icmp .eq 5, 3) := by decide +kernel
theorem dL_law_878 : decode cL_law 878 = .ok (.iconst 0, 1) := by decide +kernel
theorem dL_law_879 : decode cL_law 879 = .ok (.ireturn, 1) := by decide +kernel
theorem dL_law_880 : decode cL_law 880 = .ok (.iload 5, 2) := by decide +kernel
theorem dL_law_882 : decode cL_law 882 = .ok (.ifCond .ne 15, 3) := by decide +kernel
theorem dL_law_885 : decode cL_law 885 = .ok (.aload_n 3, 1) := by decide +kernel
theorem dL_law_886 : decode cL_law 886 = .ok (.iconst 0, 1) := by decide +kernel
theorem dL_law_887 : decode cL_law 887 = .ok (.laload, 1) := by decide +kernel
theorem dL_law_888 : decode cL_law 888 = .ok (.iload 6, 2) := by decide +kernel
theorem dL_law_890 : decode cL_law 890 = .ok (.i2l, 1) := by decide +kernel
theorem dL_law_891 : decode cL_law 891 = .ok (.lcmp, 1) := by decide +kernel
theorem dL_law_892 : decode cL_law 892 = .ok (.ifCond .eq 5, 3) := by decide +kernel
theorem dL_law_895 : decode cL_law 895 = .ok (.iconst 0, 1) := by decide +kernel
theorem dL_law_896 : decode cL_law 896 = .ok (.ireturn, 1) := by decide +kernel
theorem dL_law_897 : decode cL_law 897 = .ok (.goto 576, 3) := by decide +kernel
theorem dL_law_900 : decode cL_law 900 = .ok (.aload_n 1, 1) := by decide +kernel
theorem dL_law_901 : decode cL_law 901 = .ok (.aload_n 0, 1) := by decide +kernel
theorem dL_law_902 : decode cL_law 902 = .ok (.iload 4, 2) := by decide +kernel
theorem dL_law_904 : decode cL_law 904 = .ok (.iconst 1, 1) := by decide +kernel
theorem dL_law_905 : decode cL_law 905 = .ok (.iadd, 1) := by decide +kernel
theorem dL_law_906 : decode cL_law 906 = .ok (.iaload, 1) := by decide +kernel
theorem dL_law_907 : decode cL_law 907 = .ok (.aload_n 0, 1) := by decide +kernel
theorem dL_law_908 : decode cL_law 908 = .ok (.iload 4, 2) := by decide +kernel
theorem dL_law_910 : decode cL_law 910 = .ok (.iconst 2, 1) := by decide +kernel
theorem dL_law_911 : decode cL_law 911 = .ok (.iadd, 1) := by decide +kernel
theorem dL_law_912 : decode cL_law 912 = .ok (.iaload, 1) := by decide +kernel
theorem dL_law_913 : decode cL_law 913 = .ok (.aload_n 0, 1) := by decide +kernel
theorem dL_law_914 : decode cL_law 914 = .ok (.iload 4, 2) := by decide +kernel
theorem dL_law_916 : decode cL_law 916 = .ok (.iconst 3, 1) := by decide +kernel
theorem dL_law_917 : decode cL_law 917 = .ok (.iadd, 1) := by decide +kernel
theorem dL_law_918 : decode cL_law 918 = .ok (.iaload, 1) := by decide +kernel
theorem dL_law_919 : decode cL_law 919 = .ok (.aload_n 3, 1) := by decide +kernel
theorem dL_law_920 : decode cL_law 920 = .ok (.invokestatic 129, 3) := by decide +kernel
theorem dL_law_923 : decode cL_law 923 = .ok (.istore 5, 2) := by decide +kernel
theorem dL_law_925 : decode cL_law 925 = .ok (.aload_n 2, 1) := by decide +kernel
theorem dL_law_926 : decode cL_law 926 = .ok (.aload_n 0, 1) := by decide +kernel
theorem dL_law_927 : decode cL_law 927 = .ok (.iload 4, 2) := by decide +kernel
theorem dL_law_929 : decode cL_law 929 = .ok (.iconst 1, 1) := by decide +kernel
theorem dL_law_930 : decode cL_law 930 = .ok (.iadd, 1) := by decide +kernel
theorem dL_law_931 : decode cL_law 931 = .ok (.iaload, 1) := by decide +kernel
theorem dL_law_932 : decode cL_law 932 = .ok (.aload_n 0, 1) := by decide +kernel
theorem dL_law_933 : decode cL_law 933 = .ok (.iload 4, 2) := by decide +kernel
theorem dL_law_935 : decode cL_law 935 = .ok (.iconst 2, 1) := by decide +kernel
theorem dL_law_936 : decode cL_law 936 = .ok (.iadd, 1) := by decide +kernel
theorem dL_law_937 : decode cL_law 937 = .ok (.iaload, 1) := by decide +kernel
theorem dL_law_938 : decode cL_law 938 = .ok (.aload_n 0, 1) := by decide +kernel
theorem dL_law_939 : decode cL_law 939 = .ok (.iload 4, 2) := by decide +kernel
theorem dL_law_941 : decode cL_law 941 = .ok (.iconst 3, 1) := by decide +kernel
theorem dL_law_942 : decode cL_law 942 = .ok (.iadd, 1) := by decide +kernel
theorem dL_law_943 : decode cL_law 943 = .ok (.iaload, 1) := by decide +kernel
theorem dL_law_944 : decode cL_law 944 = .ok (.invokevirtual 131, 3) := by decide +kernel
theorem dL_law_947 : decode cL_law 947 = .ok (.istore 6, 2) := by decide +kernel
theorem dL_law_949 : decode cL_law 949 = .ok (.aload_n 2, 1) := by decide +kernel
theorem dL_law_950 : decode cL_law 950 = .ok (.invokevirtual 90, 3) := by decide +kernel
theorem dL_law_953 : decode cL_law 953 = .ok (.iload 5, 2) := by decide +kernel
theorem dL_law_955 : decode cL_law 955 = .ok (.if_icmp .eq 5, 3) := by decide +kernel
theorem dL_law_958 : decode cL_law 958 = .ok (.iconst 0, 1) := by decide +kernel
theorem dL_law_959 : decode cL_law 959 = .ok (.ireturn, 1) := by decide +kernel
theorem dL_law_960 : decode cL_law 960 = .ok (.iload 5, 2) := by decide +kernel
theorem dL_law_962 : decode cL_law 962 = .ok (.ifCond .ne 15, 3) := by decide +kernel
theorem dL_law_965 : decode cL_law 965 = .ok (.aload_n 3, 1) := by decide +kernel
theorem dL_law_966 : decode cL_law 966 = .ok (.iconst 0, 1) := by decide +kernel
theorem dL_law_967 : decode cL_law 967 = .ok (.laload, 1) := by decide +kernel
theorem dL_law_968 : decode cL_law 968 = .ok (.iload 6, 2) := by decide +kernel
theorem dL_law_970 : decode cL_law 970 = .ok (.i2l, 1) := by decide +kernel
theorem dL_law_971 : decode cL_law 971 = .ok (.lcmp, 1) := by decide +kernel
theorem dL_law_972 : decode cL_law 972 = .ok (.ifCond .eq 5, 3) := by decide +kernel
theorem dL_law_975 : decode cL_law 975 = .ok (.iconst 0, 1) := by decide +kernel
theorem dL_law_976 : decode cL_law 976 = .ok (.ireturn, 1) := by decide +kernel
theorem dL_law_977 : decode cL_law 977 = .ok (.goto 496, 3) := by decide +kernel
theorem dL_law_980 : decode cL_law 980 = .ok (.aload_n 1, 1) := by decide +kernel
theorem dL_law_981 : decode cL_law 981 = .ok (.aload_n 3, 1) := by decide +kernel
theorem dL_law_982 : decode cL_law 982 = .ok (.invokestatic 132, 3) := by decide +kernel
theorem dL_law_985 : decode cL_law 985 = .ok (.istore 5, 2) := by decide +kernel
theorem dL_law_987 : decode cL_law 987 = .ok (.aload_n 2, 1) := by decide +kernel
theorem dL_law_988 : decode cL_law 988 = .ok (.invokevirtual 135, 3) := by decide +kernel
theorem dL_law_991 : decode cL_law 991 = .ok (.istore 6, 2) := by decide +kernel
theorem dL_law_993 : decode cL_law 993 = .ok (.aload_n 2, 1) := by decide +kernel
theorem dL_law_994 : decode cL_law 994 = .ok (.invokevirtual 90, 3) := by decide +kernel
theorem dL_law_997 : decode cL_law 997 = .ok (.iload 5, 2) := by decide +kernel
theorem dL_law_999 : decode cL_law 999 = .ok (.if_icmp .eq 5, 3) := by decide +kernel
theorem dL_law_1002 : decode cL_law 1002 = .ok (.iconst 0, 1) := by decide +kernel
theorem dL_law_1003 : decode cL_law 1003 = .ok (.ireturn, 1) := by decide +kernel
theorem dL_law_1004 : decode cL_law 1004 = .ok (.iload 5, 2) := by decide +kernel
theorem dL_law_1006 : decode cL_law 1006 = .ok (.ifCond .ne 15, 3) := by decide +kernel
theorem dL_law_1009 : decode cL_law 1009 = .ok (.aload_n 3, 1) := by decide +kernel
theorem dL_law_1010 : decode cL_law 1010 = .ok (.iconst 0, 1) := by decide +kernel
theorem dL_law_1011 : decode cL_law 1011 = .ok (.laload, 1) := by decide +kernel
theorem dL_law_1012 : decode cL_law 1012 = .ok (.iload 6, 2) := by decide +kernel
theorem dL_law_1014 : decode cL_law 1014 = .ok (.i2l, 1) := by decide +kernel
theorem dL_law_1015 : decode cL_law 1015 = .ok (.lcmp, 1) := by decide +kernel
theorem dL_law_1016 : decode cL_law 1016 = .ok (.ifCond .eq 5, 3) := by decide +kernel
theorem dL_law_1019 : decode cL_law 1019 = .ok (.iconst 0, 1) := by decide +kernel
theorem dL_law_1020 : decode cL_law 1020 = .ok (.ireturn, 1) := by decide +kernel
theorem dL_law_1021 : decode cL_law 1021 = .ok (.goto 452, 3) := by decide +kernel
theorem dL_law_1024 : decode cL_law 1024 = .ok (.aload_n 1, 1) := by decide +kernel
theorem dL_law_1025 : decode cL_law 1025 = .ok (.aload_n 0, 1) := by decide +kernel
theorem dL_law_1026 : decode cL_law 1026 = .ok (.iload 4, 2) := by decide +kernel
theorem dL_law_1028 : decode cL_law 1028 = .ok (.iconst 1, 1) := by decide +kernel
theorem dL_law_1029 : decode cL_law 1029 = .ok (.iadd, 1) := by decide +kernel
theorem dL_law_1030 : decode cL_law 1030 = .ok (.iaload, 1) := by decide +kernel
theorem dL_law_1031 : decode cL_law 1031 = .ok (.aload_n 3, 1) := by decide +kernel
theorem dL_law_1032 : decode cL_law 1032 = .ok (.invokestatic 136, 3) := by decide +kernel
theorem dL_law_1035 : decode cL_law 1035 = .ok (.istore 5, 2) := by decide +kernel
theorem dL_law_1037 : decode cL_law 1037 = .ok (.aload_n 2, 1) := by decide +kernel
theorem dL_law_1038 : decode cL_law 1038 = .ok (.aload_n 0, 1) := by decide +kernel
theorem dL_law_1039 : decode cL_law 1039 = .ok (.iload 4, 2) := by decide +kernel
theorem dL_law_1041 : decode cL_law 1041 = .ok (.iconst 1, 1) := by decide +kernel
theorem dL_law_1042 : decode cL_law 1042 = .ok (.iadd, 1) := by decide +kernel
theorem dL_law_1043 : decode cL_law 1043 = .ok (.iaload, 1) := by decide +kernel
theorem dL_law_1044 : decode cL_law 1044 = .ok (.invokevirtual 138, 3) := by decide +kernel
theorem dL_law_1047 : decode cL_law 1047 = .ok (.istore 6, 2) := by decide +kernel
theorem dL_law_1049 : decode cL_law 1049 = .ok (.aload_n 2, 1) := by decide +kernel
theorem dL_law_1050 : decode cL_law 1050 = .ok (.invokevirtual 90, 3) := by decide +kernel
theorem dL_law_1053 : decode cL_law 1053 = .ok (.iload 5, 2) := by decide +kernel
theorem dL_law_1055 : decode cL_law 1055 = .ok (.if_icmp .eq 5, 3) := by decide +kernel
theorem dL_law_1058 : decode cL_law 1058 = .ok (.iconst 0, 1) := by decide +kernel
theorem dL_law_1059 : decode cL_law 1059 = .ok (.ireturn, 1) := by decide +kernel
theorem dL_law_1060 : decode cL_law 1060 = .ok (.iload 5, 2) := by decide +kernel
theorem dL_law_1062 : decode cL_law 1062 = .ok (.ifCond .ne 15, 3) := by decide +kernel
theorem dL_law_1065 : decode cL_law 1065 = .ok (.aload_n 3, 1) := by decide +kernel
theorem dL_law_1066 : decode cL_law 1066 = .ok (.iconst 0, 1) := by decide +kernel
theorem dL_law_1067 : decode cL_law 1067 = .ok (.laload, 1) := by decide +kernel
theorem dL_law_1068 : decode cL_law 1068 = .ok (.iload 6, 2) := by decide +kernel
theorem dL_law_1070 : decode cL_law 1070 = .ok (.i2l, 1) := by decide +kernel
theorem dL_law_1071 : decode cL_law 1071 = .ok (.lcmp, 1) := by decide +kernel
theorem dL_law_1072 : decode cL_law 1072 = .ok (.ifCond .eq 5, 3) := by decide +kernel
theorem dL_law_1075 : decode cL_law 1075 = .ok (.iconst 0, 1) := by decide +kernel
theorem dL_law_1076 : decode cL_law 1076 = .ok (.ireturn, 1) := by decide +kernel
theorem dL_law_1077 : decode cL_law 1077 = .ok (.goto 396, 3) := by decide +kernel
theorem dL_law_1080 : decode cL_law 1080 = .ok (.aload_n 1, 1) := by decide +kernel
theorem dL_law_1081 : decode cL_law 1081 = .ok (.invokevirtual 139, 3) := by decide +kernel
theorem dL_law_1084 : decode cL_law 1084 = .ok (.aload_n 2, 1) := by decide +kernel
theorem dL_law_1085 : decode cL_law 1085 = .ok (.invokevirtual 142, 3) := by decide +kernel
theorem dL_law_1088 : decode cL_law 1088 = .ok (.if_icmp .eq 385, 3) := by decide +kernel
theorem dL_law_1091 : decode cL_law 1091 = .ok (.iconst 0, 1) := by decide +kernel
theorem dL_law_1092 : decode cL_law 1092 = .ok (.ireturn, 1) := by decide +kernel
theorem dL_law_1093 : decode cL_law 1093 = .ok (.aload_n 1, 1) := by decide +kernel
theorem dL_law_1094 : decode cL_law 1094 = .ok (.aload_n 0, 1) := by decide +kernel
theorem dL_law_1095 : decode cL_law 1095 = .ok (.iload 4, 2) := by decide +kernel
theorem dL_law_1097 : decode cL_law 1097 = .ok (.iconst 1, 1) := by decide +kernel
theorem dL_law_1098 : decode cL_law 1098 = .ok (.iadd, 1) := by decide +kernel
theorem dL_law_1099 : decode cL_law 1099 = .ok (.iaload, 1) := by decide +kernel
theorem dL_law_1100 : decode cL_law 1100 = .ok (.aload_n 3, 1) := by decide +kernel
theorem dL_law_1101 : decode cL_law 1101 = .ok (.invokestatic 143, 3) := by decide +kernel
theorem dL_law_1104 : decode cL_law 1104 = .ok (.istore 5, 2) := by decide +kernel
theorem dL_law_1106 : decode cL_law 1106 = .ok (.aload_n 2, 1) := by decide +kernel
theorem dL_law_1107 : decode cL_law 1107 = .ok (.aload_n 0, 1) := by decide +kernel
theorem dL_law_1108 : decode cL_law 1108 = .ok (.iload 4, 2) := by decide +kernel
theorem dL_law_1110 : decode cL_law 1110 = .ok (.iconst 1, 1) := by decide +kernel
theorem dL_law_1111 : decode cL_law 1111 = .ok (.iadd, 1) := by decide +kernel
theorem dL_law_1112 : decode cL_law 1112 = .ok (.iaload, 1) := by decide +kernel
theorem dL_law_1113 : decode cL_law 1113 = .ok (.invokevirtual 145, 3) := by decide +kernel
theorem dL_law_1116 : decode cL_law 1116 = .ok (.istore 6, 2) := by decide +kernel
theorem dL_law_1118 : decode cL_law 1118 = .ok (.aload_n 2, 1) := by decide +kernel
theorem dL_law_1119 : decode cL_law 1119 = .ok (.invokevirtual 90, 3) := by decide +kernel
theorem dL_law_1122 : decode cL_law 1122 = .ok (.iload 5, 2) := by decide +kernel
theorem dL_law_1124 : decode cL_law 1124 = .ok (.if_icmp .eq 5, 3) := by decide +kernel
theorem dL_law_1127 : decode cL_law 1127 = .ok (.iconst 0, 1) := by decide +kernel
theorem dL_law_1128 : decode cL_law 1128 = .ok (.ireturn, 1) := by decide +kernel
theorem dL_law_1129 : decode cL_law 1129 = .ok (.iload 5, 2) := by decide +kernel
theorem dL_law_1131 : decode cL_law 1131 = .ok (.ifCond .ne 15, 3) := by decide +kernel
theorem dL_law_1134 : decode cL_law 1134 = .ok (.aload_n 3, 1) := by decide +kernel
theorem dL_law_1135 : decode cL_law 1135 = .ok (.iconst 0, 1) := by decide +kernel
theorem dL_law_1136 : decode cL_law 1136 = .ok (.laload, 1) := by decide +kernel
theorem dL_law_1137 : decode cL_law 1137 = .ok (.iload 6, 2) := by decide +kernel
theorem dL_law_1139 : decode cL_law 1139 = .ok (.i2l, 1) := by decide +kernel
theorem dL_law_1140 : decode cL_law 1140 = .ok (.lcmp, 1) := by decide +kernel
theorem dL_law_1141 : decode cL_law 1141 = .ok (.ifCond .eq 5, 3) := by decide +kernel
theorem dL_law_1144 : decode cL_law 1144 = .ok (.iconst 0, 1) := by decide +kernel
theorem dL_law_1145 : decode cL_law 1145 = .ok (.ireturn, 1) := by decide +kernel
theorem dL_law_1146 : decode cL_law 1146 = .ok (.goto 327, 3) := by decide +kernel
theorem dL_law_1149 : decode cL_law 1149 = .ok (.aload_n 1, 1) := by decide +kernel
theorem dL_law_1150 : decode cL_law 1150 = .ok (.aload_n 0, 1) := by decide +kernel
theorem dL_law_1151 : decode cL_law 1151 = .ok (.iload 4, 2) := by decide +kernel
theorem dL_law_1153 : decode cL_law 1153 = .ok (.iconst 1, 1) := by decide +kernel
theorem dL_law_1154 : decode cL_law 1154 = .ok (.iadd, 1) := by decide +kernel
theorem dL_law_1155 : decode cL_law 1155 = .ok (.iaload, 1) := by decide +kernel
theorem dL_law_1156 : decode cL_law 1156 = .ok (.aload_n 3, 1) := by decide +kernel
theorem dL_law_1157 : decode cL_law 1157 = .ok (.invokestatic 146, 3) := by decide +kernel
theorem dL_law_1160 : decode cL_law 1160 = .ok (.istore 5, 2) := by decide +kernel
theorem dL_law_1162 : decode cL_law 1162 = .ok (.aload_n 2, 1) := by decide +kernel
theorem dL_law_1163 : decode cL_law 1163 = .ok (.aload_n 0, 1) := by decide +kernel
theorem dL_law_1164 : decode cL_law 1164 = .ok (.iload 4, 2) := by decide +kernel
theorem dL_law_1166 : decode cL_law 1166 = .ok (.iconst 1, 1) := by decide +kernel
theorem dL_law_1167 : decode cL_law 1167 = .ok (.iadd, 1) := by decide +kernel
theorem dL_law_1168 : decode cL_law 1168 = .ok (.iaload, 1) := by decide +kernel
theorem dL_law_1169 : decode cL_law 1169 = .ok (.invokevirtual 148, 3) := by decide +kernel
theorem dL_law_1172 : decode cL_law 1172 = .ok (.istore 6, 2) := by decide +kernel
theorem dL_law_1174 : decode cL_law 1174 = .ok (.aload_n 2, 1) := by decide +kernel
theorem dL_law_1175 : decode cL_law 1175 = .ok (.invokevirtual 90, 3) := by decide +kernel
theorem dL_law_1178 : decode cL_law 1178 = .ok (.iload 5, 2) := by decide +kernel
theorem dL_law_1180 : decode cL_law 1180 = .ok (.if_icmp .eq 5, 3) := by decide +kernel
theorem dL_law_1183 : decode cL_law 1183 = .ok (.iconst 0, 1) := by decide +kernel
theorem dL_law_1184 : decode cL_law 1184 = .ok (.ireturn, 1) := by decide +kernel
theorem dL_law_1185 : decode cL_law 1185 = .ok (.iload 5, 2) := by decide +kernel
theorem dL_law_1187 : decode cL_law 1187 = .ok (.ifCond .ne 15, 3) := by decide +kernel
theorem dL_law_1190 : decode cL_law 1190 = .ok (.aload_n 3, 1) := by decide +kernel
theorem dL_law_1191 : decode cL_law 1191 = .ok (.iconst 0, 1) := by decide +kernel
theorem dL_law_1192 : decode cL_law 1192 = .ok (.laload, 1) := by decide +kernel
theorem dL_law_1193 : decode cL_law 1193 = .ok (.iload 6, 2) := by decide +kernel
theorem dL_law_1195 : decode cL_law 1195 = .ok (.i2l, 1) := by decide +kernel
theorem dL_law_1196 : decode cL_law 1196 = .ok (.lcmp, 1) := by decide +kernel
theorem dL_law_1197 : decode cL_law 1197 = .ok (.ifCond .eq 5, 3) := by decide +kernel
theorem dL_law_1200 : decode cL_law 1200 = .ok (.iconst 0, 1) := by decide +kernel
theorem dL_law_1201 : decode cL_law 1201 = .ok (.ireturn, 1) := by decide +kernel
theorem dL_law_1202 : decode cL_law 1202 = .ok (.goto 271, 3) := by decide +kernel
theorem dL_law_1205 : decode cL_law 1205 = .ok (.aload_n 1, 1) := by decide +kernel
theorem dL_law_1206 : decode cL_law 1206 = .ok (.aload_n 0, 1) := by decide +kernel
theorem dL_law_1207 : decode cL_law 1207 = .ok (.iload 4, 2) := by decide +kernel
theorem dL_law_1209 : decode cL_law 1209 = .ok (.iconst 1, 1) := by decide +kernel
theorem dL_law_1210 : decode cL_law 1210 = .ok (.iadd, 1) := by decide +kernel
theorem dL_law_1211 : decode cL_law 1211 = .ok (.iaload, 1) := by decide +kernel
theorem dL_law_1212 : decode cL_law 1212 = .ok (.aload_n 3, 1) := by decide +kernel
theorem dL_law_1213 : decode cL_law 1213 = .ok (.invokestatic 149, 3) := by decide +kernel
theorem dL_law_1216 : decode cL_law 1216 = .ok (.istore 5, 2) := by decide +kernel
theorem dL_law_1218 : decode cL_law 1218 = .ok (.aload_n 2, 1) := by decide +kernel
theorem dL_law_1219 : decode cL_law 1219 = .ok (.aload_n 0, 1) := by decide +kernel
theorem dL_law_1220 : decode cL_law 1220 = .ok (.iload 4, 2) := by decide +kernel
theorem dL_law_1222 : decode cL_law 1222 = .ok (.iconst 1, 1) := by decide +kernel
theorem dL_law_1223 : decode cL_law 1223 = .ok (.iadd, 1) := by decide +kernel
theorem dL_law_1224 : decode cL_law 1224 = .ok (.iaload, 1) := by decide +kernel
theorem dL_law_1225 : decode cL_law 1225 = .ok (.invokevirtual 151, 3) := by decide +kernel
theorem dL_law_1228 : decode cL_law 1228 = .ok (.istore 6, 2) := by decide +kernel
theorem dL_law_1230 : decode cL_law 1230 = .ok (.aload_n 2, 1) := by decide +kernel
theorem dL_law_1231 : decode cL_law 1231 = .ok (.invokevirtual 90, 3) := by decide +kernel
theorem dL_law_1234 : decode cL_law 1234 = .ok (.iload 5, 2) := by decide +kernel
theorem dL_law_1236 : decode cL_law 1236 = .ok (.if_icmp .eq 5, 3) := by decide +kernel
theorem dL_law_1239 : decode cL_law 1239 = .ok (.iconst 0, 1) := by decide +kernel
theorem dL_law_1240 : decode cL_law 1240 = .ok (.ireturn, 1) := by decide +kernel
theorem dL_law_1241 : decode cL_law 1241 = .ok (.iload 5, 2) := by decide +kernel
theorem dL_law_1243 : decode cL_law 1243 = .ok (.ifCond .ne 15, 3) := by decide +kernel
theorem dL_law_1246 : decode cL_law 1246 = .ok (.aload_n 3, 1) := by decide +kernel
theorem dL_law_1247 : decode cL_law 1247 = .ok (.iconst 0, 1) := by decide +kernel
theorem dL_law_1248 : decode cL_law 1248 = .ok (.laload, 1) := by decide +kernel
theorem dL_law_1249 : decode cL_law 1249 = .ok (.iload 6, 2) := by decide +kernel
theorem dL_law_1251 : decode cL_law 1251 = .ok (.i2l, 1) := by decide +kernel
theorem dL_law_1252 : decode cL_law 1252 = .ok (.lcmp, 1) := by decide +kernel
theorem dL_law_1253 : decode cL_law 1253 = .ok (.ifCond .eq 5, 3) := by decide +kernel
theorem dL_law_1256 : decode cL_law 1256 = .ok (.iconst 0, 1) := by decide +kernel
theorem dL_law_1257 : decode cL_law 1257 = .ok (.ireturn, 1) := by decide +kernel
theorem dL_law_1258 : decode cL_law 1258 = .ok (.goto 215, 3) := by decide +kernel
theorem dL_law_1261 : decode cL_law 1261 = .ok (.aload_n 1, 1) := by decide +kernel
theorem dL_law_1262 : decode cL_law 1262 = .ok (.aload_n 0, 1) := by decide +kernel
theorem dL_law_1263 : decode cL_law 1263 = .ok (.iload 4, 2) := by decide +kernel
theorem dL_law_1265 : decode cL_law 1265 = .ok (.iconst 1, 1) := by decide +kernel
theorem dL_law_1266 : decode cL_law 1266 = .ok (.iadd, 1) := by decide +kernel
theorem dL_law_1267 : decode cL_law 1267 = .ok (.iaload, 1) := by decide +kernel
theorem dL_law_1268 : decode cL_law 1268 = .ok (.aload_n 3, 1) := by decide +kernel
theorem dL_law_1269 : decode cL_law 1269 = .ok (.invokestatic 152, 3) := by decide +kernel
theorem dL_law_1272 : decode cL_law 1272 = .ok (.istore 5, 2) := by decide +kernel
theorem dL_law_1274 : decode cL_law 1274 = .ok (.aload_n 2, 1) := by decide +kernel
theorem dL_law_1275 : decode cL_law 1275 = .ok (.aload_n 0, 1) := by decide +kernel
theorem dL_law_1276 : decode cL_law 1276 = .ok (.iload 4, 2) := by decide +kernel
theorem dL_law_1278 : decode cL_law 1278 = .ok (.iconst 1, 1) := by decide +kernel
theorem dL_law_1279 : decode cL_law 1279 = .ok (.iadd, 1) := by decide +kernel
theorem dL_law_1280 : decode cL_law 1280 = .ok (.iaload, 1) := by decide +kernel
theorem dL_law_1281 : decode cL_law 1281 = .ok (.invokevirtual 154, 3) := by decide +kernel
theorem dL_law_1284 : decode cL_law 1284 = .ok (.istore 6, 2) := by decide +kernel
theorem dL_law_1286 : decode cL_law 1286 = .ok (.aload_n 2, 1) := by decide +kernel
theorem dL_law_1287 : decode cL_law 1287 = .ok (.invokevirtual 90, 3) := by decide +kernel
theorem dL_law_1290 : decode cL_law 1290 = .ok (.iload 5, 2) := by decide +kernel
theorem dL_law_1292 : decode cL_law 1292 = .ok (.if_icmp .eq 5, 3) := by decide +kernel
theorem dL_law_1295 : decode cL_law 1295 = .ok (.iconst 0, 1) := by decide +kernel
theorem dL_law_1296 : decode cL_law 1296 = .ok (.ireturn, 1) := by decide +kernel
theorem dL_law_1297 : decode cL_law 1297 = .ok (.iload 5, 2) := by decide +kernel
theorem dL_law_1299 : decode cL_law 1299 = .ok (.ifCond .ne 22, 3) := by decide +kernel
theorem dL_law_1302 : decode cL_law 1302 = .ok (.aload_n 3, 1) := by decide +kernel
theorem dL_law_1303 : decode cL_law 1303 = .ok (.iconst 0, 1) := by decide +kernel
theorem dL_law_1304 : decode cL_law 1304 = .ok (.laload, 1) := by decide +kernel
theorem dL_law_1305 : decode cL_law 1305 = .ok (.iload 6, 2) := by decide +kernel
theorem dL_law_1307 : decode cL_law 1307 = .ok (.ifCond .eq 7, 3) := by decide +kernel
theorem dL_law_1310 : decode cL_law 1310 = .ok (.lconst 1, 1) := by decide +kernel
theorem dL_law_1311 : decode cL_law 1311 = .ok (.goto 4, 3) := by decide +kernel
theorem dL_law_1314 : decode cL_law 1314 = .ok (.lconst 0, 1) := by decide +kernel
theorem dL_law_1315 : decode cL_law 1315 = .ok (.lcmp, 1) := by decide +kernel
theorem dL_law_1316 : decode cL_law 1316 = .ok (.ifCond .eq 5, 3) := by decide +kernel
theorem dL_law_1319 : decode cL_law 1319 = .ok (.iconst 0, 1) := by decide +kernel
theorem dL_law_1320 : decode cL_law 1320 = .ok (.ireturn, 1) := by decide +kernel
theorem dL_law_1321 : decode cL_law 1321 = .ok (.goto 152, 3) := by decide +kernel
theorem dL_law_1324 : decode cL_law 1324 = .ok (.aload_n 1, 1) := by decide +kernel
theorem dL_law_1325 : decode cL_law 1325 = .ok (.aload_n 0, 1) := by decide +kernel
theorem dL_law_1326 : decode cL_law 1326 = .ok (.iload 4, 2) := by decide +kernel
theorem dL_law_1328 : decode cL_law 1328 = .ok (.iconst 1, 1) := by decide +kernel
theorem dL_law_1329 : decode cL_law 1329 = .ok (.iadd, 1) := by decide +kernel
theorem dL_law_1330 : decode cL_law 1330 = .ok (.iaload, 1) := by decide +kernel
theorem dL_law_1331 : decode cL_law 1331 = .ok (.aload_n 0, 1) := by decide +kernel
theorem dL_law_1332 : decode cL_law 1332 = .ok (.iload 4, 2) := by decide +kernel
theorem dL_law_1334 : decode cL_law 1334 = .ok (.iconst 2, 1) := by decide +kernel
theorem dL_law_1335 : decode cL_law 1335 = .ok (.iadd, 1) := by decide +kernel
theorem dL_law_1336 : decode cL_law 1336 = .ok (.iaload, 1) := by decide +kernel
theorem dL_law_1337 : decode cL_law 1337 = .ok (.aload_n 3, 1) := by decide +kernel
theorem dL_law_1338 : decode cL_law 1338 = .ok (.invokestatic 155, 3) := by decide +kernel
theorem dL_law_1341 : decode cL_law 1341 = .ok (.istore 5, 2) := by decide +kernel
theorem dL_law_1343 : decode cL_law 1343 = .ok (.aload_n 2, 1) := by decide +kernel
theorem dL_law_1344 : decode cL_law 1344 = .ok (.aload_n 0, 1) := by decide +kernel
theorem dL_law_1345 : decode cL_law 1345 = .ok (.iload 4, 2) := by decide +kernel
theorem dL_law_1347 : decode cL_law 1347 = .ok (.iconst 1, 1) := by decide +kernel
theorem dL_law_1348 : decode cL_law 1348 = .ok (.iadd, 1) := by decide +kernel
theorem dL_law_1349 : decode cL_law 1349 = .ok (.iaload, 1) := by decide +kernel
theorem dL_law_1350 : decode cL_law 1350 = .ok (.aload_n 0, 1) := by decide +kernel
theorem dL_law_1351 : decode cL_law 1351 = .ok (.iload 4, 2) := by decide +kernel
theorem dL_law_1353 : decode cL_law 1353 = .ok (.iconst 2, 1) := by decide +kernel
theorem dL_law_1354 : decode cL_law 1354 = .ok (.iadd, 1) := by decide +kernel
theorem dL_law_1355 : decode cL_law 1355 = .ok (.iaload, 1) := by decide +kernel
theorem dL_law_1356 : decode cL_law 1356 = .ok (.invokevirtual 157, 3) := by decide +kernel
theorem dL_law_1359 : decode cL_law 1359 = .ok (.istore 6, 2) := by decide +kernel
theorem dL_law_1361 : decode cL_law 1361 = .ok (.aload_n 2, 1) := by decide +kernel
theorem dL_law_1362 : decode cL_law 1362 = .ok (.invokevirtual 90, 3) := by decide +kernel
theorem dL_law_1365 : decode cL_law 1365 = .ok (.iload 5, 2) := by decide +kernel
theorem dL_law_1367 : decode cL_law 1367 = .ok (.if_icmp .eq 5, 3) := by decide +kernel
theorem dL_law_1370 : decode cL_law 1370 = .ok (.iconst 0, 1) := by decide +kernel
theorem dL_law_1371 : decode cL_law 1371 = .ok (.ireturn, 1) := by decide +kernel
theorem dL_law_1372 : decode cL_law 1372 = .ok (.iload 5, 2) := by decide +kernel
theorem dL_law_1374 : decode cL_law 1374 = .ok (.ifCond .ne 15, 3) := by decide +kernel
theorem dL_law_1377 : decode cL_law 1377 = .ok (.aload_n 3, 1) := by decide +kernel
theorem dL_law_1378 : decode cL_law 1378 = .ok (.iconst 0, 1) := by decide +kernel
theorem dL_law_1379 : decode cL_law 1379 = .ok (.laload, 1) := by decide +kernel
theorem dL_law_1380 : decode cL_law 1380 = .ok (.iload 6, 2) := by decide +kernel
theorem dL_law_1382 : decode cL_law 1382 = .ok (.i2l, 1) := by decide +kernel
theorem dL_law_1383 : decode cL_law 1383 = .ok (.lcmp, 1) := by decide +kernel
theorem dL_law_1384 : decode cL_law 1384 = .ok (.ifCond .eq 5, 3) := by decide +kernel
theorem dL_law_1387 : decode cL_law 1387 = .ok (.iconst 0, 1) := by decide +kernel
theorem dL_law_1388 : decode cL_law 1388 = .ok (.ireturn, 1) := by decide +kernel
theorem dL_law_1389 : decode cL_law 1389 = .ok (.goto 84, 3) := by decide +kernel
theorem dL_law_1392 : decode cL_law 1392 = .ok (.aload_n 1, 1) := by decide +kernel
theorem dL_law_1393 : decode cL_law 1393 = .ok (.aload_n 0, 1) := by decide +kernel
theorem dL_law_1394 : decode cL_law 1394 = .ok (.iload 4, 2) := by decide +kernel
theorem dL_law_1396 : decode cL_law 1396 = .ok (.iconst 1, 1) := by decide +kernel
theorem dL_law_1397 : decode cL_law 1397 = .ok (.iadd, 1) := by decide +kernel
theorem dL_law_1398 : decode cL_law 1398 = .ok (.iaload, 1) := by decide +kernel
theorem dL_law_1399 : decode cL_law 1399 = .ok (.aload_n 0, 1) := by decide +kernel
theorem dL_law_1400 : decode cL_law 1400 = .ok (.iload 4, 2) := by decide +kernel
theorem dL_law_1402 : decode cL_law 1402 = .ok (.iconst 2, 1) := by decide +kernel
theorem dL_law_1403 : decode cL_law 1403 = .ok (.iadd, 1) := by decide +kernel
theorem dL_law_1404 : decode cL_law 1404 = .ok (.iaload, 1) := by decide +kernel
theorem dL_law_1405 : decode cL_law 1405 = .ok (.aload_n 3, 1) := by decide +kernel
theorem dL_law_1406 : decode cL_law 1406 = .ok (.invokestatic 158, 3) := by decide +kernel
theorem dL_law_1409 : decode cL_law 1409 = .ok (.istore 5, 2) := by decide +kernel
theorem dL_law_1411 : decode cL_law 1411 = .ok (.aload_n 2, 1) := by decide +kernel
theorem dL_law_1412 : decode cL_law 1412 = .ok (.aload_n 0, 1) := by decide +kernel
theorem dL_law_1413 : decode cL_law 1413 = .ok (.iload 4, 2) := by decide +kernel
theorem dL_law_1415 : decode cL_law 1415 = .ok (.iconst 1, 1) := by decide +kernel
theorem dL_law_1416 : decode cL_law 1416 = .ok (.iadd, 1) := by decide +kernel
theorem dL_law_1417 : decode cL_law 1417 = .ok (.iaload, 1) := by decide +kernel
theorem dL_law_1418 : decode cL_law 1418 = .ok (.aload_n 0, 1) := by decide +kernel
theorem dL_law_1419 : decode cL_law 1419 = .ok (.iload 4, 2) := by decide +kernel
theorem dL_law_1421 : decode cL_law 1421 = .ok (.iconst 2, 1) := by decide +kernel
theorem dL_law_1422 : decode cL_law 1422 = .ok (.iadd, 1) := by decide +kernel
theorem dL_law_1423 : decode cL_law 1423 = .ok (.iaload, 1) := by decide +kernel
theorem dL_law_1424 : decode cL_law 1424 = .ok (.invokevirtual 160, 3) := by decide +kernel
theorem dL_law_1427 : decode cL_law 1427 = .ok (.istore 6, 2) := by decide +kernel
theorem dL_law_1429 : decode cL_law 1429 = .ok (.aload_n 2, 1) := by decide +kernel
theorem dL_law_1430 : decode cL_law 1430 = .ok (.invokevirtual 90, 3) := by decide +kernel
theorem dL_law_1433 : decode cL_law 1433 = .ok (.iload 5, 2) := by decide +kernel
theorem dL_law_1435 : decode cL_law 1435 = .ok (.if_icmp .eq 5, 3) := by decide +kernel
theorem dL_law_1438 : decode cL_law 1438 = .ok (.iconst 0, 1) := by decide +kernel
theorem dL_law_1439 : decode cL_law 1439 = .ok (.ireturn, 1) := by decide +kernel
theorem dL_law_1440 : decode cL_law 1440 = .ok (.iload 5, 2) := by decide +kernel
theorem dL_law_1442 : decode cL_law 1442 = .ok (.ifCond .ne 15, 3) := by decide +kernel
theorem dL_law_1445 : decode cL_law 1445 = .ok (.aload_n 3, 1) := by decide +kernel
theorem dL_law_1446 : decode cL_law 1446 = .ok (.iconst 0, 1) := by decide +kernel
theorem dL_law_1447 : decode cL_law 1447 = .ok (.laload, 1) := by decide +kernel
theorem dL_law_1448 : decode cL_law 1448 = .ok (.iload 6, 2) := by decide +kernel
theorem dL_law_1450 : decode cL_law 1450 = .ok (.i2l, 1) := by decide +kernel
theorem dL_law_1451 : decode cL_law 1451 = .ok (.lcmp, 1) := by decide +kernel
theorem dL_law_1452 : decode cL_law 1452 = .ok (.ifCond .eq 5, 3) := by decide +kernel
theorem dL_law_1455 : decode cL_law 1455 = .ok (.iconst 0, 1) := by decide +kernel
theorem dL_law_1456 : decode cL_law 1456 = .ok (.ireturn, 1) := by decide +kernel
theorem dL_law_1457 : decode cL_law 1457 = .ok (.goto 16, 3) := by decide +kernel
theorem dL_law_1460 : decode cL_law 1460 = .ok (.aload_n 1, 1) := by decide +kernel
theorem dL_law_1461 : decode cL_law 1461 = .ok (.invokevirtual 161, 3) := by decide +kernel
theorem dL_law_1464 : decode cL_law 1464 = .ok (.aload_n 2, 1) := by decide +kernel
theorem dL_law_1465 : decode cL_law 1465 = .ok (.invokevirtual 164, 3) := by decide +kernel
theorem dL_law_1468 : decode cL_law 1468 = .ok (.if_icmp .eq 5, 3) := by decide +kernel
theorem dL_law_1471 : decode cL_law 1471 = .ok (.iconst 0, 1) := by decide +kernel
theorem dL_law_1472 : decode cL_law 1472 = .ok (.ireturn, 1) := by decide +kernel
theorem dL_law_1473 : decode cL_law 1473 = .ok (.iinc 4 4, 3) := by decide +kernel
theorem dL_law_1476 : decode cL_law 1476 = .ok (.goto (-1453), 3) := by decide +kernel
theorem dL_law_1479 : decode cL_law 1479 = .ok (.iconst 1, 1) := by decide +kernel
theorem dL_law_1480 : decode cL_law 1480 = .ok (.ireturn, 1) := by decide +kernel
abbrev vwCl : List vw_C := [(RX0, TX0, 4), (RX1, TX1, 8), (RX2, TX2, 11), (RX3, TX3, 7), (RX4, TX4, 28)]
end
section
/-! THE WALK, PACKED: Cf is a frame's place with the world, the locals and the stack; a row turns Cf at an instruction into Cf at the next. -/
def set2 (x : Nat → Nat → Int32) (j : Nat) (g : Nat → Int32) : Nat → Nat → Int32 := fun k => if k = j then g else x k
theorem set2_s (x : Nat → Nat → Int32) (j : Nat) (g : Nat → Int32) : set2 x j g j = g := by simp [set2]
theorem set2_n (x : Nat → Nat → Int32) (j k : Nat) (g : Nat → Int32) (h : k ≠ j) : set2 x j g k = x k := by simp [set2, h]
def qT (ct : Nat → ClassId) : List (ClassId × FieldType) := [(ct 0, .int), (ct 1, .boolean), (ct 2, .long)]
def qNF : List (Nat × String × String × String) := [(56, "PlotPatch$Rig", "barCounts", "[I"), (70, "PlotPatch$Rig", "weights", "[I"), (77, "PlotPatch$Board", "widths", "[I"), (83, "PlotPatch$Board", "watts", "[I"), (121, "PlotPatch$Rig", "bars", "[I"), (130, "PlotPatch$Rig", "places", "[I"), (137, "PlotPatch$Board", "firsts", "[I"), (149, "PlotPatch$Board", "circuits", "[I"), (155, "PlotPatch$Show", "cueCount", "I"), (168, "PlotPatch$Show", "named", "[I"), (176, "PlotPatch$Show", "last", "I")]
def qNM : List (Nat × MethodName) := [(64, yX1_addBar), (203, yX1_hasBar), (160, yX2_addCue), (117, yX1_hangs), (143, yX0_lowestGap), (171, yX2_beginNext), (102, yX1_bears), (96, yX1_hasPlace), (105, yX1_isClear), (111, yX1_put), (114, yX1_weightOn), (33, yX0_init), (26, yX1_init), (40, yX2_init), (165, yX2_cell), (124, yX1_ranked), (140, yX0_countDoubles), (185, yX2_reset), (188, yX2_wantedLevel), (198, yX2_handOver), (179, yX2_advance), (133, yX1_changeHouse)]
def qST : List (Nat × String) := [(100, "no such place"), (109, "the lamp cannot hang there"), (128, "not so many lamps hang there"), (158, "the plot has all its cues"), (163, "no such cue"), (174, "there is no next cue"), (193, "a lamp cannot stand in for itself"), (196, "the one must be dead, the other one must live"), (201, "no such lamp"), (206, "no such bar"), (208, "no such circuit"), (210, "out of its range"), (47, "no such house"), (61, "the house has all its bars"), (68, "the plot has all its lamps")]
def qNC : List (String × String) := [("java/lang/IllegalArgumentException", "java/lang/IllegalStateException"), ("java/lang/IllegalArgumentException", "java/lang/IndexOutOfBoundsException"), ("java/lang/IllegalStateException", "java/lang/IllegalArgumentException"), ("java/lang/IllegalStateException", "java/lang/IndexOutOfBoundsException"), ("java/lang/IndexOutOfBoundsException", "java/lang/IllegalArgumentException"), ("java/lang/IndexOutOfBoundsException", "java/lang/IllegalStateException")]
def qCA : List String := ["java/lang/IllegalArgumentException", "java/lang/IllegalStateException", "java/lang/IndexOutOfBoundsException"]
/-- what the tables say beside a method's own words: the classes and their fields, the nest's links, the texts, the exceptions' classes -/
def qE (D : va_G) (ct : Nat → ClassId) (U : State) : Prop :=
  va_K D vwCl (qT ct) U ∧ (∀ q ∈ qNF, va_Nw (.fieldLinkNest "PlotPatch" q.1 q.2.1 q.2.2.1 q.2.2.2 "PlotPatch") U) ∧ (∀ q ∈ qNM, va_Nw (.methodLinkNest "PlotPatch" q.1 q.2 "PlotPatch") U) ∧ (∀ q ∈ qST, ∃ a, vk_R "PlotPatch" q.1 q.2 a U) ∧ (∀ q ∈ qNC, va_Nc q.1 q.2 U) ∧ (∀ q ∈ qCA, va_Nw (.castable q q) U)
theorem qE.warm {D : va_G} {ct : Nat → ClassId} {s U : State} (hW : s.WarmedH U.vm) (h : qE D ct s) : qE D ct U :=
  ⟨h.1.moved hW.alike, fun q hq => va_Nw.warmF hW (h.2.1 q hq), fun q hq => va_Nw.warmM hW (h.2.2.1 q hq), fun q hq => by obtain ⟨a, ha⟩ := h.2.2.2.1 q hq; exact ⟨a, vk_R.warm hW ha⟩, fun q hq => va_Nc.moved hW.alike (h.2.2.2.2.1 q hq), fun q hq => va_Nw.warmC hW (h.2.2.2.2.2 q hq)⟩
def qZ (A : Nat → Prop) (U : State) (H : Heap) : Prop := vx_Zq Bundle.tN "UNASSIGNED_STACK" Bundle.steD A U H ∧ vx_Zq Bundle.tN "SUPPRESSED_SENTINEL" Bundle.listD A U H
theorem qZ.moved {A : Nat → Prop} {u U : State} {H : Heap} (hvm : u.vm.Alike U.vm) (h : qZ A u H) : qZ A U H := ⟨vx_Zq.moved hvm h.1, vx_Zq.moved hvm h.2⟩
theorem qZ.kept {A : Nat → Prop} {U : State} {H H1 : Heap} (h : qZ A U H) (hq : ∀ a : Nat, a < H.size → ¬ A a → H1[a]? = H[a]?) : qZ A U H1 := ⟨vx_Zq.kept h.1 hq, vx_Zq.kept h.2 hq⟩
theorem qZ.narrow {A B : Nat → Prop} {U : State} {H : Heap} (h : qZ A U H) (hAB : ∀ q, B q → A q) : qZ B U H := ⟨vx_Zq.narrow h.1 hAB, vx_Zq.narrow h.2 hAB⟩
def qPre (D : va_G) (ct : Nat → ClassId) (As : List Value) (ws : va_W) (sz : Nat) : Array Value → State → Prop := va_Pc As (fun U => U.heap.size = sz ∧ va_P D vwCl ws U.heap ∧ qE D ct U ∧ va_D (fun _ => True) ws ∧ qZ (va_A ws sz) U U.heap)
theorem qPre.blind {D : va_G} {ct : Nat → ClassId} {As : List Value} {ws : va_W} {sz : Nat} : FrameBlind (qPre D ct As ws sz) := fun a U g mk q => by
  obtain ⟨q0, q1, q2, q3, q4, q5⟩ := q
  exact ⟨q0, q1, q2, qE.warm (s := U) (U := U.calling g mk a) (State.WarmedH.refl U) q3, q4, qZ.moved (u := U) (U := U.calling g mk a) (Vm.Alike.refl U.vm) q5⟩
def qOk (D : va_G) (B : Option Value → va_W → Prop) (ws : va_W) (sz : Nat) : Array Value → State → Outcome → State → Prop := fun _ st o t => (∃ r w, o = .returned r ∧ B r w ∧ va_P D vwCl w t.heap ∧ va_D (va_A ws sz) w) ∧ va_F (va_A ws sz) st t
def qXc (D : va_G) (X : String → va_W → Prop) (ws : va_W) (sz : Nat) : String → State → State → Prop := fun E st t => (∃ w, X E w ∧ va_P D vwCl w t.heap ∧ va_D (va_A ws sz) w) ∧ va_F (va_A ws sz) st t
/-- a method that returns: from the world ws, with what B says of answer and world -/
def qM (l : Launch) (y : MethodName) (wy : List Cond) (rm : Room) (D : va_G) (ct : Nat → ClassId) (As : List Value) (ws : va_W) (B : Option Value → va_W → Prop) (mc ms : Nat) : Prop := ∀ sz, Met l y wy rm (qPre D ct As ws sz) (qOk D B ws sz) mc ms (va_A ws sz)
/-- a method that returns or throws -/
def qMX (l : Launch) (y : MethodName) (wy : List Cond) (rm : Room) (D : va_G) (ct : Nat → ClassId) (As : List Value) (ws : va_W) (B : Option Value → va_W → Prop) (X : String → va_W → Prop) (mc ms : Nat) : Prop := ∀ sz, vx_Met l y wy rm (qPre D ct As ws sz) (qOk D B ws sz) (qXc D X ws sz) mc ms (va_A ws sz)
/-- what holds in a frame as long as it stands -/
def Cx (p : Program) (s : State) (m : MethodId) (args : Array Value) (c : Code) (meth : Method) (cc : ByteArray) (nL : Nat) (ret : Option FieldType) (Ts : List Cond) (own : String) (D : va_G) (ct : Nat → ClassId) (A : Nat → Prop) : Prop :=
  CallFix p m c cc nL s args Ts own ∧ qE D ct s ∧ (∀ q, s.heap.size ≤ q → A q) ∧ meth.locks = false ∧ qZ A s s.heap ∧ meth.sig.returnType = ret
def Cf (p : Program) (l : Launch) (e : Env) (R : Room) (s : State) (m : MethodId) (args : Array Value) (below : List Frame) (meth : Method) (c : Code) (D : va_G) (A : Nat → Prop) (nL cells slots : Nat) (Q : State → Prop) (pc : Nat) (lv : List (Nat × Value)) (st : List Value) (ws : va_W) : Prop :=
  ∀ (H : Heap) (locs : List Loc) (ls : Array Slot), va_P D vwCl ws H → va_D A ws → va_S A s.heap H locs → lv_has ls nL lv → W p l e R s m args below meth c H locs cells slots Q (F0 m pc ls st)
/-- .. with an exception of kind E thrown over the frame -/
def CfX (p : Program) (l : Launch) (e : Env) (R : Room) (s : State) (m : MethodId) (args : Array Value) (below : List Frame) (meth : Method) (c : Code) (D : va_G) (A : Nat → Prop) (nL cells slots : Nat) (Q : State → Prop) (pc : Nat) (lv : List (Nat × Value)) (st : List Value) (ws : va_W) (E : String) : Prop :=
  ∀ (H : Heap) (locs : List Loc) (ls : Array Slot) (ce : Cell) (q : Addr), va_P D vwCl ws H → va_D A ws → va_S A s.heap H locs → lv_has ls nL lv → H[q]? = some ce → ce.vm = .none → s.vm.findClass E = some ce.cls → vx_W p l e R s m args below meth c H locs cells slots Q (F0 m pc ls st) q
theorem qE.nf {D : va_G} {ct : Nat → ClassId} {U : State} (h : qE D ct U) (k : Nat) {q : Nat × String × String × String} (hk : qNF[k]? = some q) {args : Array Value} : (Cond.fieldLinkNest "PlotPatch" q.1 q.2.1 q.2.2.1 q.2.2.2 "PlotPatch").before args U = true := va_Nw.use rfl (h.2.1 q (List.mem_of_getElem? hk))
theorem qE.nm {D : va_G} {ct : Nat → ClassId} {U : State} (h : qE D ct U) (k : Nat) {q : Nat × MethodName} (hk : qNM[k]? = some q) : va_Nw (.methodLinkNest "PlotPatch" q.1 q.2 "PlotPatch") U := h.2.2.1 q (List.mem_of_getElem? hk)
theorem Cx.w {p : Program} {s : State} {m : MethodId} {args : Array Value} {c : Code} {meth : Method} {cc : ByteArray} {nL : Nat} {ret : Option FieldType} {Ts : List Cond} {own : String} {D : va_G} {ct : Nat → ClassId} {A : Nat → Prop} (C : Cx p s m args c meth cc nL ret Ts own D ct A) : ∀ w ∈ Ts, w.before args s = true := C.1.2.2.2.2
/-- loops that count up -/
theorem lp_up {P : Nat → Prop} (N : Nat) (h : ∀ i, i < N → P (i + 1) → P i) (hN : P N) : P 0 := by
  have g : ∀ k, k ≤ N → P (N - k) := by
    intro k
    induction k with
    | zero => intro _; exact hN
    | succ k ih =>
      intro hk
      refine h (N - (k + 1)) (by omega) ?_
      rw [show N - (k + 1) + 1 = N - k by omega]
      exact ih (by omega)
  have := g N (Nat.le_refl N)
  rwa [Nat.sub_self] at this
section QROWS
variable {p : Program} {l : Launch} {e : Env} {R : Room} {s : State} {m : MethodId} {args : Array Value} {below : List Frame} {meth : Method} {c : Code} {D : va_G} {ct : Nat → ClassId} {A : Nat → Prop} {nL cells slots : Nat} {Q : State → Prop}
variable {cc : ByteArray} {ret : Option FieldType} {Ts : List Cond} {own : String} {pc pc2 : Nat} {lv lv' : List (Nat × Value)} {st : List Value} {ws : va_W}
theorem q_iload_n (C : Cx p s m args c meth cc nL ret Ts own D ct A) (j : Nat) {k : Fin 4} {i : Nat} {x : Int32} (hdg : decode cc pc = .ok (.iload_n k, 1)) (hi : (k : Nat) = i) (hj : lv[j]? = some (i, .int x)) (hpc : pc + 1 = pc2) (k : Cf p l e R s m args below meth c D A nL cells slots Q pc2 lv (.int x :: st) ws) : Cf p l e R s m args below meth c D A nL cells slots Q pc lv st ws := by
  subst hpc
  intro H locs ls hP hD hS hl
  exact lv_iload_n C.1.1 C.1.2.1 hdg hi (lv_at hl j hj) (k H locs ls hP hD hS hl)
theorem q_iload (C : Cx p s m args c meth cc nL ret Ts own D ct A) (j : Nat) {i : Nat} {x : Int32} (hdg : decode cc pc = .ok (.iload i, 2)) (hj : lv[j]? = some (i, .int x)) (hpc : pc + 2 = pc2) (k : Cf p l e R s m args below meth c D A nL cells slots Q pc2 lv (.int x :: st) ws) : Cf p l e R s m args below meth c D A nL cells slots Q pc lv st ws := by
  subst hpc
  intro H locs ls hP hD hS hl
  exact lv_iload C.1.1 C.1.2.1 hdg (lv_at hl j hj) (k H locs ls hP hD hS hl)
theorem q_aload_n (C : Cx p s m args c meth cc nL ret Ts own D ct A) (j : Nat) {k : Fin 4} {i : Nat} {x : Nat} (hdg : decode cc pc = .ok (.aload_n k, 1)) (hi : (k : Nat) = i) (hj : lv[j]? = some (i, .ref x)) (hpc : pc + 1 = pc2) (k : Cf p l e R s m args below meth c D A nL cells slots Q pc2 lv (.ref x :: st) ws) : Cf p l e R s m args below meth c D A nL cells slots Q pc lv st ws := by
  subst hpc
  intro H locs ls hP hD hS hl
  exact lv_aload_n C.1.1 C.1.2.1 hdg hi (lv_at hl j hj) (k H locs ls hP hD hS hl)
theorem q_aload (C : Cx p s m args c meth cc nL ret Ts own D ct A) (j : Nat) {i : Nat} {x : Nat} (hdg : decode cc pc = .ok (.aload i, 2)) (hj : lv[j]? = some (i, .ref x)) (hpc : pc + 2 = pc2) (k : Cf p l e R s m args below meth c D A nL cells slots Q pc2 lv (.ref x :: st) ws) : Cf p l e R s m args below meth c D A nL cells slots Q pc lv st ws := by
  subst hpc
  intro H locs ls hP hD hS hl
  exact lv_aload C.1.1 C.1.2.1 hdg (lv_at hl j hj) (k H locs ls hP hD hS hl)
theorem q_iconst (C : Cx p s m args c meth cc nL ret Ts own D ct A) {n : Int} {v : Int32} (hdg : decode cc pc = .ok (.iconst n, 1)) (hv : Int32.ofInt n = v) (hpc : pc + 1 = pc2) (k : Cf p l e R s m args below meth c D A nL cells slots Q pc2 lv (.int v :: st) ws) : Cf p l e R s m args below meth c D A nL cells slots Q pc lv st ws := by
  subst hpc
  intro H locs ls hP hD hS hl
  exact lv_iconst C.1.1 C.1.2.1 hdg hv (k H locs ls hP hD hS hl)
theorem q_bipush (C : Cx p s m args c meth cc nL ret Ts own D ct A) {n : Int} {v : Int32} (hdg : decode cc pc = .ok (.bipush n, 2)) (hv : (Int8.ofInt n).toInt32 = v) (hpc : pc + 2 = pc2) (k : Cf p l e R s m args below meth c D A nL cells slots Q pc2 lv (.int v :: st) ws) : Cf p l e R s m args below meth c D A nL cells slots Q pc lv st ws := by
  subst hpc
  intro H locs ls hP hD hS hl
  exact lv_bipush C.1.1 C.1.2.1 hdg hv (k H locs ls hP hD hS hl)
theorem q_sipush (C : Cx p s m args c meth cc nL ret Ts own D ct A) {n : Int} {v : Int32} (hdg : decode cc pc = .ok (.sipush n, 3)) (hv : (Int16.ofInt n).toInt32 = v) (hpc : pc + 3 = pc2) (k : Cf p l e R s m args below meth c D A nL cells slots Q pc2 lv (.int v :: st) ws) : Cf p l e R s m args below meth c D A nL cells slots Q pc lv st ws := by
  subst hpc
  intro H locs ls hP hD hS hl
  exact lv_sipush C.1.1 C.1.2.1 hdg hv (k H locs ls hP hD hS hl)
theorem q_lconst (C : Cx p s m args c meth cc nL ret Ts own D ct A) {n : Fin 2} {v : Int64} (hdg : decode cc pc = .ok (.lconst n, 1)) (hv : Int64.ofNat (n : Nat) = v) (hpc : pc + 1 = pc2) (k : Cf p l e R s m args below meth c D A nL cells slots Q pc2 lv (.long v :: st) ws) : Cf p l e R s m args below meth c D A nL cells slots Q pc lv st ws := by
  subst hpc
  intro H locs ls hP hD hS hl
  exact lv_lconst C.1.1 C.1.2.1 hdg hv (k H locs ls hP hD hS hl)
theorem q_iadd (C : Cx p s m args c meth cc nL ret Ts own D ct A) {x y v : Int32} (hdg : decode cc pc = .ok (.iadd, 1)) (hv : (x + y) = v) (hpc : pc + 1 = pc2) (k : Cf p l e R s m args below meth c D A nL cells slots Q pc2 lv (.int v :: st) ws) : Cf p l e R s m args below meth c D A nL cells slots Q pc lv (.int y :: .int x :: st) ws := by
  subst hpc
  intro H locs ls hP hD hS hl
  exact lv_iadd C.1.1 C.1.2.1 hdg (by rw [hv]; exact k H locs ls hP hD hS hl)
theorem q_isub (C : Cx p s m args c meth cc nL ret Ts own D ct A) {x y v : Int32} (hdg : decode cc pc = .ok (.isub, 1)) (hv : (x - y) = v) (hpc : pc + 1 = pc2) (k : Cf p l e R s m args below meth c D A nL cells slots Q pc2 lv (.int v :: st) ws) : Cf p l e R s m args below meth c D A nL cells slots Q pc lv (.int y :: .int x :: st) ws := by
  subst hpc
  intro H locs ls hP hD hS hl
  exact lv_isub C.1.1 C.1.2.1 hdg (by rw [hv]; exact k H locs ls hP hD hS hl)
theorem q_imul (C : Cx p s m args c meth cc nL ret Ts own D ct A) {x y v : Int32} (hdg : decode cc pc = .ok (.imul, 1)) (hv : (x * y) = v) (hpc : pc + 1 = pc2) (k : Cf p l e R s m args below meth c D A nL cells slots Q pc2 lv (.int v :: st) ws) : Cf p l e R s m args below meth c D A nL cells slots Q pc lv (.int y :: .int x :: st) ws := by
  subst hpc
  intro H locs ls hP hD hS hl
  exact lv_imul C.1.1 C.1.2.1 hdg (by rw [hv]; exact k H locs ls hP hD hS hl)
theorem q_iand (C : Cx p s m args c meth cc nL ret Ts own D ct A) {x y v : Int32} (hdg : decode cc pc = .ok (.iand, 1)) (hv : (x &&& y) = v) (hpc : pc + 1 = pc2) (k : Cf p l e R s m args below meth c D A nL cells slots Q pc2 lv (.int v :: st) ws) : Cf p l e R s m args below meth c D A nL cells slots Q pc lv (.int y :: .int x :: st) ws := by
  subst hpc
  intro H locs ls hP hD hS hl
  exact lv_iand C.1.1 C.1.2.1 hdg (by rw [hv]; exact k H locs ls hP hD hS hl)
theorem q_ior (C : Cx p s m args c meth cc nL ret Ts own D ct A) {x y v : Int32} (hdg : decode cc pc = .ok (.ior, 1)) (hv : (x ||| y) = v) (hpc : pc + 1 = pc2) (k : Cf p l e R s m args below meth c D A nL cells slots Q pc2 lv (.int v :: st) ws) : Cf p l e R s m args below meth c D A nL cells slots Q pc lv (.int y :: .int x :: st) ws := by
  subst hpc
  intro H locs ls hP hD hS hl
  exact lv_ior C.1.1 C.1.2.1 hdg (by rw [hv]; exact k H locs ls hP hD hS hl)
theorem q_ixor (C : Cx p s m args c meth cc nL ret Ts own D ct A) {x y v : Int32} (hdg : decode cc pc = .ok (.ixor, 1)) (hv : (x ^^^ y) = v) (hpc : pc + 1 = pc2) (k : Cf p l e R s m args below meth c D A nL cells slots Q pc2 lv (.int v :: st) ws) : Cf p l e R s m args below meth c D A nL cells slots Q pc lv (.int y :: .int x :: st) ws := by
  subst hpc
  intro H locs ls hP hD hS hl
  exact lv_ixor C.1.1 C.1.2.1 hdg (by rw [hv]; exact k H locs ls hP hD hS hl)
theorem q_ishl (C : Cx p s m args c meth cc nL ret Ts own D ct A) {x y v : Int32} (hdg : decode cc pc = .ok (.ishl, 1)) (hv : (x <<< (y &&& 31)) = v) (hpc : pc + 1 = pc2) (k : Cf p l e R s m args below meth c D A nL cells slots Q pc2 lv (.int v :: st) ws) : Cf p l e R s m args below meth c D A nL cells slots Q pc lv (.int y :: .int x :: st) ws := by
  subst hpc
  intro H locs ls hP hD hS hl
  exact lv_ishl C.1.1 C.1.2.1 hdg (by rw [hv]; exact k H locs ls hP hD hS hl)
theorem q_idiv (C : Cx p s m args c meth cc nL ret Ts own D ct A) {x y v : Int32} (hdg : decode cc pc = .ok (.idiv, 1)) (hne : ¬ y = 0) (hv : x / y = v) (hpc : pc + 1 = pc2) (k : Cf p l e R s m args below meth c D A nL cells slots Q pc2 lv (.int v :: st) ws) : Cf p l e R s m args below meth c D A nL cells slots Q pc lv (.int y :: .int x :: st) ws := by
  subst hpc
  intro H locs ls hP hD hS hl
  exact lv_idiv C.1.1 C.1.2.1 hdg hne (by rw [hv]; exact k H locs ls hP hD hS hl)
theorem q_ineg (C : Cx p s m args c meth cc nL ret Ts own D ct A) {x v : Int32} (hdg : decode cc pc = .ok (.ineg, 1)) (hv : -x = v) (hpc : pc + 1 = pc2) (k : Cf p l e R s m args below meth c D A nL cells slots Q pc2 lv (.int v :: st) ws) : Cf p l e R s m args below meth c D A nL cells slots Q pc lv (.int x :: st) ws := by
  subst hpc
  intro H locs ls hP hD hS hl
  exact lv_ineg C.1.1 C.1.2.1 hdg (by rw [hv]; exact k H locs ls hP hD hS hl)
theorem q_i2l (C : Cx p s m args c meth cc nL ret Ts own D ct A) {x : Int32} {v : Int64} (hdg : decode cc pc = .ok (.i2l, 1)) (hv : x.toInt64 = v) (hpc : pc + 1 = pc2) (k : Cf p l e R s m args below meth c D A nL cells slots Q pc2 lv (.long v :: st) ws) : Cf p l e R s m args below meth c D A nL cells slots Q pc lv (.int x :: st) ws := by
  subst hpc
  intro H locs ls hP hD hS hl
  exact lv_i2l C.1.1 C.1.2.1 hdg hv (k H locs ls hP hD hS hl)
theorem q_dup (C : Cx p s m args c meth cc nL ret Ts own D ct A) {v : Value} (hdg : decode cc pc = .ok (.dup, 1)) (hv : v.category = 1) (hpc : pc + 1 = pc2) (k : Cf p l e R s m args below meth c D A nL cells slots Q pc2 lv (v :: v :: st) ws) : Cf p l e R s m args below meth c D A nL cells slots Q pc lv (v :: st) ws := by
  subst hpc
  intro H locs ls hP hD hS hl
  exact lv_dup C.1.1 C.1.2.1 hdg hv (k H locs ls hP hD hS hl)
theorem q_dup2 (C : Cx p s m args c meth cc nL ret Ts own D ct A) {v w : Value} (hdg : decode cc pc = .ok (.dup2, 1)) (hv : v.category = 1) (hw : w.category = 1) (hpc : pc + 1 = pc2) (k : Cf p l e R s m args below meth c D A nL cells slots Q pc2 lv (v :: w :: v :: w :: st) ws) : Cf p l e R s m args below meth c D A nL cells slots Q pc lv (v :: w :: st) ws := by
  subst hpc
  intro H locs ls hP hD hS hl
  exact lv_dup2_11 C.1.1 C.1.2.1 hdg hv hw (k H locs ls hP hD hS hl)
theorem q_pop (C : Cx p s m args c meth cc nL ret Ts own D ct A) {v : Value} (hdg : decode cc pc = .ok (.pop, 1)) (hv : v.category = 1) (hpc : pc + 1 = pc2) (k : Cf p l e R s m args below meth c D A nL cells slots Q pc2 lv st ws) : Cf p l e R s m args below meth c D A nL cells slots Q pc lv (v :: st) ws := by
  subst hpc
  intro H locs ls hP hD hS hl
  exact lv_pop C.1.1 C.1.2.1 hdg hv (k H locs ls hP hD hS hl)
theorem q_istore_n (C : Cx p s m args c meth cc nL ret Ts own D ct A) {i : Nat} {x : Int32} {k : Fin 4} (hdg : decode cc pc = .ok (.istore_n k, 1)) (hi : (k : Nat) = i) (hn : i < nL) (hl' : (i, Value.int x) :: lv.filter (fun q => !(q.1 == i) && !(q.1 + 1 == i && q.2.category == 2)) = lv') (hpc : pc + 1 = pc2) (k' : Cf p l e R s m args below meth c D A nL cells slots Q pc2 lv' st ws) : Cf p l e R s m args below meth c D A nL cells slots Q pc lv (.int x :: st) ws := by
  subst hpc
  intro H locs ls hP hD hS hl
  exact lv_istore_n C.1.1 C.1.2.1 hdg hi hl hn hl' (fun ls' h => k' H locs ls' hP hD hS h)
theorem q_istore (C : Cx p s m args c meth cc nL ret Ts own D ct A) {i : Nat} {x : Int32} (hdg : decode cc pc = .ok (.istore i, 2)) (hn : i < nL) (hl' : (i, Value.int x) :: lv.filter (fun q => !(q.1 == i) && !(q.1 + 1 == i && q.2.category == 2)) = lv') (hpc : pc + 2 = pc2) (k' : Cf p l e R s m args below meth c D A nL cells slots Q pc2 lv' st ws) : Cf p l e R s m args below meth c D A nL cells slots Q pc lv (.int x :: st) ws := by
  subst hpc
  intro H locs ls hP hD hS hl
  exact lv_istore C.1.1 C.1.2.1 hdg hl hn hl' (fun ls' h => k' H locs ls' hP hD hS h)
theorem q_astore_n (C : Cx p s m args c meth cc nL ret Ts own D ct A) {i : Nat} {x : Nat} {k : Fin 4} (hdg : decode cc pc = .ok (.astore_n k, 1)) (hi : (k : Nat) = i) (hn : i < nL) (hl' : (i, Value.ref x) :: lv.filter (fun q => !(q.1 == i) && !(q.1 + 1 == i && q.2.category == 2)) = lv') (hpc : pc + 1 = pc2) (k' : Cf p l e R s m args below meth c D A nL cells slots Q pc2 lv' st ws) : Cf p l e R s m args below meth c D A nL cells slots Q pc lv (.ref x :: st) ws := by
  subst hpc
  intro H locs ls hP hD hS hl
  exact lv_astore_n C.1.1 C.1.2.1 hdg hi hl hn hl' (fun ls' h => k' H locs ls' hP hD hS h)
theorem q_astore (C : Cx p s m args c meth cc nL ret Ts own D ct A) {i : Nat} {x : Nat} (hdg : decode cc pc = .ok (.astore i, 2)) (hn : i < nL) (hl' : (i, Value.ref x) :: lv.filter (fun q => !(q.1 == i) && !(q.1 + 1 == i && q.2.category == 2)) = lv') (hpc : pc + 2 = pc2) (k' : Cf p l e R s m args below meth c D A nL cells slots Q pc2 lv' st ws) : Cf p l e R s m args below meth c D A nL cells slots Q pc lv (.ref x :: st) ws := by
  subst hpc
  intro H locs ls hP hD hS hl
  exact lv_astore C.1.1 C.1.2.1 hdg hl hn hl' (fun ls' h => k' H locs ls' hP hD hS h)
theorem q_iinc (C : Cx p s m args c meth cc nL ret Ts own D ct A) (j : Nat) {i : Nat} {n : Int} {x v : Int32} (hdg : decode cc pc = .ok (.iinc i n, 3)) (hj : lv[j]? = some (i, .int x)) (hv : x + Int32.ofInt n = v) (hn : i < nL) (hl' : (i, Value.int v) :: lv.filter (fun q => !(q.1 == i) && !(q.1 + 1 == i && q.2.category == 2)) = lv') (hpc : pc + 3 = pc2) (k' : Cf p l e R s m args below meth c D A nL cells slots Q pc2 lv' st ws) : Cf p l e R s m args below meth c D A nL cells slots Q pc lv st ws := by
  subst hpc
  intro H locs ls hP hD hS hl
  exact lv_iinc (k := j) C.1.1 C.1.2.1 hdg hl hj hv hn hl' (fun ls' h => k' H locs ls' hP hD hS h)
/-- the locals in another order, or fewer -/
theorem q_lv (is : List Nat) (h : lv_pick lv is = lv') (k : Cf p l e R s m args below meth c D A nL cells slots Q pc lv' st ws) : Cf p l e R s m args below meth c D A nL cells slots Q pc lv st ws := fun H locs ls hP hD hS hl => k H locs ls hP hD hS (lv_sub hl is h)
theorem q_eqi {x y : Int32} (h : x = y) (k : Cf p l e R s m args below meth c D A nL cells slots Q pc lv (.int y :: st) ws) : Cf p l e R s m args below meth c D A nL cells slots Q pc lv (.int x :: st) ws := by rw [h]; exact k
theorem q_eqw {ws' : va_W} (h : ws = ws') (k : Cf p l e R s m args below meth c D A nL cells slots Q pc lv st ws') : Cf p l e R s m args below meth c D A nL cells slots Q pc lv st ws := by rw [h]; exact k
theorem q_eql {lv' : List (Nat × Value)} (h : lv = lv') (k : Cf p l e R s m args below meth c D A nL cells slots Q pc lv' st ws) : Cf p l e R s m args below meth c D A nL cells slots Q pc lv st ws := by rw [h]; exact k
theorem q_widen {c2 s2 : Nat} (h1 : cells ≤ c2) (h2 : slots ≤ s2) (k : Cf p l e R s m args below meth c D A nL c2 s2 Q pc lv st ws) : Cf p l e R s m args below meth c D A nL cells slots Q pc lv st ws := fun H locs ls hP hD hS hl => W.widen h1 h2 (k H locs ls hP hD hS hl)
theorem q_goto (C : Cx p s m args c meth cc nL ret Ts own D ct A) {off : Int} (hdg : decode cc pc = .ok (.goto off, 3)) (ht : (pc : Int) + off = (pc2 : Int)) (k : Cf p l e R s m args below meth c D A nL cells slots Q pc2 lv st ws) : Cf p l e R s m args below meth c D A nL cells slots Q pc lv st ws := fun H locs ls hP hD hS hl => lv_goto C.1.1 C.1.2.1 hdg ht (k H locs ls hP hD hS hl)
theorem q_if_eq (C : Cx p s m args c meth cc nL ret Ts own D ct A) {x : Int32} {off : Int} {tgt : Nat} (hdg : decode cc pc = .ok (.ifCond .eq off, 3)) (ht : (pc : Int) + off = (tgt : Int)) (hpc : pc + 3 = pc2) (kt : x = 0 → Cf p l e R s m args below meth c D A nL cells slots Q tgt lv st ws) (kf : ¬ x = 0 → Cf p l e R s m args below meth c D A nL cells slots Q pc2 lv st ws) : Cf p l e R s m args below meth c D A nL cells slots Q pc lv (.int x :: st) ws := by
  subst hpc
  intro H locs ls hP hD hS hl
  exact lv_if_eq C.1.1 C.1.2.1 hdg ht (fun h => kt h H locs ls hP hD hS hl) (fun h => kf h H locs ls hP hD hS hl)
theorem q_icmp_eq (C : Cx p s m args c meth cc nL ret Ts own D ct A) {x y : Int32} {off : Int} {tgt : Nat} (hdg : decode cc pc = .ok (.if_icmp .eq off, 3)) (ht : (pc : Int) + off = (tgt : Int)) (hpc : pc + 3 = pc2) (kt : x = y → Cf p l e R s m args below meth c D A nL cells slots Q tgt lv st ws) (kf : ¬ x = y → Cf p l e R s m args below meth c D A nL cells slots Q pc2 lv st ws) : Cf p l e R s m args below meth c D A nL cells slots Q pc lv (.int y :: .int x :: st) ws := by
  subst hpc
  intro H locs ls hP hD hS hl
  exact lv_icmp_eq C.1.1 C.1.2.1 hdg ht (fun h => kt h H locs ls hP hD hS hl) (fun h => kf h H locs ls hP hD hS hl)
theorem q_if_ne (C : Cx p s m args c meth cc nL ret Ts own D ct A) {x : Int32} {off : Int} {tgt : Nat} (hdg : decode cc pc = .ok (.ifCond .ne off, 3)) (ht : (pc : Int) + off = (tgt : Int)) (hpc : pc + 3 = pc2) (kt : ¬ x = 0 → Cf p l e R s m args below meth c D A nL cells slots Q tgt lv st ws) (kf : x = 0 → Cf p l e R s m args below meth c D A nL cells slots Q pc2 lv st ws) : Cf p l e R s m args below meth c D A nL cells slots Q pc lv (.int x :: st) ws := by
  subst hpc
  intro H locs ls hP hD hS hl
  exact lv_if_ne C.1.1 C.1.2.1 hdg ht (fun h => kt h H locs ls hP hD hS hl) (fun h => kf h H locs ls hP hD hS hl)
theorem q_icmp_ne (C : Cx p s m args c meth cc nL ret Ts own D ct A) {x y : Int32} {off : Int} {tgt : Nat} (hdg : decode cc pc = .ok (.if_icmp .ne off, 3)) (ht : (pc : Int) + off = (tgt : Int)) (hpc : pc + 3 = pc2) (kt : ¬ x = y → Cf p l e R s m args below meth c D A nL cells slots Q tgt lv st ws) (kf : x = y → Cf p l e R s m args below meth c D A nL cells slots Q pc2 lv st ws) : Cf p l e R s m args below meth c D A nL cells slots Q pc lv (.int y :: .int x :: st) ws := by
  subst hpc
  intro H locs ls hP hD hS hl
  exact lv_icmp_ne C.1.1 C.1.2.1 hdg ht (fun h => kt h H locs ls hP hD hS hl) (fun h => kf h H locs ls hP hD hS hl)
theorem q_if_lt (C : Cx p s m args c meth cc nL ret Ts own D ct A) {x : Int32} {off : Int} {tgt : Nat} (hdg : decode cc pc = .ok (.ifCond .lt off, 3)) (ht : (pc : Int) + off = (tgt : Int)) (hpc : pc + 3 = pc2) (kt : x < 0 → Cf p l e R s m args below meth c D A nL cells slots Q tgt lv st ws) (kf : ¬ x < 0 → Cf p l e R s m args below meth c D A nL cells slots Q pc2 lv st ws) : Cf p l e R s m args below meth c D A nL cells slots Q pc lv (.int x :: st) ws := by
  subst hpc
  intro H locs ls hP hD hS hl
  exact lv_if_lt C.1.1 C.1.2.1 hdg ht (fun h => kt h H locs ls hP hD hS hl) (fun h => kf h H locs ls hP hD hS hl)
theorem q_icmp_lt (C : Cx p s m args c meth cc nL ret Ts own D ct A) {x y : Int32} {off : Int} {tgt : Nat} (hdg : decode cc pc = .ok (.if_icmp .lt off, 3)) (ht : (pc : Int) + off = (tgt : Int)) (hpc : pc + 3 = pc2) (kt : x < y → Cf p l e R s m args below meth c D A nL cells slots Q tgt lv st ws) (kf : ¬ x < y → Cf p l e R s m args below meth c D A nL cells slots Q pc2 lv st ws) : Cf p l e R s m args below meth c D A nL cells slots Q pc lv (.int y :: .int x :: st) ws := by
  subst hpc
  intro H locs ls hP hD hS hl
  exact lv_icmp_lt C.1.1 C.1.2.1 hdg ht (fun h => kt h H locs ls hP hD hS hl) (fun h => kf h H locs ls hP hD hS hl)
theorem q_if_ge (C : Cx p s m args c meth cc nL ret Ts own D ct A) {x : Int32} {off : Int} {tgt : Nat} (hdg : decode cc pc = .ok (.ifCond .ge off, 3)) (ht : (pc : Int) + off = (tgt : Int)) (hpc : pc + 3 = pc2) (kt : 0 ≤ x → Cf p l e R s m args below meth c D A nL cells slots Q tgt lv st ws) (kf : ¬ 0 ≤ x → Cf p l e R s m args below meth c D A nL cells slots Q pc2 lv st ws) : Cf p l e R s m args below meth c D A nL cells slots Q pc lv (.int x :: st) ws := by
  subst hpc
  intro H locs ls hP hD hS hl
  exact lv_if_ge C.1.1 C.1.2.1 hdg ht (fun h => kt h H locs ls hP hD hS hl) (fun h => kf h H locs ls hP hD hS hl)
theorem q_icmp_ge (C : Cx p s m args c meth cc nL ret Ts own D ct A) {x y : Int32} {off : Int} {tgt : Nat} (hdg : decode cc pc = .ok (.if_icmp .ge off, 3)) (ht : (pc : Int) + off = (tgt : Int)) (hpc : pc + 3 = pc2) (kt : y ≤ x → Cf p l e R s m args below meth c D A nL cells slots Q tgt lv st ws) (kf : ¬ y ≤ x → Cf p l e R s m args below meth c D A nL cells slots Q pc2 lv st ws) : Cf p l e R s m args below meth c D A nL cells slots Q pc lv (.int y :: .int x :: st) ws := by
  subst hpc
  intro H locs ls hP hD hS hl
  exact lv_icmp_ge C.1.1 C.1.2.1 hdg ht (fun h => kt h H locs ls hP hD hS hl) (fun h => kf h H locs ls hP hD hS hl)
theorem q_if_gt (C : Cx p s m args c meth cc nL ret Ts own D ct A) {x : Int32} {off : Int} {tgt : Nat} (hdg : decode cc pc = .ok (.ifCond .gt off, 3)) (ht : (pc : Int) + off = (tgt : Int)) (hpc : pc + 3 = pc2) (kt : 0 < x → Cf p l e R s m args below meth c D A nL cells slots Q tgt lv st ws) (kf : ¬ 0 < x → Cf p l e R s m args below meth c D A nL cells slots Q pc2 lv st ws) : Cf p l e R s m args below meth c D A nL cells slots Q pc lv (.int x :: st) ws := by
  subst hpc
  intro H locs ls hP hD hS hl
  exact lv_if_gt C.1.1 C.1.2.1 hdg ht (fun h => kt h H locs ls hP hD hS hl) (fun h => kf h H locs ls hP hD hS hl)
theorem q_icmp_gt (C : Cx p s m args c meth cc nL ret Ts own D ct A) {x y : Int32} {off : Int} {tgt : Nat} (hdg : decode cc pc = .ok (.if_icmp .gt off, 3)) (ht : (pc : Int) + off = (tgt : Int)) (hpc : pc + 3 = pc2) (kt : y < x → Cf p l e R s m args below meth c D A nL cells slots Q tgt lv st ws) (kf : ¬ y < x → Cf p l e R s m args below meth c D A nL cells slots Q pc2 lv st ws) : Cf p l e R s m args below meth c D A nL cells slots Q pc lv (.int y :: .int x :: st) ws := by
  subst hpc
  intro H locs ls hP hD hS hl
  exact lv_icmp_gt C.1.1 C.1.2.1 hdg ht (fun h => kt h H locs ls hP hD hS hl) (fun h => kf h H locs ls hP hD hS hl)
theorem q_if_le (C : Cx p s m args c meth cc nL ret Ts own D ct A) {x : Int32} {off : Int} {tgt : Nat} (hdg : decode cc pc = .ok (.ifCond .le off, 3)) (ht : (pc : Int) + off = (tgt : Int)) (hpc : pc + 3 = pc2) (kt : x ≤ 0 → Cf p l e R s m args below meth c D A nL cells slots Q tgt lv st ws) (kf : ¬ x ≤ 0 → Cf p l e R s m args below meth c D A nL cells slots Q pc2 lv st ws) : Cf p l e R s m args below meth c D A nL cells slots Q pc lv (.int x :: st) ws := by
  subst hpc
  intro H locs ls hP hD hS hl
  exact lv_if_le C.1.1 C.1.2.1 hdg ht (fun h => kt h H locs ls hP hD hS hl) (fun h => kf h H locs ls hP hD hS hl)
theorem q_icmp_le (C : Cx p s m args c meth cc nL ret Ts own D ct A) {x y : Int32} {off : Int} {tgt : Nat} (hdg : decode cc pc = .ok (.if_icmp .le off, 3)) (ht : (pc : Int) + off = (tgt : Int)) (hpc : pc + 3 = pc2) (kt : x ≤ y → Cf p l e R s m args below meth c D A nL cells slots Q tgt lv st ws) (kf : ¬ x ≤ y → Cf p l e R s m args below meth c D A nL cells slots Q pc2 lv st ws) : Cf p l e R s m args below meth c D A nL cells slots Q pc lv (.int y :: .int x :: st) ws := by
  subst hpc
  intro H locs ls hP hD hS hl
  exact lv_icmp_le C.1.1 C.1.2.1 hdg ht (fun h => kt h H locs ls hP hD hS hl) (fun h => kf h H locs ls hP hD hS hl)
theorem q_get (C : Cx p s m args c meth cc nL ret Ts own D ct A) {a q0 k ci N index : Nat} {C' ref : String} {T : u_T} {fs : List Value} {v : Value} (hin : ∀ w ∈ u_ws C' T N, w ∈ Ts) (hlink : (Cond.fieldLink own index ref (T k).2.1 (T k).2.2.1).before args s = true) (he : ws[q0]? = some (a, .inr (ci, fs))) (hc : vwCl[ci]? = some (C', T, N)) (hk : k < N) (hsame : (T k).1 = ref) (hv : fs[k]? = some v) (hdg : decode cc pc = .ok (.getfield index, 3)) (hpc : pc + 3 = pc2) (kk : Cf p l e R s m args below meth c D A nL cells slots Q pc2 lv (v :: st) ws) : Cf p l e R s m args below meth c D A nL cells slots Q pc lv (.ref a :: st) ws := by
  subst hpc; subst hsame
  intro H locs ls hP hD hS hl
  exact va_get C.1.1 C.1.2.1 C.w hin C.1.2.2.2.1 C.2.1.1 hP q0 he hc k hk hlink (fun _ h => h) hv hdg (kk H locs ls hP hD hS hl)
theorem q_getN (C : Cx p s m args c meth cc nL ret Ts own D ct A) {a q0 k ci N index : Nat} {C' ref : String} {T : u_T} {fs : List Value} {v : Value} (hin : ∀ w ∈ u_ws C' T N, w ∈ Ts) {host : String} (hlink : (Cond.fieldLinkNest own index ref (T k).2.1 (T k).2.2.1 host).before args s = true) (he : ws[q0]? = some (a, .inr (ci, fs))) (hc : vwCl[ci]? = some (C', T, N)) (hk : k < N) (hsame : (T k).1 = ref) (hv : fs[k]? = some v) (hdg : decode cc pc = .ok (.getfield index, 3)) (hpc : pc + 3 = pc2) (kk : Cf p l e R s m args below meth c D A nL cells slots Q pc2 lv (v :: st) ws) : Cf p l e R s m args below meth c D A nL cells slots Q pc lv (.ref a :: st) ws := by
  subst hpc; subst hsame
  intro H locs ls hP hD hS hl
  exact va_getN C.1.1 C.1.2.1 C.w hin C.1.2.2.2.1 C.2.1.1 hP q0 he hc k hk hlink (fun _ h => h) hv hdg (kk H locs ls hP hD hS hl)
theorem q_put (C : Cx p s m args c meth cc nL ret Ts own D ct A) {a q0 k ci N index : Nat} {C' ref : String} {T : u_T} {fs : List Value} {v : Value} {ty : FieldType} {ws' : va_W} (hin : ∀ w ∈ u_ws C' T N, w ∈ Ts) {ty0 : Nat → FieldType} (hty : ∀ k, k < N → parseFieldDescriptor (T k).2.2.1 = some (ty0 k)) (hnm : ∀ a, a < N → ∀ b, b < N → a ≠ b → (T a).2.1 ≠ (T b).2.1) (hlink : (Cond.fieldLink own index ref (T k).2.1 (T k).2.2.1).before args s = true) (he : ws[q0]? = some (a, .inr (ci, fs))) (hc : vwCl[ci]? = some (C', T, N)) (hk : k < N) (hsame : (T k).1 = ref) (hfin : (T k).2.2.2 = false) (hd : parseFieldDescriptor (T k).2.2.1 = some ty) (hn : narrow ty v = v) (hfit : fits ty v = true) (hl : k < fs.length) (hw : ws.set q0 (a, .inr (ci, fs.set k v)) = ws') (hdg : decode cc pc = .ok (.putfield index, 3)) (hpc : pc + 3 = pc2) (kk : Cf p l e R s m args below meth c D A nL cells slots Q pc2 lv st ws') : Cf p l e R s m args below meth c D A nL cells slots Q pc lv (v :: .ref a :: st) ws := by
  subst hpc; subst hw
  intro H locs ls hP hD hS hls
  exact va_put C.1.1 C.1.2.1 C.w hin ty0 hty hnm C.1.2.2.2.1 C.2.1.1 hP hD hS q0 he hc k hk hlink (by subst hsame; exact fun _ h => h) hfin hd hn hfit hl hdg (fun H1 locs1 hP1 hD1 hS1 => kk H1 locs1 ls hP1 hD1 hS1 hls)
theorem q_putF (C : Cx p s m args c meth cc nL ret Ts own D ct A) {a q0 k ci N index : Nat} {C' ref : String} {T : u_T} {fs : List Value} {v : Value} {ty : FieldType} {ws' : va_W} (hin : ∀ w ∈ u_ws C' T N, w ∈ Ts) {ty0 : Nat → FieldType} (hty : ∀ k, k < N → parseFieldDescriptor (T k).2.2.1 = some (ty0 k)) (hnm : ∀ a, a < N → ∀ b, b < N → a ≠ b → (T a).2.1 ≠ (T b).2.1) (hlink : (Cond.fieldLink own index ref (T k).2.1 (T k).2.2.1).before args s = true) (he : ws[q0]? = some (a, .inr (ci, fs))) (hc : vwCl[ci]? = some (C', T, N)) (hk : k < N) (hsame : (T k).1 = ref) (hfin : (T k).2.2.2 = true) (hin2 : meth.name = "<init>") (hdecl : (T k).1 = own) (hd : parseFieldDescriptor (T k).2.2.1 = some ty) (hn : narrow ty v = v) (hfit : fits ty v = true) (hl : k < fs.length) (hw : ws.set q0 (a, .inr (ci, fs.set k v)) = ws') (hdg : decode cc pc = .ok (.putfield index, 3)) (hpc : pc + 3 = pc2) (kk : Cf p l e R s m args below meth c D A nL cells slots Q pc2 lv st ws') : Cf p l e R s m args below meth c D A nL cells slots Q pc lv (v :: .ref a :: st) ws := by
  subst hpc; subst hw
  intro H locs ls hP hD hS hls
  exact va_putF C.1.1 C.1.2.1 C.w hin ty0 hty hnm C.1.2.2.2.1 C.2.1.1 hP hD hS q0 he hc k hk hlink (by subst hsame; exact fun _ h => h) hfin hin2 hdecl hd hn hfit hl hdg (fun H1 locs1 hP1 hD1 hS1 => kk H1 locs1 ls hP1 hD1 hS1 hls)
theorem q_iald (C : Cx p s m args c meth cc nL ret Ts own D ct A) (j : Nat) {a q0 n : Nat} {cA : ClassId} {f : Nat → Int32} {i : Int32} (ha : ws[q0]? = some (a, .inl (cA, n, .inl f))) (hcA : cA = ct 0) (hi : i = nI j) (hj : j < n) (hn : n < 2 ^ 31) (hdg : decode cc pc = .ok (.iaload, 1)) (hpc : pc + 1 = pc2) (kk : Cf p l e R s m args below meth c D A nL cells slots Q pc2 lv (.int (f j) :: st) ws) : Cf p l e R s m args below meth c D A nL cells slots Q pc lv (.int i :: .ref a :: st) ws := by
  subst hpc; subst hi; subst hcA
  intro H locs ls hP hD hS hl
  exact va_iald C.1.1 C.1.2.1 C.2.1.1 hP q0 0 ha rfl (vp_in_nI hj hn) hdg (by rw [nI_clamp (Nat.lt_trans hj hn)]; exact kk H locs ls hP hD hS hl)
theorem q_zald (C : Cx p s m args c meth cc nL ret Ts own D ct A) (j : Nat) {a q0 n : Nat} {cA : ClassId} {f : Nat → Int32} {i : Int32} (ha : ws[q0]? = some (a, .inl (cA, n, .inl f))) (hcA : cA = ct 1) (hi : i = nI j) (hj : j < n) (hn : n < 2 ^ 31) (hdg : decode cc pc = .ok (.baload, 1)) (hpc : pc + 1 = pc2) (kk : Cf p l e R s m args below meth c D A nL cells slots Q pc2 lv (.int (f j) :: st) ws) : Cf p l e R s m args below meth c D A nL cells slots Q pc lv (.int i :: .ref a :: st) ws := by
  subst hpc; subst hi; subst hcA
  intro H locs ls hP hD hS hl
  exact va_zald C.1.1 C.1.2.1 C.2.1.1 hP q0 1 ha rfl (vp_in_nI hj hn) hdg (by rw [nI_clamp (Nat.lt_trans hj hn)]; exact kk H locs ls hP hD hS hl)
theorem q_lald (C : Cx p s m args c meth cc nL ret Ts own D ct A) (j : Nat) {a q0 n : Nat} {cA : ClassId} {f : Nat → Int64} {i : Int32} (ha : ws[q0]? = some (a, .inl (cA, n, .inr (.inl f)))) (hcA : cA = ct 2) (hi : i = nI j) (hj : j < n) (hn : n < 2 ^ 31) (hdg : decode cc pc = .ok (.laload, 1)) (hpc : pc + 1 = pc2) (kk : Cf p l e R s m args below meth c D A nL cells slots Q pc2 lv (.long (f j) :: st) ws) : Cf p l e R s m args below meth c D A nL cells slots Q pc lv (.int i :: .ref a :: st) ws := by
  subst hpc; subst hi; subst hcA
  intro H locs ls hP hD hS hl
  exact va_lald C.1.1 C.1.2.1 C.2.1.1 hP q0 2 ha rfl (vp_in_nI hj hn) hdg (by rw [nI_clamp (Nat.lt_trans hj hn)]; exact kk H locs ls hP hD hS hl)
theorem q_iast (C : Cx p s m args c meth cc nL ret Ts own D ct A) (j : Nat) {a q0 n : Nat} {cA : ClassId} {f : Nat → Int32} {i x : Int32} {ws' : va_W} (ha : ws[q0]? = some (a, .inl (cA, n, .inl f))) (hcA : cA = ct 0) (hi : i = nI j) (hj : j < n) (hn : n < 2 ^ 31) (hw : ws.set q0 (a, .inl (cA, n, .inl (upd f j x))) = ws') (hdg : decode cc pc = .ok (.iastore, 1)) (hpc : pc + 1 = pc2) (kk : Cf p l e R s m args below meth c D A nL cells slots Q pc2 lv st ws') : Cf p l e R s m args below meth c D A nL cells slots Q pc lv (.int x :: .int i :: .ref a :: st) ws := by
  subst hpc; subst hi; subst hcA; subst hw
  intro H locs ls hP hD hS hl
  refine va_iast C.1.1 C.1.2.1 C.2.1.1 hP hD hS q0 0 ha rfl (vp_in_nI hj hn) hdg (fun H1 locs1 hP1 hD1 hS1 => ?_)
  rw [nI_clamp (Nat.lt_trans hj hn)] at hP1 hD1
  exact kk H1 locs1 ls hP1 hD1 hS1 hl
theorem q_zast (C : Cx p s m args c meth cc nL ret Ts own D ct A) (j : Nat) {a q0 n : Nat} {cA : ClassId} {f : Nat → Int32} {i x : Int32} {ws' : va_W} (ha : ws[q0]? = some (a, .inl (cA, n, .inl f))) (hcA : cA = ct 1) (hi : i = nI j) (hj : j < n) (hn : n < 2 ^ 31) (hx : vp_nar .boolean x = x) (hw : ws.set q0 (a, .inl (cA, n, .inl (upd f j x))) = ws') (hdg : decode cc pc = .ok (.bastore, 1)) (hpc : pc + 1 = pc2) (kk : Cf p l e R s m args below meth c D A nL cells slots Q pc2 lv st ws') : Cf p l e R s m args below meth c D A nL cells slots Q pc lv (.int x :: .int i :: .ref a :: st) ws := by
  subst hpc; subst hi; subst hcA; subst hw
  intro H locs ls hP hD hS hl
  refine va_zast C.1.1 C.1.2.1 C.2.1.1 hP hD hS q0 1 ha rfl (vp_in_nI hj hn) hdg (fun H1 locs1 hP1 hD1 hS1 => ?_)
  rw [nI_clamp (Nat.lt_trans hj hn), hx] at hP1 hD1
  exact kk H1 locs1 ls hP1 hD1 hS1 hl
theorem q_last (C : Cx p s m args c meth cc nL ret Ts own D ct A) (j : Nat) {a q0 n : Nat} {cA : ClassId} {f : Nat → Int64} {i : Int32} {x : Int64} {ws' : va_W} (ha : ws[q0]? = some (a, .inl (cA, n, .inr (.inl f)))) (hcA : cA = ct 2) (hi : i = nI j) (hj : j < n) (hn : n < 2 ^ 31) (hw : ws.set q0 (a, .inl (cA, n, .inr (.inl (vp_updL f j x)))) = ws') (hdg : decode cc pc = .ok (.lastore, 1)) (hpc : pc + 1 = pc2) (kk : Cf p l e R s m args below meth c D A nL cells slots Q pc2 lv st ws') : Cf p l e R s m args below meth c D A nL cells slots Q pc lv (.long x :: .int i :: .ref a :: st) ws := by
  subst hpc; subst hi; subst hcA; subst hw
  intro H locs ls hP hD hS hl
  refine va_last C.1.1 C.1.2.1 C.2.1.1 hP hD hS q0 2 ha rfl (vp_in_nI hj hn) hdg (fun H1 locs1 hP1 hD1 hS1 => ?_)
  rw [nI_clamp (Nat.lt_trans hj hn)] at hP1 hD1
  exact kk H1 locs1 ls hP1 hD1 hS1 hl
theorem q_alen (C : Cx p s m args c meth cc nL ret Ts own D ct A) {a q0 n : Nat} {cA : ClassId} {t0 : Nat} {x : vp_A} {ty : FieldType} {v : Int32} (ha : ws[q0]? = some (a, .inl (cA, x))) (ht : (qT ct)[t0]? = some (cA, ty)) (hv : Int32.ofNat x.1 = v) (hdg : decode cc pc = .ok (.arraylength, 1)) (hpc : pc + 1 = pc2) (kk : Cf p l e R s m args below meth c D A nL cells slots Q pc2 lv (.int v :: st) ws) : Cf p l e R s m args below meth c D A nL cells slots Q pc lv (.ref a :: st) ws := by
  subst hpc
  intro H locs ls hP hD hS hl
  exact va_alen C.1.1 C.1.2.1 C.2.1.1 hP q0 t0 ha ht hv hdg (kk H locs ls hP hD hS hl)
end QROWS
end
section
/-! the packed walk: beginning and end of a method, calls -/
theorem q_fm {α : Type} {f : Nat → Option α} {is : List Nat} {w : List α} (h : is.map f = w.map some) : is.filterMap f = w := by
  have h1 : is.filterMap f = (is.map f).filterMap id := by rw [List.filterMap_map]; rfl
  rw [h1, h, List.filterMap_map]
  show List.filterMap (fun x => some x) w = w
  exact List.filterMap_some
section QENDS
variable {p : Program} {l : Launch} {e : Env} {R : Room} {s : State} {m : MethodId} {args : Array Value} {below : List Frame} {meth : Method} {c : Code} {D : va_G} {ct : Nat → ClassId} {A : Nat → Prop} {nL cells slots : Nat} {Q : State → Prop}
variable {cc : ByteArray} {ret : Option FieldType} {Ts : List Cond} {own : String} {pc pc2 : Nat} {lv lv' : List (Nat × Value)} {st : List Value} {ws : va_W}
variable {y : MethodName} {wy wy' : List Cond} {rm : Room} {As : List Value} {ws0 : va_W} {B : Option Value → va_W → Prop} {X : String → va_W → Prop} {mc ms : Nat} {maxL : Nat}
/-- what Q and A are in a method that returns -/
def qQ (D : va_G) (B : Option Value → va_W → Prop) (ws0 : va_W) (s : State) (args : Array Value) (below : List Frame) (mc ms : Nat) (A : Nat → Prop) (Q : State → Prop) : Prop :=
  A = va_A ws0 s.heap.size ∧ Q = MQ below (qOk D B ws0 s.heap.size) args s mc ms (va_A ws0 s.heap.size)
/-- .. that returns or throws -/
def qQX (D : va_G) (B : Option Value → va_W → Prop) (X : String → va_W → Prop) (ws0 : va_W) (s : State) (args : Array Value) (below : List Frame) (mc ms : Nat) (A : Nat → Prop) (Q : State → Prop) : Prop :=
  A = va_A ws0 s.heap.size ∧ Q = vx_MQ below (qOk D B ws0 s.heap.size) (qXc D X ws0 s.heap.size) args s mc ms (va_A ws0 s.heap.size)
theorem q_start (hy : plainName y.cls = true) (hw : wy = Cond.code y cc maxL ret :: wy') (hln : (lg_sl As).length ≤ maxL) (hlv : lv_args 0 As = lv)
    (body : ∀ (p : Program) (e : Env) (s : State) (m : MethodId) (args : Array Value) (below : List Frame) (meth : Method) (c : Code) (A : Nat → Prop) (Q : State → Prop), Cx p s m args c meth cc maxL ret wy y.cls D ct A → qQ D B ws0 s args below mc ms A Q → meth.name = y.name →
      Cf p l e rm s m args below meth c D A maxL 0 0 Q 0 lv [] ws0) : qM l y wy rm D ct As ws0 B mc ms := by
  intro sz
  refine Met.ofW (cc := cc) (maxL := maxL) (ret := ret) hy hw ?_
  intro p e s m args below meth c s₁ B0 hml hv
  obtain ⟨rfl, hsz, hP, hE, hD0, hZ⟩ := hv
  have hts := atoms_spec (ws := wy) B0.pre
  have hown : s.vm.findClass y.cls = some m.cls := findClass_of_methodNamed B0.named
  subst hsz
  have hD := hD0.self (sz := s.heap.size)
  have hl := lv_entry As (n := maxL) hln
  rw [lg_entry_eq]
  subst hlv
  exact body p e s m As.toArray below meth c (va_A ws0 s.heap.size) _ ⟨⟨B0.exec, B0.bytes, hml, hown, hts⟩, hE, fun q h => Or.inr h, B0.notSynchronized, hZ, B0.returns⟩ ⟨rfl, rfl⟩ (name_of_methodNamed B0.named B0.method).1 s.heap [] _ hP hD va_S.rf hl
theorem q_startX (hy : plainName y.cls = true) (hw : wy = Cond.code y cc maxL ret :: wy') (hln : (lg_sl As).length ≤ maxL) (hlv : lv_args 0 As = lv)
    (body : ∀ (p : Program) (e : Env) (s : State) (m : MethodId) (args : Array Value) (below : List Frame) (meth : Method) (c : Code) (A : Nat → Prop) (Q : State → Prop), Cx p s m args c meth cc maxL ret wy y.cls D ct A → qQX D B X ws0 s args below mc ms A Q → (∀ x ∈ c.exceptionTable.toList, False) →
      Cf p l e rm s m args below meth c D A maxL 0 0 Q 0 lv [] ws0) : qMX l y wy rm D ct As ws0 B X mc ms := by
  intro sz
  refine vx_ofW (cc := cc) (maxL := maxL) (ret := ret) hy hw ?_
  intro p e s m args below meth c s₁ B0 hml htab hv
  obtain ⟨rfl, hsz, hP, hE, hD0, hZ⟩ := hv
  have hts := atoms_spec (ws := wy) B0.pre
  have hown : s.vm.findClass y.cls = some m.cls := findClass_of_methodNamed B0.named
  subst hsz
  have hD := hD0.self (sz := s.heap.size)
  have hl := lv_entry As (n := maxL) hln
  rw [lg_entry_eq]
  subst hlv
  exact body p e s m As.toArray below meth c (va_A ws0 s.heap.size) _ ⟨⟨B0.exec, B0.bytes, hml, hown, hts⟩, hE, fun q h => Or.inr h, B0.notSynchronized, hZ, B0.returns⟩ ⟨rfl, rfl⟩ htab s.heap [] _ hP hD va_S.rf hl
/-- a body with handlers -/
theorem q_startH {hh : List (Nat × Nat × Nat × Nat)} (hy : plainName y.cls = true) (hw : wy = Cond.codeWith y cc maxL ret hh :: wy') (hln : (lg_sl As).length ≤ maxL) (hlv : lv_args 0 As = lv)
    (body : ∀ (p : Program) (e : Env) (s : State) (m : MethodId) (args : Array Value) (below : List Frame) (meth : Method) (c : Code) (A : Nat → Prop) (Q : State → Prop), Cx p s m args c meth cc maxL ret wy y.cls D ct A → qQX D B X ws0 s args below mc ms A Q → c.exceptionTable.toList = tableOf hh →
      Cf p l e rm s m args below meth c D A maxL 0 0 Q 0 lv [] ws0) : qMX l y wy rm D ct As ws0 B X mc ms := by
  intro sz
  refine vx_ofWH (cc := cc) (maxL := maxL) (ret := ret) (hh := hh) hy hw ?_
  intro p e s m args below meth c s₁ B0 hml hv
  obtain ⟨rfl, hsz, hP, hE, hD0, hZ⟩ := hv
  have hts := atoms_spec (ws := wy) B0.pre
  have hown : s.vm.findClass y.cls = some m.cls := findClass_of_methodNamed B0.named
  subst hsz
  have hD := hD0.self (sz := s.heap.size)
  have hl := lv_entry As (n := maxL) hln
  have htab : c.exceptionTable.toList = tableOf hh := vx_table B0 (hts _ (by rw [hw]; exact List.mem_cons_self))
  rw [lg_entry_eq]
  subst hlv
  exact body p e s m As.toArray below meth c (va_A ws0 s.heap.size) _ ⟨⟨B0.exec, B0.bytes, hml, hown, hts⟩, hE, fun q h => Or.inr h, B0.notSynchronized, hZ, B0.returns⟩ ⟨rfl, rfl⟩ htab s.heap [] _ hP hD va_S.rf hl
theorem q_okS {r : Option Value} {H : Heap} {locs : List Loc} {t : State} (hB : B r ws) (hP : va_P D vwCl ws H) (hD : va_D (va_A ws0 s.heap.size) ws) (hS : va_S (va_A ws0 s.heap.size) s.heap H locs) (ht : t.heap = H) : qOk D B ws0 s.heap.size args s (.returned r) t :=
  ⟨⟨r, ws, rfl, hB, by rw [ht]; exact hP, hD⟩, hS.F ht⟩
theorem q_zret (C : Cx p s m args c meth cc nL ret Ts own D ct A) (hQ : qQ D B ws0 s args below mc ms A Q) {v : Int32} {ty : FieldType} (hr : ret = some ty) (hn : narrow ty (.int v) = .int v) (hc : cells ≤ mc) (hs : slots ≤ ms) (hdg : decode cc pc = .ok (.ireturn, 1)) (hB : B (some (.int v)) ws) :
    Cf p l e R s m args below meth c D A nL cells slots Q pc lv [.int v] ws := by
  obtain ⟨rfl, rfl⟩ := hQ
  intro H locs ls hP hD hS hl
  refine W.widen hc hs ?_
  exact W.zret C.1.1 C.1.2.1 (C.2.2.2.2.2.trans hr) hn (fun t ht _ => q_okS hB hP hD hS ht) hS.2.2 hdg (hlocks := C.2.2.2.1)
theorem q_vret (C : Cx p s m args c meth cc nL ret Ts own D ct A) (hQ : qQ D B ws0 s args below mc ms A Q) (hr : ret = none) (hc : cells ≤ mc) (hs : slots ≤ ms) (hdg : decode cc pc = .ok (.return_, 1)) (hB : B none ws) :
    Cf p l e R s m args below meth c D A nL cells slots Q pc lv [] ws := by
  obtain ⟨rfl, rfl⟩ := hQ
  intro H locs ls hP hD hS hl
  refine W.widen hc hs ?_
  exact W.vret C.1.1 C.1.2.1 (C.2.2.2.2.2.trans hr) (fun t ht _ => q_okS hB hP hD hS ht) hS.2.2 hdg (hlocks := C.2.2.2.1)
theorem q_zretX (C : Cx p s m args c meth cc nL ret Ts own D ct A) (hQ : qQX D B X ws0 s args below mc ms A Q) {v : Int32} {ty : FieldType} (hr : ret = some ty) (hn : narrow ty (.int v) = .int v) (hc : cells ≤ mc) (hs : slots ≤ ms) (hdg : decode cc pc = .ok (.ireturn, 1)) (hB : B (some (.int v)) ws) :
    Cf p l e R s m args below meth c D A nL cells slots Q pc lv [.int v] ws := by
  obtain ⟨rfl, rfl⟩ := hQ
  intro H locs ls hP hD hS hl
  refine W.widen hc hs ?_
  exact vx_ret (W.zret C.1.1 C.1.2.1 (C.2.2.2.2.2.trans hr) hn (fun t ht _ => q_okS hB hP hD hS ht) hS.2.2 hdg (hlocks := C.2.2.2.1))
theorem q_vretX (C : Cx p s m args c meth cc nL ret Ts own D ct A) (hQ : qQX D B X ws0 s args below mc ms A Q) (hr : ret = none) (hc : cells ≤ mc) (hs : slots ≤ ms) (hdg : decode cc pc = .ok (.return_, 1)) (hB : B none ws) :
    Cf p l e R s m args below meth c D A nL cells slots Q pc lv [] ws := by
  obtain ⟨rfl, rfl⟩ := hQ
  intro H locs ls hP hD hS hl
  refine W.widen hc hs ?_
  exact vx_ret (W.vret C.1.1 C.1.2.1 (C.2.2.2.2.2.trans hr) (fun t ht _ => q_okS hB hP hD hS ht) hS.2.2 hdg (hlocks := C.2.2.2.1))
/-- a callee's exception leaves this method too -/
theorem q_outX (C : Cx p s m args c meth cc nL ret Ts own D ct A) (hQ : qQX D B X ws0 s args below mc ms A Q) (htab : ∀ x ∈ c.exceptionTable.toList, False) (hc : cells ≤ mc) (hs : slots ≤ ms) {E : String} (hX : X E ws) :
    CfX p l e R s m args below meth c D A nL cells slots Q pc lv st ws E := by
  obtain ⟨rfl, rfl⟩ := hQ
  intro H locs ls ce q hP hD hS hl h1 h2 h3
  exact vx_out (fun x hx => (htab x hx).elim) C.2.2.2.1 h1 h2 h3 (fun t ht _ => ⟨⟨ws, hX, by rw [ht]; exact hP, hD⟩, hS.F ht⟩) hS.2.2 hc hs
/-- behind a call: the callee's cells beside the rest -/
theorem q_back {H H1 : Heap} {locs locs1 : List Loc} {wc wr w1 w2 : va_W} (isC isR is2 : List Nat) (hC : isC.map (fun i => ws[i]?) = wc.map some) (hR : isR.map (fun i => ws[i]?) = wr.map some) (hnR : va_nd isR = true) (hdis : ∀ i ∈ isR, i ∉ isC) (h2 : is2.map (fun i => (wr ++ w1)[i]?) = w2.map some) (hn2 : va_nd is2 = true)
    (hP : va_P D vwCl ws H) (hD : va_D A ws) (hF : ∀ q, va_A wc H.size q → A q) (hk : ∀ q : Nat, q < H.size → ¬ va_A wc H.size q → H1[q]? = H[q]?) (hP1 : va_P D vwCl w1 H1) (hD1 : va_D (va_A wc H.size) w1) : va_P D vwCl w2 H1 ∧ va_D A w2 := by
  obtain ⟨a, b⟩ := va_join hP hD isC isR hC hR hnR hdis hk hF hP1 hD1
  exact ⟨a.sub is2 (q_fm h2), b.sub is2 hn2 h2⟩
theorem q_cut (C : Cx p s m args c meth cc nL ret Ts own D ct A) {H : Heap} {locs : List Loc} {wc : va_W} (isC : List Nat) (hC : isC.map (fun i => ws[i]?) = wc.map some) (hnC : va_nd isC = true) (hP : va_P D vwCl ws H) (hD : va_D A ws) (hS : va_S A s.heap H locs) {a' : Array Value} {As' : List Value} (ha : a' = As'.toArray) :
    (∀ q, va_A wc H.size q → A q) ∧ (∀ U : State, U.heap = H → s.WarmedH U.vm → qPre D ct As' wc H.size a' U) := by
  have hF := va_free hD hS C.2.2.1 isC hC
  refine ⟨hF, fun U hU hW => ⟨ha, by rw [hU], by rw [hU]; exact hP.sub isC (q_fm hC), qE.warm hW C.2.1, (hD.sub isC hnC hC).weaken (fun _ _ _ _ => trivial), ?_⟩⟩
  rw [hU]
  exact qZ.narrow (qZ.kept (qZ.moved hW.alike C.2.2.2.2.1) (fun q h1 h2 => hS.2.1 q h1 h2)) hF
/-- behind a call that returns -/
theorem q_ret {mc' ms' : Nat} {wc wr : va_W} (C : Cx p s m args c meth cc nL ret Ts own D ct A) {st0 : List Value} {a' : Array Value} {B' : Option Value → va_W → Prop} (isC isR : List Nat) (hC : isC.map (fun i => ws[i]?) = wc.map some) (hR : isR.map (fun i => ws[i]?) = wr.map some) (hnR : va_nd isR = true) (hnC : va_nd isC = true) (hdis : ∀ i ∈ isR, i ∉ isC)
    (hrun : ∀ (H : Heap) (locs : List Loc) (ls : Array Slot), va_P D vwCl ws H → va_D A ws → va_S A s.heap H locs → lv_has ls nL lv → va_Run p l e R s m args below meth c H locs cells slots mc' ms' (F0 m pc ls st0) st (qOk D B' wc H.size a') (va_A wc H.size))
    (kk : ∀ (r : Option Value) (w1 : va_W), B' r w1 → ∃ (w2 : va_W) (is2 : List Nat), is2.map (fun i => (wr ++ w1)[i]?) = w2.map some ∧ va_nd is2 = true ∧ Cf p l e R s m args below meth c D A nL (cells + mc') (slots + ms') Q (pc + 3) lv (r.toList ++ st) w2) :
    Cf p l e R s m args below meth c D A nL cells slots Q pc lv st0 ws := by
  intro H locs ls hP hD hS hl T hT X'
  have hF := va_free hD hS C.2.2.1 isC hC
  obtain ⟨v, st₀, t, T', L, h0, X', hL, e1, e2, ⟨⟨r, w1, hv, hb, hP1, hD1⟩, hz, hk⟩, stp⟩ := hrun H locs ls hP hD hS hl T hT X'
  cases hv
  rw [h0] at hz hk
  obtain ⟨w2, is2, h2, hn2, k2⟩ := kk v w1 hb
  obtain ⟨hP2, hD2⟩ := q_back isC isR is2 hC hR hnR hdis h2 hn2 hP hD hF hk hP1 hD1
  obtain ⟨t2, a1, b1⟩ := k2 T'.heap (locs ++ L) ls (by rw [e1]; exact hP2) hD2 ⟨Nat.le_trans hS.1 (by rw [e1]; exact hz), fun q h1 h2 => by rw [e1, hk q (Nat.lt_of_lt_of_le h1 hS.1) (fun z => h2 (hF q z))]; exact hS.2.1 q h1 h2, fun q hq => by
      rcases List.mem_append.mp hq with h | h
      · exact hS.2.2 q h
      · exact hF _ (hL q h)⟩ hl T' rfl X'
  exact ⟨t2, stp t2 a1, b1⟩
/-- behind a call that returns or throws -/
theorem q_retX {mc' ms' : Nat} {wc wr : va_W} (C : Cx p s m args c meth cc nL ret Ts own D ct A) {st0 : List Value} {a' : Array Value} {B' : Option Value → va_W → Prop} {X' : String → va_W → Prop} (isC isR : List Nat) (hC : isC.map (fun i => ws[i]?) = wc.map some) (hR : isR.map (fun i => ws[i]?) = wr.map some) (hnR : va_nd isR = true) (hnC : va_nd isC = true) (hdis : ∀ i ∈ isR, i ∉ isC)
    (hrun : ∀ (H : Heap) (locs : List Loc) (ls : Array Slot), va_P D vwCl ws H → va_D A ws → va_S A s.heap H locs → lv_has ls nL lv → vx_Run p l e R s m args below meth c H locs cells slots mc' ms' (F0 m pc ls st0) st (qOk D B' wc H.size a') (qXc D X' wc H.size) (va_A wc H.size))
    (kx : ∀ (E : String) (w1 : va_W), X' E w1 → ∃ (w2 : va_W) (is2 : List Nat), is2.map (fun i => (wr ++ w1)[i]?) = w2.map some ∧ va_nd is2 = true ∧ CfX p l e R s m args below meth c D A nL (cells + mc') (slots + ms') Q pc lv st w2 E)
    (kk : ∀ (r : Option Value) (w1 : va_W), B' r w1 → ∃ (w2 : va_W) (is2 : List Nat), is2.map (fun i => (wr ++ w1)[i]?) = w2.map some ∧ va_nd is2 = true ∧ Cf p l e R s m args below meth c D A nL (cells + mc') (slots + ms') Q (pc + 3) lv (r.toList ++ st) w2) :
    Cf p l e R s m args below meth c D A nL cells slots Q pc lv st0 ws := by
  intro H locs ls hP hD hS hl T hT XX
  have hF := va_free hD hS C.2.2.1 isC hC
  have hSn : ∀ {t T' : State} {L : List Loc}, T'.heap = t.heap → H.size ≤ t.heap.size → (∀ q : Nat, q < H.size → ¬ va_A wc H.size q → t.heap[q]? = H[q]?) → (∀ q ∈ L, va_A wc H.size q.base) → va_S A s.heap T'.heap (locs ++ L) := fun {t T' L} e1 hz hk hL => ⟨Nat.le_trans hS.1 (by rw [e1]; exact hz), fun q h1 h2 => by rw [e1, hk q (Nat.lt_of_lt_of_le h1 hS.1) (fun z => h2 (hF q z))]; exact hS.2.1 q h1 h2, fun q hq => by
      rcases List.mem_append.mp hq with h | h
      · exact hS.2.2 q h
      · exact hF _ (hL q h)⟩
  rcases hrun H locs ls hP hD hS hl T hT XX with ⟨v, st₀, t, T', L, h0, Y, hL, e1, e2, ⟨⟨r, w1, hv, hb, hP1, hD1⟩, hz, hk⟩, stp⟩ | ⟨q, st₀, t, T', L, E, ce, h0, Y, hL, e1, e2, ⟨⟨w1, hb, hP1, hD1⟩, hz, hk⟩, hce, hcv, hcl, stp⟩
  · cases hv
    rw [h0] at hz hk
    obtain ⟨w2, is2, h2, hn2, k2⟩ := kk v w1 hb
    obtain ⟨hP2, hD2⟩ := q_back isC isR is2 hC hR hnR hdis h2 hn2 hP hD hF hk hP1 hD1
    obtain ⟨t2, a1, b1⟩ := k2 T'.heap (locs ++ L) ls (by rw [e1]; exact hP2) hD2 (hSn e1 hz hk hL) hl T' rfl Y
    exact ⟨t2, stp t2 a1, b1⟩
  · rw [h0] at hz hk
    obtain ⟨w2, is2, h2, hn2, k2⟩ := kx E w1 hb
    obtain ⟨hP2, hD2⟩ := q_back isC isR is2 hC hR hnR hdis h2 hn2 hP hD hF hk hP1 hD1
    obtain ⟨t2, a1, b1⟩ := k2 T'.heap (locs ++ L) ls ce q (by rw [e1]; exact hP2) hD2 (hSn e1 hz hk hL) hl (by rw [e1]; exact hce) hcv hcl T' rfl Y
    exact ⟨t2, stp.trans a1, b1⟩
end QENDS
/-- what a method with one answer says -/
def qD (r : Option Value) (w : va_W) : Option Value → va_W → Prop := fun r' w' => r' = r ∧ w' = w
/-- .. and with one outcome: oc none: it returns; some E: it throws E; the world behind it is w -/
def qDo (oc : Option String) (r : Option Value) (w : va_W) : Option Value → va_W → Prop := fun r' w' => oc = none ∧ r' = r ∧ w' = w
def qDx (oc : Option String) (w : va_W) : String → va_W → Prop := fun E w' => oc = some E ∧ w' = w
end
section
/-! the packed walk: calls of methods with one answer -/
section QINV
variable {p : Program} {l : Launch} {e : Env} {R : Room} {s : State} {m : MethodId} {args : Array Value} {below : List Frame} {meth : Method} {c : Code} {D : va_G} {ct : Nat → ClassId} {A : Nat → Prop} {nL cells slots : Nat} {Q : State → Prop}
variable {cc : ByteArray} {ret : Option FieldType} {Ts : List Cond} {own : String} {pc pc2 : Nat} {lv lv' : List (Nat × Value)} {st st0 st2 : List Value} {ws : va_W}
variable {y : MethodName} {wy : List Cond} {rm : Room} {As : List Value} {b q0 ci N c2 s2 : Nat} {T : u_T} {fs : List Value} {wc w1 w2 : va_W} {mc ms n index maxL : Nat} {bytes : ByteArray} {ret' : Option FieldType} {C' host : String} {r : Option Value} {oc : Option String}
def qWr (ws : va_W) (isR : List Nat) : va_W := isR.filterMap (fun i => ws[i]?)
/-- an own or public method of an object -/
theorem q_cV (C : Cx p s m args c meth cc nL ret Ts own D ct A) (hM : qM l y wy rm D ct (.ref b :: As) wc (qD r w1) mc ms) (cw : CallW R s args own C' index y bytes maxL ret' wy rm mc ms n) (hrec : wc[q0]? = some (b, .inr (ci, fs))) (hcl : vwCl[ci]? = some (C', T, N)) (isC isR is2 : List Nat)
    (hC : isC.map (fun i => ws[i]?) = wc.map some) (hR : isR.map (fun i => ws[i]?) = (qWr ws isR).map some) (hnR : va_nd isR = true) (hnC : va_nd isC = true) (hdis : ∀ i ∈ isR, i ∉ isC) (h2 : is2.map (fun i => (qWr ws isR ++ w1)[i]?) = w2.map some) (hn2 : va_nd is2 = true)
    (hdg : decode cc pc = .ok (.invokevirtual index, 3)) (hst : st0 = As.reverse ++ .ref b :: st) (hn : As.length = n) (hW : (st.map fun v => v.category).sum ≤ 8) (hf : cells + mc ≤ R.cells ∧ slots + ms ≤ R.slots) (hc2 : cells + mc = c2) (hs2 : slots + ms = s2) (hst2 : r.toList ++ st = st2) (hpc : pc + 3 = pc2)
    (kk : Cf p l e R s m args below meth c D A nL c2 s2 Q pc2 lv st2 w2) : Cf p l e R s m args below meth c D A nL cells slots Q pc lv st0 ws := by
  subst hc2; subst hs2; subst hst2; subst hpc
  refine q_ret C isC isR hC hR hnR hnC hdis (B' := qD r w1) (a' := (.ref b :: As : List Value).toArray) (fun H locs ls hP hD hS hl => ?_) (fun r9 w9 hb => ⟨w2, is2, by rw [hb.2]; exact h2, hn2, by rw [hb.1]; exact kk⟩)
  obtain ⟨hF, hpre⟩ := q_cut C isC hC hnC hP hD hS (a' := (.ref b :: As : List Value).toArray) rfl
  exact va_runV (As := As) (b := b) C.1 (hM H.size) cw ⟨qPre.blind, va_recv C.2.1.1 (hP.sub isC (q_fm hC)) hcl hrec, hpre⟩ rfl hn hl.1 hst (lv_room hW) hdg hf
/-- a nest mate's private method -/
theorem q_cVN (C : Cx p s m args c meth cc nL ret Ts own D ct A) (hM : qM l y wy rm D ct (.ref b :: As) wc (qD r w1) mc ms) (cw : va_CN R s args own index y host bytes maxL ret' wy rm mc ms n ∧ (Cond.instanceMethod y).before args s = true ∧ (Cond.selects C' y y).before args s = true) (hrec : wc[q0]? = some (b, .inr (ci, fs))) (hcl : vwCl[ci]? = some (C', T, N)) (isC isR is2 : List Nat)
    (hC : isC.map (fun i => ws[i]?) = wc.map some) (hR : isR.map (fun i => ws[i]?) = (qWr ws isR).map some) (hnR : va_nd isR = true) (hnC : va_nd isC = true) (hdis : ∀ i ∈ isR, i ∉ isC) (h2 : is2.map (fun i => (qWr ws isR ++ w1)[i]?) = w2.map some) (hn2 : va_nd is2 = true)
    (hdg : decode cc pc = .ok (.invokevirtual index, 3)) (hst : st0 = As.reverse ++ .ref b :: st) (hn : As.length = n) (hW : (st.map fun v => v.category).sum ≤ 8) (hf : cells + mc ≤ R.cells ∧ slots + ms ≤ R.slots) (hc2 : cells + mc = c2) (hs2 : slots + ms = s2) (hst2 : r.toList ++ st = st2) (hpc : pc + 3 = pc2)
    (kk : Cf p l e R s m args below meth c D A nL c2 s2 Q pc2 lv st2 w2) : Cf p l e R s m args below meth c D A nL cells slots Q pc lv st0 ws := by
  subst hc2; subst hs2; subst hst2; subst hpc
  refine q_ret C isC isR hC hR hnR hnC hdis (B' := qD r w1) (a' := (.ref b :: As : List Value).toArray) (fun H locs ls hP hD hS hl => ?_) (fun r9 w9 hb => ⟨w2, is2, by rw [hb.2]; exact h2, hn2, by rw [hb.1]; exact kk⟩)
  obtain ⟨hF, hpre⟩ := q_cut C isC hC hnC hP hD hS (a' := (.ref b :: As : List Value).toArray) rfl
  exact va_runVN (As := As) (b := b) C.1 (hM H.size) cw ⟨qPre.blind, va_recv C.2.1.1 (hP.sub isC (q_fm hC)) hcl hrec, hpre⟩ rfl hn hl.1 hst (lv_room hW) hdg hf
/-- a static method -/
theorem q_cS (C : Cx p s m args c meth cc nL ret Ts own D ct A) (hM : qM l y wy rm D ct As wc (qD r w1) mc ms) (cw : CallB R s args own index y bytes maxL ret' wy rm mc ms n ∧ (Cond.static y).before args s = true) (isC isR is2 : List Nat)
    (hC : isC.map (fun i => ws[i]?) = wc.map some) (hR : isR.map (fun i => ws[i]?) = (qWr ws isR).map some) (hnR : va_nd isR = true) (hnC : va_nd isC = true) (hdis : ∀ i ∈ isR, i ∉ isC) (h2 : is2.map (fun i => (qWr ws isR ++ w1)[i]?) = w2.map some) (hn2 : va_nd is2 = true)
    (hdg : decode cc pc = .ok (.invokestatic index, 3)) (hst : st0 = As.reverse ++ st) (hn : As.length = n) (hW : (st.map fun v => v.category).sum ≤ 8) (hf : cells + mc ≤ R.cells ∧ slots + ms ≤ R.slots) (hc2 : cells + mc = c2) (hs2 : slots + ms = s2) (hst2 : r.toList ++ st = st2) (hpc : pc + 3 = pc2)
    (kk : Cf p l e R s m args below meth c D A nL c2 s2 Q pc2 lv st2 w2) : Cf p l e R s m args below meth c D A nL cells slots Q pc lv st0 ws := by
  subst hc2; subst hs2; subst hst2; subst hpc
  refine q_ret C isC isR hC hR hnR hnC hdis (B' := qD r w1) (a' := As.toArray) (fun H locs ls hP hD hS hl => ?_) (fun r9 w9 hb => ⟨w2, is2, by rw [hb.2]; exact h2, hn2, by rw [hb.1]; exact kk⟩)
  obtain ⟨hF, hpre⟩ := q_cut C isC hC hnC hP hD hS (a' := As.toArray) rfl
  exact va_runS (As := As) C.1 (hM H.size) cw ⟨qPre.blind, hpre⟩ rfl hn hl.1 hst (lv_room hW) hdg hf
/-- a nest mate's private static method -/
theorem q_cSN (C : Cx p s m args c meth cc nL ret Ts own D ct A) (hM : qM l y wy rm D ct As wc (qD r w1) mc ms) (cw : va_CN R s args own index y host bytes maxL ret' wy rm mc ms n ∧ (Cond.static y).before args s = true ∧ True) (isC isR is2 : List Nat)
    (hC : isC.map (fun i => ws[i]?) = wc.map some) (hR : isR.map (fun i => ws[i]?) = (qWr ws isR).map some) (hnR : va_nd isR = true) (hnC : va_nd isC = true) (hdis : ∀ i ∈ isR, i ∉ isC) (h2 : is2.map (fun i => (qWr ws isR ++ w1)[i]?) = w2.map some) (hn2 : va_nd is2 = true)
    (hdg : decode cc pc = .ok (.invokestatic index, 3)) (hst : st0 = As.reverse ++ st) (hn : As.length = n) (hW : (st.map fun v => v.category).sum ≤ 8) (hf : cells + mc ≤ R.cells ∧ slots + ms ≤ R.slots) (hc2 : cells + mc = c2) (hs2 : slots + ms = s2) (hst2 : r.toList ++ st = st2) (hpc : pc + 3 = pc2)
    (kk : Cf p l e R s m args below meth c D A nL c2 s2 Q pc2 lv st2 w2) : Cf p l e R s m args below meth c D A nL cells slots Q pc lv st0 ws := by
  subst hc2; subst hs2; subst hst2; subst hpc
  refine q_ret C isC isR hC hR hnR hnC hdis (B' := qD r w1) (a' := As.toArray) (fun H locs ls hP hD hS hl => ?_) (fun r9 w9 hb => ⟨w2, is2, by rw [hb.2]; exact h2, hn2, by rw [hb.1]; exact kk⟩)
  obtain ⟨hF, hpre⟩ := q_cut C isC hC hnC hP hD hS (a' := As.toArray) rfl
  exact va_runSN (As := As) C.1 (hM H.size) cw ⟨qPre.blind, hpre⟩ rfl hn hl.1 hst (lv_room hW) hdg hf
/-- an own or public method that may throw -/
theorem q_xV (C : Cx p s m args c meth cc nL ret Ts own D ct A) (hM : qMX l y wy rm D ct (.ref b :: As) wc (qDo oc r w1) (qDx oc w1) mc ms) (cw : CallW R s args own C' index y bytes maxL ret' wy rm mc ms n) (hrec : wc[q0]? = some (b, .inr (ci, fs))) (hcl : vwCl[ci]? = some (C', T, N)) (isC isR is2 : List Nat)
    (hC : isC.map (fun i => ws[i]?) = wc.map some) (hR : isR.map (fun i => ws[i]?) = (qWr ws isR).map some) (hnR : va_nd isR = true) (hnC : va_nd isC = true) (hdis : ∀ i ∈ isR, i ∉ isC) (h2 : is2.map (fun i => (qWr ws isR ++ w1)[i]?) = w2.map some) (hn2 : va_nd is2 = true)
    (hdg : decode cc pc = .ok (.invokevirtual index, 3)) (hst : st0 = As.reverse ++ .ref b :: st) (hn : As.length = n) (hW : (st.map fun v => v.category).sum ≤ 8) (hf : cells + mc ≤ R.cells ∧ slots + ms ≤ R.slots) (hc2 : cells + mc = c2) (hs2 : slots + ms = s2) (hst2 : r.toList ++ st = st2) (hpc : pc + 3 = pc2)
    (kx : ∀ E : String, oc = some E → CfX p l e R s m args below meth c D A nL c2 s2 Q pc lv st w2 E)
    (kk : oc = none → Cf p l e R s m args below meth c D A nL c2 s2 Q pc2 lv st2 w2) : Cf p l e R s m args below meth c D A nL cells slots Q pc lv st0 ws := by
  subst hc2; subst hs2; subst hst2; subst hpc
  refine q_retX C isC isR hC hR hnR hnC hdis (B' := qDo oc r w1) (X' := qDx oc w1) (a' := (.ref b :: As : List Value).toArray) (fun H locs ls hP hD hS hl => ?_) (fun E w9 hb => ⟨w2, is2, by rw [hb.2]; exact h2, hn2, kx E hb.1⟩) (fun r9 w9 hb => ⟨w2, is2, by rw [hb.2.2]; exact h2, hn2, by rw [hb.2.1]; exact kk hb.1⟩)
  obtain ⟨hF, hpre⟩ := q_cut C isC hC hnC hP hD hS (a' := (.ref b :: As : List Value).toArray) rfl
  exact vx_runV (As := As) (b := b) C.1 (hM H.size) cw ⟨qPre.blind, va_recv C.2.1.1 (hP.sub isC (q_fm hC)) hcl hrec, hpre⟩ rfl hn hl.1 hst (lv_room hW) hdg hf
/-- a static method that may throw -/
theorem q_xS (C : Cx p s m args c meth cc nL ret Ts own D ct A) (hM : qMX l y wy rm D ct As wc (qDo oc r w1) (qDx oc w1) mc ms) (cw : CallB R s args own index y bytes maxL ret' wy rm mc ms n ∧ (Cond.static y).before args s = true) (isC isR is2 : List Nat)
    (hC : isC.map (fun i => ws[i]?) = wc.map some) (hR : isR.map (fun i => ws[i]?) = (qWr ws isR).map some) (hnR : va_nd isR = true) (hnC : va_nd isC = true) (hdis : ∀ i ∈ isR, i ∉ isC) (h2 : is2.map (fun i => (qWr ws isR ++ w1)[i]?) = w2.map some) (hn2 : va_nd is2 = true)
    (hdg : decode cc pc = .ok (.invokestatic index, 3)) (hst : st0 = As.reverse ++ st) (hn : As.length = n) (hW : (st.map fun v => v.category).sum ≤ 8) (hf : cells + mc ≤ R.cells ∧ slots + ms ≤ R.slots) (hc2 : cells + mc = c2) (hs2 : slots + ms = s2) (hst2 : r.toList ++ st = st2) (hpc : pc + 3 = pc2)
    (kx : ∀ E : String, oc = some E → CfX p l e R s m args below meth c D A nL c2 s2 Q pc lv st w2 E)
    (kk : oc = none → Cf p l e R s m args below meth c D A nL c2 s2 Q pc2 lv st2 w2) : Cf p l e R s m args below meth c D A nL cells slots Q pc lv st0 ws := by
  subst hc2; subst hs2; subst hst2; subst hpc
  refine q_retX C isC isR hC hR hnR hnC hdis (B' := qDo oc r w1) (X' := qDx oc w1) (a' := As.toArray) (fun H locs ls hP hD hS hl => ?_) (fun E w9 hb => ⟨w2, is2, by rw [hb.2]; exact h2, hn2, kx E hb.1⟩) (fun r9 w9 hb => ⟨w2, is2, by rw [hb.2.2]; exact h2, hn2, by rw [hb.2.1]; exact kk hb.1⟩)
  obtain ⟨hF, hpre⟩ := q_cut C isC hC hnC hP hD hS (a' := As.toArray) rfl
  exact vx_runS (As := As) C.1 (hM H.size) cw ⟨qPre.blind, hpre⟩ rfl hn hl.1 hst (lv_room hW) hdg hf
/-- the law's own helper, which catches -/
theorem q_xH {hh : List (Nat × Nat × Nat × Nat)} (C : Cx p s m args c meth cc nL ret Ts own D ct A) (hM : qMX l y wy rm D ct As wc (qD r w1) (fun _ _ => False) mc ms) (cw : vx_CSW R s args own index y bytes maxL ret' hh wy rm mc ms n) (isC isR is2 : List Nat)
    (hC : isC.map (fun i => ws[i]?) = wc.map some) (hR : isR.map (fun i => ws[i]?) = (qWr ws isR).map some) (hnR : va_nd isR = true) (hnC : va_nd isC = true) (hdis : ∀ i ∈ isR, i ∉ isC) (h2 : is2.map (fun i => (qWr ws isR ++ w1)[i]?) = w2.map some) (hn2 : va_nd is2 = true)
    (hdg : decode cc pc = .ok (.invokestatic index, 3)) (hst : st0 = As.reverse ++ st) (hn : As.length = n) (hW : (st.map fun v => v.category).sum ≤ 8) (hf : cells + mc ≤ R.cells ∧ slots + ms ≤ R.slots) (hc2 : cells + mc = c2) (hs2 : slots + ms = s2) (hst2 : r.toList ++ st = st2) (hpc : pc + 3 = pc2)
    (kk : Cf p l e R s m args below meth c D A nL c2 s2 Q pc2 lv st2 w2) : Cf p l e R s m args below meth c D A nL cells slots Q pc lv st0 ws := by
  subst hc2; subst hs2; subst hst2; subst hpc
  refine q_retX C isC isR hC hR hnR hnC hdis (B' := qD r w1) (X' := fun _ _ => False) (a' := As.toArray) (fun H locs ls hP hD hS hl => ?_) (fun E w9 hb => hb.elim) (fun r9 w9 hb => ⟨w2, is2, by rw [hb.2]; exact h2, hn2, by rw [hb.1]; exact kk⟩)
  obtain ⟨hF, hpre⟩ := q_cut C isC hC hnC hP hD hS (a' := As.toArray) rfl
  exact vx_runSX (As := As) C.1 (hM H.size) cw ⟨qPre.blind, hpre⟩ rfl hn hl.1 hst (lv_room hW) hdg hf
end QINV
end
section
/-! the packed walk: Math.abs, and 'throw new E("text")' -/
section QMORE
variable {p : Program} {l : Launch} {e : Env} {R : Room} {s : State} {m : MethodId} {args : Array Value} {below : List Frame} {meth : Method} {c : Code} {D : va_G} {ct : Nat → ClassId} {A : Nat → Prop} {nL cells slots : Nat} {Q : State → Prop}
variable {cc : ByteArray} {ret : Option FieldType} {Ts : List Cond} {own : String} {pc pc2 : Nat} {lv lv' : List (Nat × Value)} {st : List Value} {ws : va_W}
theorem q_mabs (C : Cx p s m args c meth cc nL ret Ts own D ct A) {index : Nat} (hlink : (Cond.methodLink own index Lib.Math.abs.name).before args s = true) (hstat : (Cond.static Lib.Math.abs.name).before args s = true) (hini : (Cond.initialized "java/lang/Math").before args s = true) (hcode : (Cond.code Lib.Math.abs.name Lib.Math.abs.code 1 (some .int)).before args s = true)
    (hframes : 1 ≤ R.frames) (hlocals : (st.map fun v => v.category).sum + 13 ≤ R.locals) (hc : cells ≤ R.cells) (hs : slots ≤ R.slots) {x v : Int32} (hv : (if 0 ≤ x then x else 0 - x) = v) (hdg : decode cc pc = .ok (.invokestatic index, 3)) (hpc : pc + 3 = pc2)
    (k : Cf p l e R s m args below meth c D A nL cells slots Q pc2 lv (.int v :: st) ws) : Cf p l e R s m args below meth c D A nL cells slots Q pc lv (.int x :: st) ws := by
  subst hpc; subst hv
  intro H locs ls hP hD hS hl
  exact va_mabs C.1.1 C.1.2.1 (C.1.2.2.1.trans hl.1.symm) C.1.2.2.2.1 hlink hstat hini hcode hframes hlocals hc hs hdg (k H locs ls hP hD hS hl)
/-- throw new E("text"), E's superclasses up to Exception in names -/
theorem q_throwS (C : Cx p s m args c meth cc nL ret Ts own D ct A) (hl : l.stackTraces = false) {B : Option Value → va_W → Prop} {X : String → va_W → Prop} {ws0 : va_W} {mc ms : Nat} (hQ : qQX D B X ws0 s args below mc ms A Q) (htab : ∀ x ∈ c.exceptionTable.toList, False) {cls : String} {names : List String} {ik ic : Nat} (hown : own = "PlotPatch") (j : Nat) {is : Nat} {text : String} (hj : qST[j]? = some (is, text))
    (hcls : Bundle.fit cls = true) (hnames : ∀ n ∈ names, Bundle.fit n = true) (hk : (Cond.classLink own ik cls).before args s = true) (hini : (Cond.initialized cls).before args s = true) (hat : ∀ w ∈ vx_atS own ic cls names, w.before args s = true) (hgood : ∀ w ∈ Cond.classLink own ik cls :: Cond.initialized cls :: vx_atS own ic cls names, vx_ot w = true)
    (d0 : decode cc pc = .ok (.new ik, 3)) (d3 : decode cc (pc + 3) = .ok (.dup, 1)) (d4 : decode cc (pc + 4) = .ok (.ldc is, 2)) (d6 : decode cc (pc + 6) = .ok (.invokespecial ic, 3)) (d9 : decode cc (pc + 9) = .ok (.athrow, 1))
    (hRframes : names.length + 3 < R.frames) (hRlocals : (st.map fun v => v.category).sum + (13 * (names.length + 1) + 43) ≤ R.locals) (hRcells : cells + 1 ≤ R.cells) (hRslots : slots + 6 ≤ R.slots) (hc : cells + 1 ≤ mc) (hs : slots + 6 ≤ ms) (hX : X cls ws) :
    Cf p l e R s m args below meth c D A nL cells slots Q pc lv st ws := by
  obtain ⟨rfl, rfl⟩ := hQ
  obtain ⟨sa, hsa⟩ := C.2.1.2.2.2.1 _ (List.mem_of_getElem? hj)
  subst hown
  intro H locs ls hP hD hS hls
  refine vx_throwS (sa := sa) (text := text) C.1.1 C.1.2.1 hl C.1.2.2.2.1 hcls hnames hk hini hsa hat hgood C.2.2.2.2.1.1 C.2.2.2.2.1.2 hS (hls.1.trans C.1.2.2.1.symm) d0 d3 d4 d6 d9 (fun x hx => (htab x hx).elim) hRframes hRlocals hRcells hRslots C.2.2.2.1 (fun t ht h1 h2 => ?_) hS.2.2 hc hs
  have hk1 : ∀ (k : Nat) (x : Nat × va_E), ws[k]? = some x → t.heap[x.1]? = H[x.1]? := fun k x hx => h2 x.1 ((hP k x hx).lt)
  exact ⟨⟨ws, hX, hP.kept hk1, hD⟩, Nat.le_trans hS.1 h1, fun q q1 q2 => by rw [h2 q (Nat.lt_of_lt_of_le q1 hS.1)]; exact hS.2.1 q q1 q2⟩
end QMORE
/-- the words of the throws that a method's own list can't hold -/
theorem q_atS {args : Array Value} {s : State} {own cls : String} {ic : Nat} {names : List String} (h1 : ∀ w ∈ (vx_atS own ic cls names).filter goodWord, w.before args s = true) (h2 : ∀ w ∈ (vx_atS own ic cls names).filter (fun w => !goodWord w), w ∈ [Cond.castable cls cls]) (h3 : va_Nw (.castable cls cls) s) : ∀ w ∈ vx_atS own ic cls names, w.before args s = true :=
  vx_hat h1 h2 (vx_c (va_Nw.use rfl h3) vx_n)
theorem q_test1 : ∀ w ∈ (vx_atS RX3 49 "java/lang/IndexOutOfBoundsException" ["java/lang/RuntimeException", "java/lang/Exception"]).filter (fun w => !goodWord w), w ∈ [Cond.castable "java/lang/IndexOutOfBoundsException" "java/lang/IndexOutOfBoundsException"] := by decide +kernel
theorem q_test2 : ∀ w ∈ Cond.classLink RX3 45 "java/lang/IndexOutOfBoundsException" :: Cond.initialized "java/lang/IndexOutOfBoundsException" :: vx_atS RX3 49 "java/lang/IndexOutOfBoundsException" ["java/lang/RuntimeException", "java/lang/Exception"], vx_ot w = true := by decide +kernel
end
section
/-! the worlds: what the cells of the system and of the reference hold; a state is a family of rows of numbers, a single number being its row's place 0 -/
def wR (ct : Nat → ClassId) (a : Nat → Nat) (x : Nat → Nat → Int32) : va_W := [(a 31, .inr (1, [.int (x 4 0), .ref (a 5), .ref (a 6), .ref (a 7), .ref (a 8), .ref (a 9), .ref (a 10), .ref (a 11)])), (a 5, .inl (ct 0, 2, .inl (x 5))), (a 6, .inl (ct 0, 8, .inl (x 6))), (a 7, .inl (ct 0, 8, .inl (x 7))), (a 8, .inl (ct 0, 10, .inl (x 8))), (a 9, .inl (ct 0, 10, .inl (x 9))), (a 10, .inl (ct 0, 10, .inl (x 10))), (a 11, .inl (ct 0, 10, .inl (x 11)))]
def wB (ct : Nat → ClassId) (a : Nat → Nat) (x : Nat → Nat → Int32) : va_W := [(a 32, .inr (0, [.ref (a 12), .ref (a 13), .ref (a 14), .ref (a 15)])), (a 12, .inl (ct 0, 10, .inl (x 12))), (a 13, .inl (ct 0, 10, .inl (x 13))), (a 14, .inl (ct 0, 10, .inl (x 14))), (a 15, .inl (ct 0, 10, .inl (x 15)))]
def wS (ct : Nat → ClassId) (a : Nat → Nat) (x : Nat → Nat → Int32) : va_W := [(a 33, .inr (2, [.int (x 16 0), .ref (a 17), .ref (a 18), .ref (a 19), .ref (a 20), .int (x 21 0), .int (x 22 0), .ref (a 23), .ref (a 24), .ref (a 25), .ref (a 26)])), (a 17, .inl (ct 0, 8, .inl (x 17))), (a 18, .inl (ct 0, 8, .inl (x 18))), (a 19, .inl (ct 0, 8, .inl (x 19))), (a 20, .inl (ct 0, 80, .inl (x 20))), (a 23, .inl (ct 0, 8, .inl (x 23))), (a 24, .inl (ct 0, 10, .inl (x 24))), (a 25, .inl (ct 0, 10, .inl (x 25))), (a 26, .inl (ct 0, 10, .inl (x 26)))]
def wX (ct : Nat → ClassId) (a : Nat → Nat) (x : Nat → Nat → Int32) : va_W := [(a 30, .inr (3, [.int (x 0 0), .ref (a 1), .ref (a 2), .ref (a 3), .ref (a 31), .ref (a 32), .ref (a 33)])), (a 1, .inl (ct 0, 10, .inl (x 1))), (a 2, .inl (ct 0, 10, .inl (x 2))), (a 3, .inl (ct 1, 10, .inl (x 3))), (a 31, .inr (1, [.int (x 4 0), .ref (a 5), .ref (a 6), .ref (a 7), .ref (a 8), .ref (a 9), .ref (a 10), .ref (a 11)])), (a 5, .inl (ct 0, 2, .inl (x 5))), (a 6, .inl (ct 0, 8, .inl (x 6))), (a 7, .inl (ct 0, 8, .inl (x 7))), (a 8, .inl (ct 0, 10, .inl (x 8))), (a 9, .inl (ct 0, 10, .inl (x 9))), (a 10, .inl (ct 0, 10, .inl (x 10))), (a 11, .inl (ct 0, 10, .inl (x 11))), (a 32, .inr (0, [.ref (a 12), .ref (a 13), .ref (a 14), .ref (a 15)])), (a 12, .inl (ct 0, 10, .inl (x 12))), (a 13, .inl (ct 0, 10, .inl (x 13))), (a 14, .inl (ct 0, 10, .inl (x 14))), (a 15, .inl (ct 0, 10, .inl (x 15))), (a 33, .inr (2, [.int (x 16 0), .ref (a 17), .ref (a 18), .ref (a 19), .ref (a 20), .int (x 21 0), .int (x 22 0), .ref (a 23), .ref (a 24), .ref (a 25), .ref (a 26)])), (a 17, .inl (ct 0, 8, .inl (x 17))), (a 18, .inl (ct 0, 8, .inl (x 18))), (a 19, .inl (ct 0, 8, .inl (x 19))), (a 20, .inl (ct 0, 80, .inl (x 20))), (a 23, .inl (ct 0, 8, .inl (x 23))), (a 24, .inl (ct 0, 10, .inl (x 24))), (a 25, .inl (ct 0, 10, .inl (x 25))), (a 26, .inl (ct 0, 10, .inl (x 26)))]
def wM (ct : Nat → ClassId) (b : Nat → Nat) (y : Nat → Nat → Int32) : va_W := [(b 30, .inr (4, [.int (y 0 0), .ref (b 1), .ref (b 2), .ref (b 3), .int (y 4 0), .ref (b 5), .ref (b 6), .ref (b 7), .ref (b 8), .ref (b 9), .ref (b 10), .ref (b 11), .ref (b 12), .ref (b 13), .ref (b 14), .ref (b 15), .ref (b 16), .ref (b 17), .int (y 18 0), .ref (b 19), .ref (b 20), .ref (b 21), .ref (b 22), .int (y 23 0), .int (y 24 0), .int (y 25 0), .ref (b 26), .int (y 27 0)])), (b 1, .inl (ct 0, 2, .inl (y 1))), (b 2, .inl (ct 0, 8, .inl (y 2))), (b 3, .inl (ct 0, 8, .inl (y 3))), (b 5, .inl (ct 0, 10, .inl (y 5))), (b 6, .inl (ct 0, 10, .inl (y 6))), (b 7, .inl (ct 0, 10, .inl (y 7))), (b 8, .inl (ct 0, 10, .inl (y 8))), (b 9, .inl (ct 0, 10, .inl (y 9))), (b 10, .inl (ct 0, 10, .inl (y 10))), (b 11, .inl (ct 1, 10, .inl (y 11))), (b 12, .inl (ct 0, 10, .inl (y 12))), (b 13, .inl (ct 0, 10, .inl (y 13))), (b 14, .inl (ct 0, 10, .inl (y 14))), (b 15, .inl (ct 0, 10, .inl (y 15))), (b 16, .inl (ct 0, 10, .inl (y 16))), (b 17, .inl (ct 0, 10, .inl (y 17))), (b 19, .inl (ct 0, 8, .inl (y 19))), (b 20, .inl (ct 0, 8, .inl (y 20))), (b 21, .inl (ct 0, 8, .inl (y 21))), (b 22, .inl (ct 0, 80, .inl (y 22))), (b 26, .inl (ct 0, 10, .inl (y 26)))]
def b2 (c : Prop) [Decidable c] : Int32 := if c then 1 else 0
theorem b2_t {c : Prop} [Decidable c] (h : c) : b2 c = 1 := if_pos h
theorem b2_f {c : Prop} [Decidable c] (h : ¬ c) : b2 c = 0 := if_neg h
theorem b2_nar (c : Prop) [Decidable c] : narrow .boolean (.int (b2 c)) = .int (b2 c) := by unfold b2; split <;> rfl
theorem b2_ne {c : Prop} [Decidable c] : ¬ b2 c = 0 ↔ c := by unfold b2; split <;> rename_i h <;> simp [h]
theorem b2_eq {c : Prop} [Decidable c] : b2 c = 0 ↔ ¬ c := by unfold b2; split <;> rename_i h <;> simp [h]
theorem upd_s {f : Nat → Int32} {k : Nat} {v : Int32} : upd f k v k = v := pk_us
theorem upd_n {f : Nat → Int32} {k j : Nat} {v : Int32} (h : j ≠ k) : upd f k v j = f j := pk_un h
/-- the first place from i on, among k, where p holds -/
def fnd (p : Nat → Prop) [DecidablePred p] : Nat → Nat → Int32
  | 0, _ => -1
  | k + 1, i => if p i then nI i else fnd p k (i + 1)
def sumf (f : Nat → Int32) : Nat → Int32
  | 0 => 0
  | k + 1 => sumf f k + f k
theorem q_absurd {P : Prop} {a b : Nat} (h : nI a ≤ nI b) (h1 : b < a) (h2 : a < 2 ^ 31) : P := absurd ((nI_leI h2 (Nat.lt_trans h1 h2)).mp h) (Nat.not_le.mpr h1)
end
section
set_option maxHeartbeats 4000000 in
set_option maxRecDepth 100000 in
theorem c_X1_cell (l : Launch) (D : va_G) (ct : Nat → ClassId) (hh bb : Int32) : qM l yX1_cell wsX1_cell ({ frames := 0, cells := 0, slots := 0, locals := 0 }) D ct [.int hh, .int bb] [] (qD (some (.int ((hh * 4) + bb))) []) 0 0 := by
  refine q_start (ret := some .int) (lv := [(0, .int hh), (1, .int bb)]) (by decide +kernel) rfl (Nat.le_of_ble_eq_true rfl) rfl ?_
  intro p e s m args below meth c A Q C hQ hnm
  refine q_iload_n (pc2 := 1) C 0 dX1_cell_0 rfl rfl rfl ?_
  refine q_iconst (v := 4) (pc2 := 2) C dX1_cell_1 (by decide) rfl ?_
  refine q_imul (pc2 := 3) C dX1_cell_2 rfl rfl ?_
  refine q_iload_n (pc2 := 4) C 1 dX1_cell_3 rfl rfl rfl ?_
  refine q_iadd (pc2 := 5) C dX1_cell_4 rfl rfl ?_
  exact q_zret C hQ rfl (rfl) (by decide) (by decide) dX1_cell_5 ⟨rfl, rfl⟩

set_option maxHeartbeats 4000000 in
set_option maxRecDepth 100000 in
theorem c_X1_hangs (l : Launch) (D : va_G) (ct : Nat → ClassId) (a : Nat → Nat) (x : Nat → Nat → Int32) (i : Nat) (hi : i < 10) : qM l yX1_hangs wsX1_hangs ({ frames := 0, cells := 0, slots := 0, locals := 0 }) D ct [.ref (a 31), .int (nI i)] (wR ct a x) (qD (some (.int (b2 (x 9 i ≠ -1)))) (wR ct a x)) 0 0 := by
  refine q_start (ret := some .boolean) (lv := [(0, .ref (a 31)), (1, .int (nI i))]) (by decide +kernel) rfl (Nat.le_of_ble_eq_true rfl) rfl ?_
  intro p e s m args below meth c A Q C hQ hnm
  have hT1 : ∀ w ∈ u_ws RX1 TX1 8, w ∈ wsX1_hangs := by decide +kernel
  have f28 : (Cond.fieldLink RX1 28 "PlotPatch$Rig" "bars" "[I").before args s = true := C.w _ (by decide +kernel)
  refine q_aload_n (pc2 := 1) C 0 dX1_hangs_0 rfl rfl rfl ?_
  refine q_get (q0 := 0) (k := 5) (v := .ref (a 9)) (pc2 := 4) C hT1 f28 rfl rfl (by decide) rfl rfl dX1_hangs_1 rfl ?_
  refine q_iload_n (pc2 := 5) C 1 dX1_hangs_4 rfl rfl rfl ?_
  refine q_iald (q0 := 5) (f := (x 9)) (pc2 := 6) C i rfl rfl (rfl) (by omega) (by decide) dX1_hangs_5 rfl ?_
  refine q_iconst (v := (-1)) (pc2 := 7) C dX1_hangs_6 (by decide) rfl ?_
  refine q_icmp_eq (tgt := 14) (pc2 := 10) C dX1_hangs_7 (by decide) rfl (fun c7_1 => ?_) (fun c7_1 => ?_)
  · skip
    refine q_iconst (v := 0) (pc2 := 15) C dX1_hangs_14 (by decide) rfl ?_
    exact q_zret C hQ rfl (rfl) (by decide) (by decide) dX1_hangs_15 ⟨by simp [b2, *], rfl⟩
  · skip
    refine q_iconst (v := 1) (pc2 := 11) C dX1_hangs_10 (by decide) rfl ?_
    refine q_goto (pc2 := 15) C dX1_hangs_11 (by decide) ?_
    exact q_zret C hQ rfl (rfl) (by decide) (by decide) dX1_hangs_15 ⟨by simp [b2, *], rfl⟩

set_option maxHeartbeats 4000000 in
set_option maxRecDepth 100000 in
theorem c_X1_hasBar (l : Launch) (D : va_G) (ct : Nat → ClassId) (a : Nat → Nat) (x : Nat → Nat → Int32) (h : Nat) (hh : x 4 0 = nI h) (hlt : h < 2) (bar : Int32) : qM l yX1_hasBar wsX1_hasBar ({ frames := 0, cells := 0, slots := 0, locals := 0 }) D ct [.ref (a 31), .int bar] (wR ct a x) (qD (some (.int (b2 (0 ≤ bar ∧ bar < x 5 h)))) (wR ct a x)) 0 0 := by
  refine q_start (ret := some .boolean) (lv := [(0, .ref (a 31)), (1, .int bar)]) (by decide +kernel) rfl (Nat.le_of_ble_eq_true rfl) rfl ?_
  intro p e s m args below meth c A Q C hQ hnm
  have hT1 : ∀ w ∈ u_ws RX1 TX1 8, w ∈ wsX1_hasBar := by decide +kernel
  have f15 : (Cond.fieldLink RX1 15 "PlotPatch$Rig" "barCounts" "[I").before args s = true := C.w _ (by decide +kernel)
  have f9 : (Cond.fieldLink RX1 9 "PlotPatch$Rig" "house" "I").before args s = true := C.w _ (by decide +kernel)
  refine q_iload_n (pc2 := 1) C 1 dX1_hasBar_0 rfl rfl rfl ?_
  refine q_if_lt (tgt := 21) (pc2 := 4) C dX1_hasBar_1 (by decide) rfl (fun c1_1 => ?_) (fun c1_1 => ?_)
  · skip
    refine q_iconst (v := 0) (pc2 := 22) C dX1_hasBar_21 (by decide) rfl ?_
    exact q_zret C hQ rfl (rfl) (by decide) (by decide) dX1_hasBar_22 ⟨by simp [b2, *], rfl⟩
  · skip
    refine q_iload_n (pc2 := 5) C 1 dX1_hasBar_4 rfl rfl rfl ?_
    refine q_aload_n (pc2 := 6) C 0 dX1_hasBar_5 rfl rfl rfl ?_
    refine q_get (q0 := 0) (k := 1) (v := .ref (a 5)) (pc2 := 9) C hT1 f15 rfl rfl (by decide) rfl rfl dX1_hasBar_6 rfl ?_
    refine q_aload_n (pc2 := 10) C 0 dX1_hasBar_9 rfl rfl rfl ?_
    refine q_get (q0 := 0) (k := 0) (v := .int (x 4 0)) (pc2 := 13) C hT1 f9 rfl rfl (by decide) rfl rfl dX1_hasBar_10 rfl ?_
    refine q_iald (q0 := 1) (f := (x 5)) (pc2 := 14) C h rfl rfl (hh) (hlt) (by decide) dX1_hasBar_13 rfl ?_
    refine q_icmp_ge (tgt := 21) (pc2 := 17) C dX1_hasBar_14 (by decide) rfl (fun c14_2 => ?_) (fun c14_2 => ?_)
    · skip
      refine q_iconst (v := 0) (pc2 := 22) C dX1_hasBar_21 (by decide) rfl ?_
      exact q_zret C hQ rfl (rfl) (by decide) (by decide) dX1_hasBar_22 ⟨by simp [b2, *], rfl⟩
    · skip
      refine q_iconst (v := 1) (pc2 := 18) C dX1_hasBar_17 (by decide) rfl ?_
      refine q_goto (pc2 := 22) C dX1_hasBar_18 (by decide) ?_
      exact q_zret C hQ rfl (rfl) (by decide) (by decide) dX1_hasBar_22 ⟨by simp [b2, *], rfl⟩

set_option maxHeartbeats 4000000 in
set_option maxRecDepth 100000 in
theorem c_X1_put (l : Launch) (D : va_G) (ct : Nat → ClassId) (a : Nat → Nat) (x : Nat → Nat → Int32) (i : Nat) (hi : i < 10) (bar place : Int32) : qM l yX1_put wsX1_put ({ frames := 0, cells := 0, slots := 0, locals := 0 }) D ct [.ref (a 31), .int (nI i), .int bar, .int place] (wR ct a x) (qD none (wR ct a (set2 (set2 x 9 (upd (x 9) i bar)) 11 (upd (x 11) i place)))) 0 0 := by
  refine q_start (ret := none) (lv := [(0, .ref (a 31)), (1, .int (nI i)), (2, .int bar), (3, .int place)]) (by decide +kernel) rfl (Nat.le_of_ble_eq_true rfl) rfl ?_
  intro p e s m args below meth c A Q C hQ hnm
  have hT1 : ∀ w ∈ u_ws RX1 TX1 8, w ∈ wsX1_put := by decide +kernel
  have f28 : (Cond.fieldLink RX1 28 "PlotPatch$Rig" "bars" "[I").before args s = true := C.w _ (by decide +kernel)
  have f40 : (Cond.fieldLink RX1 40 "PlotPatch$Rig" "places" "[I").before args s = true := C.w _ (by decide +kernel)
  refine q_aload_n (pc2 := 1) C 0 dX1_put_0 rfl rfl rfl ?_
  refine q_get (q0 := 0) (k := 5) (v := .ref (a 9)) (pc2 := 4) C hT1 f28 rfl rfl (by decide) rfl rfl dX1_put_1 rfl ?_
  refine q_iload_n (pc2 := 5) C 1 dX1_put_4 rfl rfl rfl ?_
  refine q_iload_n (pc2 := 6) C 2 dX1_put_5 rfl rfl rfl ?_
  refine q_iast (q0 := 5) (f := (x 9)) (ws' := (wR ct a (set2 x 9 (upd (x 9) i bar)))) (pc2 := 7) C i rfl rfl (rfl) (by omega) (by decide) rfl dX1_put_6 rfl ?_
  refine q_aload_n (pc2 := 8) C 0 dX1_put_7 rfl rfl rfl ?_
  refine q_get (q0 := 0) (k := 7) (v := .ref (a 11)) (pc2 := 11) C hT1 f40 rfl rfl (by decide) rfl rfl dX1_put_8 rfl ?_
  refine q_iload_n (pc2 := 12) C 1 dX1_put_11 rfl rfl rfl ?_
  refine q_iload_n (pc2 := 13) C 3 dX1_put_12 rfl rfl rfl ?_
  refine q_iast (q0 := 7) (f := (x 11)) (ws' := (wR ct a (set2 (set2 x 9 (upd (x 9) i bar)) 11 (upd (x 11) i place)))) (pc2 := 14) C i rfl rfl (rfl) (by omega) (by decide) rfl dX1_put_13 rfl ?_
  exact q_vret C hQ rfl (by decide) (by decide) dX1_put_14 ⟨rfl, rfl⟩

set_option maxHeartbeats 4000000 in
set_option maxRecDepth 100000 in
theorem c_X1_weightOn (l : Launch) (D : va_G) (ct : Nat → ClassId) (a : Nat → Nat) (x : Nat → Nat → Int32) (bar : Int32) : qM l yX1_weightOn wsX1_weightOn ({ frames := 0, cells := 0, slots := 0, locals := 0 }) D ct [.ref (a 31), .int bar] (wR ct a x) (qD (some (.int (sumf (fun k => if x 9 k = bar then x 8 k else 0) 10))) (wR ct a x)) 0 0 := by
  refine q_start (ret := some .int) (lv := [(0, .ref (a 31)), (1, .int bar)]) (by decide +kernel) rfl (Nat.le_of_ble_eq_true rfl) rfl ?_
  intro p e s m args below meth c A Q C hQ hnm
  have hT1 : ∀ w ∈ u_ws RX1 TX1 8, w ∈ wsX1_weightOn := by decide +kernel
  have f28 : (Cond.fieldLink RX1 28 "PlotPatch$Rig" "bars" "[I").before args s = true := C.w _ (by decide +kernel)
  have f25 : (Cond.fieldLink RX1 25 "PlotPatch$Rig" "weights" "[I").before args s = true := C.w _ (by decide +kernel)
  refine q_iconst (v := 0) (pc2 := 1) C dX1_weightOn_0 (by decide) rfl ?_
  refine q_istore_n (lv' := [(2, .int 0), (0, .ref (a 31)), (1, .int bar)]) (pc2 := 2) C dX1_weightOn_1 rfl (by decide) rfl rfl ?_
  refine q_iconst (v := 0) (pc2 := 3) C dX1_weightOn_2 (by decide) rfl ?_
  refine q_istore_n (lv' := [(3, .int 0), (2, .int 0), (0, .ref (a 31)), (1, .int bar)]) (pc2 := 4) C dX1_weightOn_3 rfl (by decide) rfl rfl ?_
  refine q_lv (lv' := [(3, .int 0), (2, .int 0), (0, .ref (a 31)), (1, .int bar)]) [0, 1, 2, 3] rfl ?_
  refine lp_up (P := fun i => Cf p l e _ s m args below meth c D A 4 0 0 Q 4 [(3, .int (nI i)), (2, .int (sumf (fun k => if x 9 k = bar then x 8 k else 0) i)), (0, .ref (a 31)), (1, .int bar)] [] (wR ct a x)) (10) (fun i hi ihi => ?_) ?_
  · skip
    refine q_iload_n (pc2 := 5) C 0 dX1_weightOn_4 rfl rfl rfl ?_
    refine q_bipush (v := 10) (pc2 := 7) C dX1_weightOn_5 (by decide) rfl ?_
    refine q_icmp_ge (tgt := 35) (pc2 := 10) C dX1_weightOn_7 (by decide) rfl (fun c7_1 => (q_absurd (a := 10) (b := i) c7_1 hi (by decide))) (fun _ => ?_)
    refine q_aload_n (pc2 := 11) C 2 dX1_weightOn_10 rfl rfl rfl ?_
    refine q_get (q0 := 0) (k := 5) (v := .ref (a 9)) (pc2 := 14) C hT1 f28 rfl rfl (by decide) rfl rfl dX1_weightOn_11 rfl ?_
    refine q_iload_n (pc2 := 15) C 0 dX1_weightOn_14 rfl rfl rfl ?_
    refine q_iald (q0 := 5) (f := (x 9)) (pc2 := 16) C i rfl rfl (rfl) (by omega) (by decide) dX1_weightOn_15 rfl ?_
    refine q_iload_n (pc2 := 17) C 3 dX1_weightOn_16 rfl rfl rfl ?_
    refine q_icmp_ne (tgt := 29) (pc2 := 20) C dX1_weightOn_17 (by decide) rfl (fun c17_2 => ?_) (fun c17_2 => ?_)
    · skip
      refine q_iinc (v := nI (i + 1)) (lv' := [(3, .int (nI (i + 1))), (2, .int (sumf (fun k => if x 9 k = bar then x 8 k else 0) i)), (0, .ref (a 31)), (1, .int bar)]) (pc2 := 32) C 0 dX1_weightOn_29 rfl (nI_1 i) (by decide) rfl rfl ?_
      refine q_goto (pc2 := 4) C dX1_weightOn_32 (by decide) ?_
      refine q_lv (lv' := [(3, .int (nI (i + 1))), (2, .int (sumf (fun k => if x 9 k = bar then x 8 k else 0) i)), (0, .ref (a 31)), (1, .int bar)]) [0, 1, 2, 3] rfl ?_
      refine q_eql (lv' := [(3, .int (nI (i + 1))), (2, .int (sumf (fun k => if x 9 k = bar then x 8 k else 0) (i + 1))), (0, .ref (a 31)), (1, .int bar)]) (by simp [sumf, *]) ?_
      exact ihi
    · skip
      refine q_iload_n (pc2 := 21) C 1 dX1_weightOn_20 rfl rfl rfl ?_
      refine q_aload_n (pc2 := 22) C 2 dX1_weightOn_21 rfl rfl rfl ?_
      refine q_get (q0 := 0) (k := 4) (v := .ref (a 8)) (pc2 := 25) C hT1 f25 rfl rfl (by decide) rfl rfl dX1_weightOn_22 rfl ?_
      refine q_iload_n (pc2 := 26) C 0 dX1_weightOn_25 rfl rfl rfl ?_
      refine q_iald (q0 := 4) (f := (x 8)) (pc2 := 27) C i rfl rfl (rfl) (by omega) (by decide) dX1_weightOn_26 rfl ?_
      refine q_iadd (pc2 := 28) C dX1_weightOn_27 rfl rfl ?_
      refine q_istore_n (lv' := [(2, .int ((sumf (fun k => if x 9 k = bar then x 8 k else 0) i) + ((x 8) i))), (3, .int (nI i)), (0, .ref (a 31)), (1, .int bar)]) (pc2 := 29) C dX1_weightOn_28 rfl (by decide) rfl rfl ?_
      refine q_iinc (v := nI (i + 1)) (lv' := [(3, .int (nI (i + 1))), (2, .int ((sumf (fun k => if x 9 k = bar then x 8 k else 0) i) + ((x 8) i))), (0, .ref (a 31)), (1, .int bar)]) (pc2 := 32) C 1 dX1_weightOn_29 rfl (nI_1 i) (by decide) rfl rfl ?_
      refine q_goto (pc2 := 4) C dX1_weightOn_32 (by decide) ?_
      refine q_lv (lv' := [(3, .int (nI (i + 1))), (2, .int ((sumf (fun k => if x 9 k = bar then x 8 k else 0) i) + ((x 8) i))), (0, .ref (a 31)), (1, .int bar)]) [0, 1, 2, 3] rfl ?_
      refine q_eql (lv' := [(3, .int (nI (i + 1))), (2, .int (sumf (fun k => if x 9 k = bar then x 8 k else 0) (i + 1))), (0, .ref (a 31)), (1, .int bar)]) (by simp [sumf, *]) ?_
      exact ihi
  · skip
    refine q_iload_n (pc2 := 5) C 0 dX1_weightOn_4 rfl rfl rfl ?_
    refine q_bipush (v := 10) (pc2 := 7) C dX1_weightOn_5 (by decide) rfl ?_
    refine q_icmp_ge (tgt := 35) (pc2 := 10) C dX1_weightOn_7 (by decide) rfl (fun _ => ?_) (fun c7_3 => (absurd (nI_le (Nat.le_refl (10)) (by decide)) c7_3))
    refine q_iload_n (pc2 := 36) C 1 dX1_weightOn_35 rfl rfl rfl ?_
    exact q_zret C hQ rfl (rfl) (by decide) (by decide) dX1_weightOn_36 ⟨rfl, rfl⟩
end
