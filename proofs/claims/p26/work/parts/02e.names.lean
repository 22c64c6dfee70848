set_option maxRecDepth 20000 in
theorem gX3_standIn_X2_handOver_n198 : GoodIn wsX3_standIn (wsX2_handOver) := ggX3_standIn_X2_handOver
theorem dX3_standIn_0 : decode cX3_standIn 0 = .ok (.aload_n 0, 1) := by decide +kernel
theorem dX3_standIn_1 : decode cX3_standIn 1 = .ok (.iload_n 1, 1) := by decide +kernel
theorem dX3_standIn_2 : decode cX3_standIn 2 = .ok (.invokevirtual 89, 3) := by decide +kernel
theorem dX3_standIn_5 : decode cX3_standIn 5 = .ok (.aload_n 0, 1) := by decide +kernel
theorem dX3_standIn_6 : decode cX3_standIn 6 = .ok (.iload_n 2, 1) := by decide +kernel
theorem dX3_standIn_7 : decode cX3_standIn 7 = .ok (.invokevirtual 89, 3) := by decide +kernel
theorem dX3_standIn_10 : decode cX3_standIn 10 = .ok (.iload_n 1, 1) := by decide +kernel
theorem dX3_standIn_11 : decode cX3_standIn 11 = .ok (.iload_n 2, 1) := by decide +kernel
theorem dX3_standIn_12 : decode cX3_standIn 12 = .ok (.if_icmp .ne 13, 3) := by decide +kernel
theorem dX3_standIn_15 : decode cX3_standIn 15 = .ok (.new 191, 3) := by decide +kernel
theorem dX3_standIn_18 : decode cX3_standIn 18 = .ok (.dup, 1) := by decide +kernel
theorem dX3_standIn_19 : decode cX3_standIn 19 = .ok (.ldc 193, 2) := by decide +kernel
theorem dX3_standIn_21 : decode cX3_standIn 21 = .ok (.invokespecial 195, 3) := by decide +kernel
theorem dX3_standIn_24 : decode cX3_standIn 24 = .ok (.athrow, 1) := by decide +kernel
theorem dX3_standIn_25 : decode cX3_standIn 25 = .ok (.aload_n 0, 1) := by decide +kernel
theorem dX3_standIn_26 : decode cX3_standIn 26 = .ok (.getfield 20, 3) := by decide +kernel
theorem dX3_standIn_29 : decode cX3_standIn 29 = .ok (.iload_n 1, 1) := by decide +kernel
theorem dX3_standIn_30 : decode cX3_standIn 30 = .ok (.baload, 1) := by decide +kernel
theorem dX3_standIn_31 : decode cX3_standIn 31 = .ok (.ifCond .eq 12, 3) := by decide +kernel
theorem dX3_standIn_34 : decode cX3_standIn 34 = .ok (.aload_n 0, 1) := by decide +kernel
theorem dX3_standIn_35 : decode cX3_standIn 35 = .ok (.getfield 20, 3) := by decide +kernel
theorem dX3_standIn_38 : decode cX3_standIn 38 = .ok (.iload_n 2, 1) := by decide +kernel
theorem dX3_standIn_39 : decode cX3_standIn 39 = .ok (.baload, 1) := by decide +kernel
theorem dX3_standIn_40 : decode cX3_standIn 40 = .ok (.ifCond .eq 13, 3) := by decide +kernel
theorem dX3_standIn_43 : decode cX3_standIn 43 = .ok (.new 59, 3) := by decide +kernel
theorem dX3_standIn_46 : decode cX3_standIn 46 = .ok (.dup, 1) := by decide +kernel
theorem dX3_standIn_47 : decode cX3_standIn 47 = .ok (.ldc 196, 2) := by decide +kernel
theorem dX3_standIn_49 : decode cX3_standIn 49 = .ok (.invokespecial 63, 3) := by decide +kernel
theorem dX3_standIn_52 : decode cX3_standIn 52 = .ok (.athrow, 1) := by decide +kernel
theorem dX3_standIn_53 : decode cX3_standIn 53 = .ok (.aload_n 0, 1) := by decide +kernel
theorem dX3_standIn_54 : decode cX3_standIn 54 = .ok (.getfield 41, 3) := by decide +kernel
theorem dX3_standIn_57 : decode cX3_standIn 57 = .ok (.iload_n 1, 1) := by decide +kernel
theorem dX3_standIn_58 : decode cX3_standIn 58 = .ok (.iload_n 2, 1) := by decide +kernel
theorem dX3_standIn_59 : decode cX3_standIn 59 = .ok (.invokevirtual 198, 3) := by decide +kernel
theorem dX3_standIn_62 : decode cX3_standIn 62 = .ok (.ireturn, 1) := by decide +kernel
set_option maxRecDepth 20000 in
theorem ggX3_colour_X3_checkLamp : GoodIn wsX3_colour wsX3_checkLamp := goodIn_ca (goodIn_r _ [7, 8, 9, 10, 16, 17, 18, 19, 20, 21, 22] (by decide +kernel) (by decide +kernel)) (goodIn_sub (fun _ h => List.mem_cons_of_mem _ (List.mem_append_left _ (List.mem_append_right _ h))) (by decide +kernel))
set_option maxRecDepth 20000 in
theorem gX3_colour_X3_checkLamp : GoodIn wsX3_colour (wsV RX3 89 RX3 yX3_checkLamp wsX3_checkLamp) := goodIn_app (goodIn_of _ (by decide +kernel)) ggX3_colour_X3_checkLamp
set_option maxRecDepth 20000 in
theorem ggX3_colour_X3_checkRange : GoodIn wsX3_colour wsX3_checkRange := goodIn_ca (goodIn_r _ [13, 14, 15] (by decide +kernel) (by decide +kernel)) (goodIn_sub (fun _ h => List.mem_cons_of_mem _ (List.mem_append_right _ h)) (by decide +kernel))
set_option maxRecDepth 20000 in
theorem gX3_colour_X3_checkRange : GoodIn wsX3_colour (va_wsS RX3 52 yX3_checkRange wsX3_checkRange) := goodIn_app (goodIn_of _ (by decide +kernel)) ggX3_colour_X3_checkRange
theorem dX3_colour_0 : decode cX3_colour 0 = .ok (.aload_n 0, 1) := by decide +kernel
theorem dX3_colour_1 : decode cX3_colour 1 = .ok (.iload_n 1, 1) := by decide +kernel
theorem dX3_colour_2 : decode cX3_colour 2 = .ok (.invokevirtual 89, 3) := by decide +kernel
theorem dX3_colour_5 : decode cX3_colour 5 = .ok (.iload_n 2, 1) := by decide +kernel
theorem dX3_colour_6 : decode cX3_colour 6 = .ok (.iconst 0, 1) := by decide +kernel
theorem dX3_colour_7 : decode cX3_colour 7 = .ok (.bipush 20, 2) := by decide +kernel
theorem dX3_colour_9 : decode cX3_colour 9 = .ok (.invokestatic 52, 3) := by decide +kernel
theorem dX3_colour_12 : decode cX3_colour 12 = .ok (.aload_n 0, 1) := by decide +kernel
theorem dX3_colour_13 : decode cX3_colour 13 = .ok (.getfield 13, 3) := by decide +kernel
theorem dX3_colour_16 : decode cX3_colour 16 = .ok (.iload_n 1, 1) := by decide +kernel
theorem dX3_colour_17 : decode cX3_colour 17 = .ok (.iaload, 1) := by decide +kernel
theorem dX3_colour_18 : decode cX3_colour 18 = .ok (.istore_n 3, 1) := by decide +kernel
theorem dX3_colour_19 : decode cX3_colour 19 = .ok (.aload_n 0, 1) := by decide +kernel
theorem dX3_colour_20 : decode cX3_colour 20 = .ok (.getfield 13, 3) := by decide +kernel
theorem dX3_colour_23 : decode cX3_colour 23 = .ok (.iload_n 1, 1) := by decide +kernel
theorem dX3_colour_24 : decode cX3_colour 24 = .ok (.iload_n 2, 1) := by decide +kernel
theorem dX3_colour_25 : decode cX3_colour 25 = .ok (.iastore, 1) := by decide +kernel
theorem dX3_colour_26 : decode cX3_colour 26 = .ok (.aload_n 0, 1) := by decide +kernel
theorem dX3_colour_27 : decode cX3_colour 27 = .ok (.getfield 17, 3) := by decide +kernel
theorem dX3_colour_30 : decode cX3_colour 30 = .ok (.iload_n 1, 1) := by decide +kernel
theorem dX3_colour_31 : decode cX3_colour 31 = .ok (.iconst 0, 1) := by decide +kernel
theorem dX3_colour_32 : decode cX3_colour 32 = .ok (.iastore, 1) := by decide +kernel
theorem dX3_colour_33 : decode cX3_colour 33 = .ok (.iload_n 3, 1) := by decide +kernel
theorem dX3_colour_34 : decode cX3_colour 34 = .ok (.ireturn, 1) := by decide +kernel
theorem dX3_burnt_0 : decode cX3_burnt 0 = .ok (.iconst 0, 1) := by decide +kernel
theorem dX3_burnt_1 : decode cX3_burnt 1 = .ok (.istore_n 1, 1) := by decide +kernel
theorem dX3_burnt_2 : decode cX3_burnt 2 = .ok (.iconst 0, 1) := by decide +kernel
theorem dX3_burnt_3 : decode cX3_burnt 3 = .ok (.istore_n 2, 1) := by decide +kernel
theorem dX3_burnt_4 : decode cX3_burnt 4 = .ok (.iload_n 2, 1) := by decide +kernel
theorem dX3_burnt_5 : decode cX3_burnt 5 = .ok (.aload_n 0, 1) := by decide +kernel
theorem dX3_burnt_6 : decode cX3_burnt 6 = .ok (.getfield 7, 3) := by decide +kernel
theorem dX3_burnt_9 : decode cX3_burnt 9 = .ok (.if_icmp .ge 26, 3) := by decide +kernel
theorem dX3_burnt_12 : decode cX3_burnt 12 = .ok (.aload_n 0, 1) := by decide +kernel
theorem dX3_burnt_13 : decode cX3_burnt 13 = .ok (.getfield 17, 3) := by decide +kernel
theorem dX3_burnt_16 : decode cX3_burnt 16 = .ok (.iload_n 2, 1) := by decide +kernel
theorem dX3_burnt_17 : decode cX3_burnt 17 = .ok (.iaload, 1) := by decide +kernel
theorem dX3_burnt_18 : decode cX3_burnt 18 = .ok (.bipush 30, 2) := by decide +kernel
theorem dX3_burnt_20 : decode cX3_burnt 20 = .ok (.if_icmp .lt 9, 3) := by decide +kernel
theorem dX3_burnt_23 : decode cX3_burnt 23 = .ok (.iload_n 1, 1) := by decide +kernel
theorem dX3_burnt_24 : decode cX3_burnt 24 = .ok (.iconst 1, 1) := by decide +kernel
theorem dX3_burnt_25 : decode cX3_burnt 25 = .ok (.iload_n 2, 1) := by decide +kernel
theorem dX3_burnt_26 : decode cX3_burnt 26 = .ok (.ishl, 1) := by decide +kernel
theorem dX3_burnt_27 : decode cX3_burnt 27 = .ok (.ior, 1) := by decide +kernel
theorem dX3_burnt_28 : decode cX3_burnt 28 = .ok (.istore_n 1, 1) := by decide +kernel
theorem dX3_burnt_29 : decode cX3_burnt 29 = .ok (.iinc 2 1, 3) := by decide +kernel
theorem dX3_burnt_32 : decode cX3_burnt 32 = .ok (.goto (-28), 3) := by decide +kernel
theorem dX3_burnt_35 : decode cX3_burnt 35 = .ok (.iload_n 1, 1) := by decide +kernel
theorem dX3_burnt_36 : decode cX3_burnt 36 = .ok (.ireturn, 1) := by decide +kernel
theorem dX3_checkLamp_0 : decode cX3_checkLamp 0 = .ok (.iload_n 1, 1) := by decide +kernel
theorem dX3_checkLamp_1 : decode cX3_checkLamp 1 = .ok (.ifCond .lt 11, 3) := by decide +kernel
theorem dX3_checkLamp_4 : decode cX3_checkLamp 4 = .ok (.iload_n 1, 1) := by decide +kernel
theorem dX3_checkLamp_5 : decode cX3_checkLamp 5 = .ok (.aload_n 0, 1) := by decide +kernel
theorem dX3_checkLamp_6 : decode cX3_checkLamp 6 = .ok (.getfield 7, 3) := by decide +kernel
theorem dX3_checkLamp_9 : decode cX3_checkLamp 9 = .ok (.if_icmp .lt 13, 3) := by decide +kernel
theorem dX3_checkLamp_12 : decode cX3_checkLamp 12 = .ok (.new 45, 3) := by decide +kernel
theorem dX3_checkLamp_15 : decode cX3_checkLamp 15 = .ok (.dup, 1) := by decide +kernel
theorem dX3_checkLamp_16 : decode cX3_checkLamp 16 = .ok (.ldc 201, 2) := by decide +kernel
theorem dX3_checkLamp_18 : decode cX3_checkLamp 18 = .ok (.invokespecial 49, 3) := by decide +kernel
theorem dX3_checkLamp_21 : decode cX3_checkLamp 21 = .ok (.athrow, 1) := by decide +kernel
theorem dX3_checkLamp_22 : decode cX3_checkLamp 22 = .ok (.return_, 1) := by decide +kernel
set_option maxRecDepth 20000 in
theorem ggX3_checkBar_X1_hasBar : GoodIn wsX3_checkBar wsX1_hasBar := goodIn_r _ [7, 8, 9, 17, 18, 19, 20, 21, 22, 23, 24] (by decide +kernel) (by decide +kernel)
set_option maxRecDepth 20000 in
theorem gX3_checkBar_X1_hasBar_n203 : GoodIn wsX3_checkBar (wsX1_hasBar) := ggX3_checkBar_X1_hasBar
theorem dX3_checkBar_0 : decode cX3_checkBar 0 = .ok (.aload_n 0, 1) := by decide +kernel
theorem dX3_checkBar_1 : decode cX3_checkBar 1 = .ok (.getfield 27, 3) := by decide +kernel
theorem dX3_checkBar_4 : decode cX3_checkBar 4 = .ok (.iload_n 1, 1) := by decide +kernel
theorem dX3_checkBar_5 : decode cX3_checkBar 5 = .ok (.invokevirtual 203, 3) := by decide +kernel
theorem dX3_checkBar_8 : decode cX3_checkBar 8 = .ok (.ifCond .ne 13, 3) := by decide +kernel
theorem dX3_checkBar_11 : decode cX3_checkBar 11 = .ok (.new 45, 3) := by decide +kernel
theorem dX3_checkBar_14 : decode cX3_checkBar 14 = .ok (.dup, 1) := by decide +kernel
theorem dX3_checkBar_15 : decode cX3_checkBar 15 = .ok (.ldc 206, 2) := by decide +kernel
theorem dX3_checkBar_17 : decode cX3_checkBar 17 = .ok (.invokespecial 49, 3) := by decide +kernel
theorem dX3_checkBar_20 : decode cX3_checkBar 20 = .ok (.athrow, 1) := by decide +kernel
theorem dX3_checkBar_21 : decode cX3_checkBar 21 = .ok (.return_, 1) := by decide +kernel
theorem dX3_checkCircuit_0 : decode cX3_checkCircuit 0 = .ok (.iload_n 0, 1) := by decide +kernel
theorem dX3_checkCircuit_1 : decode cX3_checkCircuit 1 = .ok (.ifCond .lt 8, 3) := by decide +kernel
theorem dX3_checkCircuit_4 : decode cX3_checkCircuit 4 = .ok (.iload_n 0, 1) := by decide +kernel
theorem dX3_checkCircuit_5 : decode cX3_checkCircuit 5 = .ok (.iconst 4, 1) := by decide +kernel
theorem dX3_checkCircuit_6 : decode cX3_checkCircuit 6 = .ok (.if_icmp .lt 13, 3) := by decide +kernel
theorem dX3_checkCircuit_9 : decode cX3_checkCircuit 9 = .ok (.new 45, 3) := by decide +kernel
theorem dX3_checkCircuit_12 : decode cX3_checkCircuit 12 = .ok (.dup, 1) := by decide +kernel
theorem dX3_checkCircuit_13 : decode cX3_checkCircuit 13 = .ok (.ldc 208, 2) := by decide +kernel
theorem dX3_checkCircuit_15 : decode cX3_checkCircuit 15 = .ok (.invokespecial 49, 3) := by decide +kernel
theorem dX3_checkCircuit_18 : decode cX3_checkCircuit 18 = .ok (.athrow, 1) := by decide +kernel
theorem dX3_checkCircuit_19 : decode cX3_checkCircuit 19 = .ok (.return_, 1) := by decide +kernel
theorem dX3_checkRange_0 : decode cX3_checkRange 0 = .ok (.iload_n 0, 1) := by decide +kernel
theorem dX3_checkRange_1 : decode cX3_checkRange 1 = .ok (.iload_n 1, 1) := by decide +kernel
theorem dX3_checkRange_2 : decode cX3_checkRange 2 = .ok (.if_icmp .lt 8, 3) := by decide +kernel
theorem dX3_checkRange_5 : decode cX3_checkRange 5 = .ok (.iload_n 0, 1) := by decide +kernel
theorem dX3_checkRange_6 : decode cX3_checkRange 6 = .ok (.iload_n 2, 1) := by decide +kernel
theorem dX3_checkRange_7 : decode cX3_checkRange 7 = .ok (.if_icmp .le 13, 3) := by decide +kernel
theorem dX3_checkRange_10 : decode cX3_checkRange 10 = .ok (.new 191, 3) := by decide +kernel
theorem dX3_checkRange_13 : decode cX3_checkRange 13 = .ok (.dup, 1) := by decide +kernel
theorem dX3_checkRange_14 : decode cX3_checkRange 14 = .ok (.ldc 210, 2) := by decide +kernel
theorem dX3_checkRange_16 : decode cX3_checkRange 16 = .ok (.invokespecial 195, 3) := by decide +kernel
theorem dX3_checkRange_19 : decode cX3_checkRange 19 = .ok (.athrow, 1) := by decide +kernel
theorem dX3_checkRange_20 : decode cX3_checkRange 20 = .ok (.return_, 1) := by decide +kernel
set_option maxRecDepth 20000 in
theorem ggX3_shownLevel_X1_hangs : GoodIn wsX3_shownLevel wsX1_hangs := goodIn_r _ [7, 8, 35, 36, 37, 38, 39, 40, 41, 42] (by decide +kernel) (by decide +kernel)
set_option maxRecDepth 20000 in
theorem gX3_shownLevel_X1_hangs_n117 : GoodIn wsX3_shownLevel (wsX1_hangs) := ggX3_shownLevel_X1_hangs
set_option maxRecDepth 20000 in
theorem ggX3_shownLevel_X2_wantedLevel : GoodIn wsX3_shownLevel wsX2_wantedLevel := goodIn_r _ [12, 13, 14, 15, 16, 17, 18, 19, 20, 21, 22, 10, 23, 24, 25, 26, 27, 43, 44, 45, 46, 47, 48, 49, 50, 51, 52, 53] (by decide +kernel) (by decide +kernel)
set_option maxRecDepth 20000 in
theorem gX3_shownLevel_X2_wantedLevel_n188 : GoodIn wsX3_shownLevel (wsX2_wantedLevel) := ggX3_shownLevel_X2_wantedLevel
theorem dX3_shownLevel_0 : decode cX3_shownLevel 0 = .ok (.aload_n 0, 1) := by decide +kernel
theorem dX3_shownLevel_1 : decode cX3_shownLevel 1 = .ok (.getfield 27, 3) := by decide +kernel
theorem dX3_shownLevel_4 : decode cX3_shownLevel 4 = .ok (.iload_n 1, 1) := by decide +kernel
theorem dX3_shownLevel_5 : decode cX3_shownLevel 5 = .ok (.invokevirtual 117, 3) := by decide +kernel
theorem dX3_shownLevel_8 : decode cX3_shownLevel 8 = .ok (.ifCond .eq 23, 3) := by decide +kernel
theorem dX3_shownLevel_11 : decode cX3_shownLevel 11 = .ok (.aload_n 0, 1) := by decide +kernel
theorem dX3_shownLevel_12 : decode cX3_shownLevel 12 = .ok (.getfield 20, 3) := by decide +kernel
theorem dX3_shownLevel_15 : decode cX3_shownLevel 15 = .ok (.iload_n 1, 1) := by decide +kernel
theorem dX3_shownLevel_16 : decode cX3_shownLevel 16 = .ok (.baload, 1) := by decide +kernel
theorem dX3_shownLevel_17 : decode cX3_shownLevel 17 = .ok (.ifCond .ne 14, 3) := by decide +kernel
theorem dX3_shownLevel_20 : decode cX3_shownLevel 20 = .ok (.aload_n 0, 1) := by decide +kernel
theorem dX3_shownLevel_21 : decode cX3_shownLevel 21 = .ok (.getfield 41, 3) := by decide +kernel
theorem dX3_shownLevel_24 : decode cX3_shownLevel 24 = .ok (.iload_n 1, 1) := by decide +kernel
theorem dX3_shownLevel_25 : decode cX3_shownLevel 25 = .ok (.invokevirtual 188, 3) := by decide +kernel
theorem dX3_shownLevel_28 : decode cX3_shownLevel 28 = .ok (.goto 4, 3) := by decide +kernel
theorem dX3_shownLevel_31 : decode cX3_shownLevel 31 = .ok (.iconst 0, 1) := by decide +kernel
theorem dX3_shownLevel_32 : decode cX3_shownLevel 32 = .ok (.ireturn, 1) := by decide +kernel
set_option maxRecDepth 20000 in
theorem ggX3_burnColours_X3_shownLevel : GoodIn wsX3_burnColours wsX3_shownLevel := goodIn_r _ [7, 8, 9, 10, 11, 12, 13, 14, 15, 16, 17, 18, 19, 20, 21, 22, 23, 24, 25, 26, 27, 28, 29, 30, 31, 32, 33, 34, 35, 36, 37, 38, 39, 40, 41, 42, 43, 44, 45, 46, 47, 48, 49, 50, 51, 52, 53, 54, 55, 56, 57, 58, 59, 60] (by decide +kernel) (by decide +kernel)
set_option maxRecDepth 20000 in
theorem gX3_burnColours_X3_shownLevel : GoodIn wsX3_burnColours (wsV RX3 152 RX3 yX3_shownLevel wsX3_shownLevel) := goodIn_app (goodIn_of _ (by decide +kernel)) ggX3_burnColours_X3_shownLevel
theorem dX3_burnColours_0 : decode cX3_burnColours 0 = .ok (.iconst 0, 1) := by decide +kernel
theorem dX3_burnColours_1 : decode cX3_burnColours 1 = .ok (.istore_n 1, 1) := by decide +kernel
theorem dX3_burnColours_2 : decode cX3_burnColours 2 = .ok (.iload_n 1, 1) := by decide +kernel
theorem dX3_burnColours_3 : decode cX3_burnColours 3 = .ok (.aload_n 0, 1) := by decide +kernel
theorem dX3_burnColours_4 : decode cX3_burnColours 4 = .ok (.getfield 7, 3) := by decide +kernel
theorem dX3_burnColours_7 : decode cX3_burnColours 7 = .ok (.if_icmp .ge 29, 3) := by decide +kernel
theorem dX3_burnColours_10 : decode cX3_burnColours 10 = .ok (.aload_n 0, 1) := by decide +kernel
theorem dX3_burnColours_11 : decode cX3_burnColours 11 = .ok (.iload_n 1, 1) := by decide +kernel
theorem dX3_burnColours_12 : decode cX3_burnColours 12 = .ok (.invokevirtual 152, 3) := by decide +kernel
theorem dX3_burnColours_15 : decode cX3_burnColours 15 = .ok (.bipush 80, 2) := by decide +kernel
theorem dX3_burnColours_17 : decode cX3_burnColours 17 = .ok (.if_icmp .le 13, 3) := by decide +kernel
theorem dX3_burnColours_20 : decode cX3_burnColours 20 = .ok (.aload_n 0, 1) := by decide +kernel
theorem dX3_burnColours_21 : decode cX3_burnColours 21 = .ok (.getfield 17, 3) := by decide +kernel
theorem dX3_burnColours_24 : decode cX3_burnColours 24 = .ok (.iload_n 1, 1) := by decide +kernel
theorem dX3_burnColours_25 : decode cX3_burnColours 25 = .ok (.dup2, 1) := by decide +kernel
theorem dX3_burnColours_26 : decode cX3_burnColours 26 = .ok (.iaload, 1) := by decide +kernel
theorem dX3_burnColours_27 : decode cX3_burnColours 27 = .ok (.iconst 1, 1) := by decide +kernel
theorem dX3_burnColours_28 : decode cX3_burnColours 28 = .ok (.iadd, 1) := by decide +kernel
theorem dX3_burnColours_29 : decode cX3_burnColours 29 = .ok (.iastore, 1) := by decide +kernel
theorem dX3_burnColours_30 : decode cX3_burnColours 30 = .ok (.iinc 1 1, 3) := by decide +kernel
theorem dX3_burnColours_33 : decode cX3_burnColours 33 = .ok (.goto (-31), 3) := by decide +kernel
theorem dX3_burnColours_36 : decode cX3_burnColours 36 = .ok (.return_, 1) := by decide +kernel
theorem dX3_weightOfKind_0 : decode cX3_weightOfKind 0 = .ok (.iload_n 0, 1) := by decide +kernel
theorem dX3_weightOfKind_1 : decode cX3_weightOfKind 1 = .ok (.tableswitch 35 0 2 #[27, 29, 32], 27) := by decide +kernel
theorem dX3_weightOfKind_28 : decode cX3_weightOfKind 28 = .ok (.iconst 4, 1) := by decide +kernel
theorem dX3_weightOfKind_29 : decode cX3_weightOfKind 29 = .ok (.ireturn, 1) := by decide +kernel
theorem dX3_weightOfKind_30 : decode cX3_weightOfKind 30 = .ok (.bipush 9, 2) := by decide +kernel
theorem dX3_weightOfKind_32 : decode cX3_weightOfKind 32 = .ok (.ireturn, 1) := by decide +kernel
theorem dX3_weightOfKind_33 : decode cX3_weightOfKind 33 = .ok (.bipush 12, 2) := by decide +kernel
theorem dX3_weightOfKind_35 : decode cX3_weightOfKind 35 = .ok (.ireturn, 1) := by decide +kernel
theorem dX3_weightOfKind_36 : decode cX3_weightOfKind 36 = .ok (.bipush 25, 2) := by decide +kernel
theorem dX3_weightOfKind_38 : decode cX3_weightOfKind 38 = .ok (.ireturn, 1) := by decide +kernel
theorem dX3_wattsOfKind_0 : decode cX3_wattsOfKind 0 = .ok (.iload_n 0, 1) := by decide +kernel
theorem dX3_wattsOfKind_1 : decode cX3_wattsOfKind 1 = .ok (.tableswitch 39 0 2 #[27, 31, 35], 27) := by decide +kernel
theorem dX3_wattsOfKind_28 : decode cX3_wattsOfKind 28 = .ok (.sipush 1000, 3) := by decide +kernel
theorem dX3_wattsOfKind_31 : decode cX3_wattsOfKind 31 = .ok (.ireturn, 1) := by decide +kernel
theorem dX3_wattsOfKind_32 : decode cX3_wattsOfKind 32 = .ok (.sipush 750, 3) := by decide +kernel
theorem dX3_wattsOfKind_35 : decode cX3_wattsOfKind 35 = .ok (.ireturn, 1) := by decide +kernel
theorem dX3_wattsOfKind_36 : decode cX3_wattsOfKind 36 = .ok (.sipush 500, 3) := by decide +kernel
theorem dX3_wattsOfKind_39 : decode cX3_wattsOfKind 39 = .ok (.ireturn, 1) := by decide +kernel
theorem dX3_wattsOfKind_40 : decode cX3_wattsOfKind 40 = .ok (.sipush 800, 3) := by decide +kernel
theorem dX3_wattsOfKind_43 : decode cX3_wattsOfKind 43 = .ok (.ireturn, 1) := by decide +kernel
theorem dX3_widthOfKind_0 : decode cX3_widthOfKind 0 = .ok (.iload_n 0, 1) := by decide +kernel
theorem dX3_widthOfKind_1 : decode cX3_widthOfKind 1 = .ok (.tableswitch 33 0 2 #[27, 29, 31], 27) := by decide +kernel
theorem dX3_widthOfKind_28 : decode cX3_widthOfKind 28 = .ok (.iconst 1, 1) := by decide +kernel
theorem dX3_widthOfKind_29 : decode cX3_widthOfKind 29 = .ok (.ireturn, 1) := by decide +kernel
theorem dX3_widthOfKind_30 : decode cX3_widthOfKind 30 = .ok (.iconst 1, 1) := by decide +kernel
theorem dX3_widthOfKind_31 : decode cX3_widthOfKind 31 = .ok (.ireturn, 1) := by decide +kernel
theorem dX3_widthOfKind_32 : decode cX3_widthOfKind 32 = .ok (.iconst 4, 1) := by decide +kernel
theorem dX3_widthOfKind_33 : decode cX3_widthOfKind 33 = .ok (.ireturn, 1) := by decide +kernel
theorem dX3_widthOfKind_34 : decode cX3_widthOfKind 34 = .ok (.bipush 12, 2) := by decide +kernel
theorem dX3_widthOfKind_36 : decode cX3_widthOfKind 36 = .ok (.ireturn, 1) := by decide +kernel
theorem dJ9_floorDiv_7cf53_0 : decode cJ9_floorDiv_7cf53 0 = .ok (.iload_n 0, 1) := by decide +kernel
theorem dJ9_floorDiv_7cf53_1 : decode cJ9_floorDiv_7cf53 1 = .ok (.iload_n 1, 1) := by decide +kernel
theorem dJ9_floorDiv_7cf53_2 : decode cJ9_floorDiv_7cf53 2 = .ok (.idiv, 1) := by decide +kernel
theorem dJ9_floorDiv_7cf53_3 : decode cJ9_floorDiv_7cf53 3 = .ok (.istore_n 2, 1) := by decide +kernel
theorem dJ9_floorDiv_7cf53_4 : decode cJ9_floorDiv_7cf53 4 = .ok (.iload_n 0, 1) := by decide +kernel
theorem dJ9_floorDiv_7cf53_5 : decode cJ9_floorDiv_7cf53 5 = .ok (.iload_n 1, 1) := by decide +kernel
theorem dJ9_floorDiv_7cf53_6 : decode cJ9_floorDiv_7cf53 6 = .ok (.ixor, 1) := by decide +kernel
theorem dJ9_floorDiv_7cf53_7 : decode cJ9_floorDiv_7cf53 7 = .ok (.ifCond .ge 14, 3) := by decide +kernel
theorem dJ9_floorDiv_7cf53_10 : decode cJ9_floorDiv_7cf53 10 = .ok (.iload_n 2, 1) := by decide +kernel
theorem dJ9_floorDiv_7cf53_11 : decode cJ9_floorDiv_7cf53 11 = .ok (.iload_n 1, 1) := by decide +kernel
theorem dJ9_floorDiv_7cf53_12 : decode cJ9_floorDiv_7cf53 12 = .ok (.imul, 1) := by decide +kernel
theorem dJ9_floorDiv_7cf53_13 : decode cJ9_floorDiv_7cf53 13 = .ok (.iload_n 0, 1) := by decide +kernel
theorem dJ9_floorDiv_7cf53_14 : decode cJ9_floorDiv_7cf53 14 = .ok (.if_icmp .eq 7, 3) := by decide +kernel
theorem dJ9_floorDiv_7cf53_17 : decode cJ9_floorDiv_7cf53 17 = .ok (.iload_n 2, 1) := by decide +kernel
theorem dJ9_floorDiv_7cf53_18 : decode cJ9_floorDiv_7cf53 18 = .ok (.iconst 1, 1) := by decide +kernel
theorem dJ9_floorDiv_7cf53_19 : decode cJ9_floorDiv_7cf53 19 = .ok (.isub, 1) := by decide +kernel
theorem dJ9_floorDiv_7cf53_20 : decode cJ9_floorDiv_7cf53 20 = .ok (.ireturn, 1) := by decide +kernel
theorem dJ9_floorDiv_7cf53_21 : decode cJ9_floorDiv_7cf53 21 = .ok (.iload_n 2, 1) := by decide +kernel
theorem dJ9_floorDiv_7cf53_22 : decode cJ9_floorDiv_7cf53 22 = .ok (.ireturn, 1) := by decide +kernel
theorem dJ9_abs_0f7a4_0 : decode cJ9_abs_0f7a4 0 = .ok (.iload_n 0, 1) := by decide +kernel
theorem dJ9_abs_0f7a4_1 : decode cJ9_abs_0f7a4 1 = .ok (.ifCond .ge 8, 3) := by decide +kernel
theorem dJ9_abs_0f7a4_4 : decode cJ9_abs_0f7a4 4 = .ok (.iload_n 0, 1) := by decide +kernel
theorem dJ9_abs_0f7a4_5 : decode cJ9_abs_0f7a4 5 = .ok (.ineg, 1) := by decide +kernel
theorem dJ9_abs_0f7a4_6 : decode cJ9_abs_0f7a4 6 = .ok (.goto 4, 3) := by decide +kernel
theorem dJ9_abs_0f7a4_9 : decode cJ9_abs_0f7a4 9 = .ok (.iload_n 0, 1) := by decide +kernel
theorem dJ9_abs_0f7a4_10 : decode cJ9_abs_0f7a4 10 = .ok (.ireturn, 1) := by decide +kernel
theorem dJ7_fill_53178_0 : decode cJ7_fill_53178 0 = .ok (.iconst 0, 1) := by decide +kernel
theorem dJ7_fill_53178_1 : decode cJ7_fill_53178 1 = .ok (.istore_n 2, 1) := by decide +kernel
theorem dJ7_fill_53178_2 : decode cJ7_fill_53178 2 = .ok (.aload_n 0, 1) := by decide +kernel
theorem dJ7_fill_53178_3 : decode cJ7_fill_53178 3 = .ok (.arraylength, 1) := by decide +kernel
theorem dJ7_fill_53178_4 : decode cJ7_fill_53178 4 = .ok (.istore_n 3, 1) := by decide +kernel
theorem dJ7_fill_53178_5 : decode cJ7_fill_53178 5 = .ok (.iload_n 2, 1) := by decide +kernel
theorem dJ7_fill_53178_6 : decode cJ7_fill_53178 6 = .ok (.iload_n 3, 1) := by decide +kernel
theorem dJ7_fill_53178_7 : decode cJ7_fill_53178 7 = .ok (.if_icmp .ge 13, 3) := by decide +kernel
theorem dJ7_fill_53178_10 : decode cJ7_fill_53178 10 = .ok (.aload_n 0, 1) := by decide +kernel
theorem dJ7_fill_53178_11 : decode cJ7_fill_53178 11 = .ok (.iload_n 2, 1) := by decide +kernel
theorem dJ7_fill_53178_12 : decode cJ7_fill_53178 12 = .ok (.iload_n 1, 1) := by decide +kernel
theorem dJ7_fill_53178_13 : decode cJ7_fill_53178 13 = .ok (.iastore, 1) := by decide +kernel
theorem dJ7_fill_53178_14 : decode cJ7_fill_53178 14 = .ok (.iinc 2 1, 3) := by decide +kernel
theorem dJ7_fill_53178_17 : decode cJ7_fill_53178 17 = .ok (.goto (-12), 3) := by decide +kernel
theorem dJ7_fill_53178_20 : decode cJ7_fill_53178 20 = .ok (.return_, 1) := by decide +kernel
theorem dL_cell_0 : decode cL_cell 0 = .ok (.iload_n 1, 1) := by decide +kernel
theorem dL_cell_1 : decode cL_cell 1 = .ok (.aload_n 0, 1) := by decide +kernel
theorem dL_cell_2 : decode cL_cell 2 = .ok (.arraylength, 1) := by decide +kernel
theorem dL_cell_3 : decode cL_cell 3 = .ok (.if_icmp .ge 9, 3) := by decide +kernel
theorem dL_cell_6 : decode cL_cell 6 = .ok (.aload_n 0, 1) := by decide +kernel
theorem dL_cell_7 : decode cL_cell 7 = .ok (.iload_n 1, 1) := by decide +kernel
theorem dL_cell_8 : decode cL_cell 8 = .ok (.iaload, 1) := by decide +kernel
theorem dL_cell_9 : decode cL_cell 9 = .ok (.goto 15, 3) := by decide +kernel
theorem dL_cell_12 : decode cL_cell 12 = .ok (.ldc2_w 7, 3) := by decide +kernel
theorem dL_cell_15 : decode cL_cell 15 = .ok (.iload_n 1, 1) := by decide +kernel
theorem dL_cell_16 : decode cL_cell 16 = .ok (.bipush 71, 2) := by decide +kernel
theorem dL_cell_18 : decode cL_cell 18 = .ok (.iadd, 1) := by decide +kernel
theorem dL_cell_19 : decode cL_cell 19 = .ok (.i2l, 1) := by decide +kernel
theorem dL_cell_20 : decode cL_cell 20 = .ok (.lmul, 1) := by decide +kernel
theorem dL_cell_21 : decode cL_cell 21 = .ok (.iconst 5, 1) := by decide +kernel
theorem dL_cell_22 : decode cL_cell 22 = .ok (.lushr, 1) := by decide +kernel
theorem dL_cell_23 : decode cL_cell 23 = .ok (.l2i, 1) := by decide +kernel
theorem dL_cell_24 : decode cL_cell 24 = .ok (.ireturn, 1) := by decide +kernel
theorem dL_some_0 : decode cL_some 0 = .ok (.iload_n 0, 1) := by decide +kernel
theorem dL_some_1 : decode cL_some 1 = .ok (.iconst 2, 1) := by decide +kernel
theorem dL_some_2 : decode cL_some 2 = .ok (.iushr, 1) := by decide +kernel
theorem dL_some_3 : decode cL_some 3 = .ok (.iload_n 1, 1) := by decide +kernel
theorem dL_some_4 : decode cL_some 4 = .ok (.irem, 1) := by decide +kernel
theorem dL_some_5 : decode cL_some 5 = .ok (.ireturn, 1) := by decide +kernel
theorem dL_has_0 : decode cL_has 0 = .ok (.iload_n 0, 1) := by decide +kernel
theorem dL_has_1 : decode cL_has 1 = .ok (.iconst 2, 1) := by decide +kernel
theorem dL_has_2 : decode cL_has 2 = .ok (.if_icmp .ge 7, 3) := by decide +kernel
theorem dL_has_5 : decode cL_has 5 = .ok (.iconst 1, 1) := by decide +kernel
theorem dL_has_6 : decode cL_has 6 = .ok (.goto 14, 3) := by decide +kernel
theorem dL_has_9 : decode cL_has 9 = .ok (.iload_n 0, 1) := by decide +kernel
theorem dL_has_10 : decode cL_has 10 = .ok (.iconst 2, 1) := by decide +kernel
theorem dL_has_11 : decode cL_has 11 = .ok (.if_icmp .ne 7, 3) := by decide +kernel
theorem dL_has_14 : decode cL_has 14 = .ok (.iconst 4, 1) := by decide +kernel
theorem dL_has_15 : decode cL_has 15 = .ok (.goto 5, 3) := by decide +kernel
theorem dL_has_18 : decode cL_has 18 = .ok (.bipush 12, 2) := by decide +kernel
theorem dL_has_20 : decode cL_has 20 = .ok (.ireturn, 1) := by decide +kernel
theorem dL_heavy_0 : decode cL_heavy 0 = .ok (.iload_n 0, 1) := by decide +kernel
theorem dL_heavy_1 : decode cL_heavy 1 = .ok (.ifCond .ne 7, 3) := by decide +kernel
theorem dL_heavy_4 : decode cL_heavy 4 = .ok (.iconst 4, 1) := by decide +kernel
theorem dL_heavy_5 : decode cL_heavy 5 = .ok (.goto 25, 3) := by decide +kernel
theorem dL_heavy_8 : decode cL_heavy 8 = .ok (.iload_n 0, 1) := by decide +kernel
theorem dL_heavy_9 : decode cL_heavy 9 = .ok (.iconst 1, 1) := by decide +kernel
theorem dL_heavy_10 : decode cL_heavy 10 = .ok (.if_icmp .ne 8, 3) := by decide +kernel
theorem dL_heavy_13 : decode cL_heavy 13 = .ok (.bipush 9, 2) := by decide +kernel
theorem dL_heavy_15 : decode cL_heavy 15 = .ok (.goto 15, 3) := by decide +kernel
theorem dL_heavy_18 : decode cL_heavy 18 = .ok (.iload_n 0, 1) := by decide +kernel
theorem dL_heavy_19 : decode cL_heavy 19 = .ok (.iconst 2, 1) := by decide +kernel
theorem dL_heavy_20 : decode cL_heavy 20 = .ok (.if_icmp .ne 8, 3) := by decide +kernel
theorem dL_heavy_23 : decode cL_heavy 23 = .ok (.bipush 12, 2) := by decide +kernel
theorem dL_heavy_25 : decode cL_heavy 25 = .ok (.goto 5, 3) := by decide +kernel
theorem dL_heavy_28 : decode cL_heavy 28 = .ok (.bipush 25, 2) := by decide +kernel
theorem dL_heavy_30 : decode cL_heavy 30 = .ok (.ireturn, 1) := by decide +kernel
set_option maxRecDepth 20000 in
theorem ggL_weight_L_heavy : GoodIn wsL_weight wsL_heavy := goodIn_r _ [4] (by decide +kernel) (by decide +kernel)
set_option maxRecDepth 20000 in
theorem gL_weight_L_heavy : GoodIn wsL_weight (va_wsS RL 9 yL_heavy wsL_heavy) := goodIn_app (goodIn_of _ (by decide +kernel)) ggL_weight_L_heavy
theorem dL_weight_0 : decode cL_weight 0 = .ok (.iconst 0, 1) := by decide +kernel
theorem dL_weight_1 : decode cL_weight 1 = .ok (.istore 4, 2) := by decide +kernel
theorem dL_weight_3 : decode cL_weight 3 = .ok (.iconst 0, 1) := by decide +kernel
theorem dL_weight_4 : decode cL_weight 4 = .ok (.istore 5, 2) := by decide +kernel
theorem dL_weight_6 : decode cL_weight 6 = .ok (.iload 5, 2) := by decide +kernel
theorem dL_weight_8 : decode cL_weight 8 = .ok (.aload_n 0, 1) := by decide +kernel
theorem dL_weight_9 : decode cL_weight 9 = .ok (.iconst 3, 1) := by decide +kernel
theorem dL_weight_10 : decode cL_weight 10 = .ok (.iaload, 1) := by decide +kernel
theorem dL_weight_11 : decode cL_weight 11 = .ok (.if_icmp .ge 42, 3) := by decide +kernel
theorem dL_weight_14 : decode cL_weight 14 = .ok (.iload 4, 2) := by decide +kernel
theorem dL_weight_16 : decode cL_weight 16 = .ok (.aload_n 1, 1) := by decide +kernel
theorem dL_weight_17 : decode cL_weight 17 = .ok (.bipush 10, 2) := by decide +kernel
theorem dL_weight_19 : decode cL_weight 19 = .ok (.iload 5, 2) := by decide +kernel
theorem dL_weight_21 : decode cL_weight 21 = .ok (.iadd, 1) := by decide +kernel
theorem dL_weight_22 : decode cL_weight 22 = .ok (.iaload, 1) := by decide +kernel
theorem dL_weight_23 : decode cL_weight 23 = .ok (.iload_n 2, 1) := by decide +kernel
theorem dL_weight_24 : decode cL_weight 24 = .ok (.if_icmp .ne 19, 3) := by decide +kernel
theorem dL_weight_27 : decode cL_weight 27 = .ok (.iload 5, 2) := by decide +kernel
theorem dL_weight_29 : decode cL_weight 29 = .ok (.iload_n 3, 1) := by decide +kernel
theorem dL_weight_30 : decode cL_weight 30 = .ok (.if_icmp .eq 13, 3) := by decide +kernel
theorem dL_weight_33 : decode cL_weight 33 = .ok (.aload_n 1, 1) := by decide +kernel
theorem dL_weight_34 : decode cL_weight 34 = .ok (.iload 5, 2) := by decide +kernel
theorem dL_weight_36 : decode cL_weight 36 = .ok (.iaload, 1) := by decide +kernel
theorem dL_weight_37 : decode cL_weight 37 = .ok (.invokestatic 9, 3) := by decide +kernel
theorem dL_weight_40 : decode cL_weight 40 = .ok (.goto 4, 3) := by decide +kernel
theorem dL_weight_43 : decode cL_weight 43 = .ok (.iconst 0, 1) := by decide +kernel
theorem dL_weight_44 : decode cL_weight 44 = .ok (.iadd, 1) := by decide +kernel
theorem dL_weight_45 : decode cL_weight 45 = .ok (.istore 4, 2) := by decide +kernel
theorem dL_weight_47 : decode cL_weight 47 = .ok (.iinc 5 1, 3) := by decide +kernel
theorem dL_weight_50 : decode cL_weight 50 = .ok (.goto (-44), 3) := by decide +kernel
theorem dL_weight_53 : decode cL_weight 53 = .ok (.iload 4, 2) := by decide +kernel
theorem dL_weight_55 : decode cL_weight 55 = .ok (.ireturn, 1) := by decide +kernel
set_option maxRecDepth 20000 in
theorem ggL_fits_L_weight : GoodIn wsL_fits wsL_weight := goodIn_r _ [4, 5, 6, 3, 7] (by decide +kernel) (by decide +kernel)
set_option maxRecDepth 20000 in
theorem gL_fits_L_weight : GoodIn wsL_fits (va_wsS RL 15 yL_weight wsL_weight) := goodIn_app (goodIn_of _ (by decide +kernel)) ggL_fits_L_weight
set_option maxRecDepth 20000 in
theorem ggL_fits_L_heavy : GoodIn wsL_fits wsL_heavy := goodIn_r _ [7] (by decide +kernel) (by decide +kernel)
set_option maxRecDepth 20000 in
theorem gL_fits_L_heavy : GoodIn wsL_fits (va_wsS RL 9 yL_heavy wsL_heavy) := goodIn_app (goodIn_of _ (by decide +kernel)) ggL_fits_L_heavy
theorem dL_fits_0 : decode cL_fits 0 = .ok (.iconst 2, 1) := by decide +kernel
theorem dL_fits_1 : decode cL_fits 1 = .ok (.aload_n 0, 1) := by decide +kernel
theorem dL_fits_2 : decode cL_fits 2 = .ok (.iconst 0, 1) := by decide +kernel
theorem dL_fits_3 : decode cL_fits 3 = .ok (.iaload, 1) := by decide +kernel
theorem dL_fits_4 : decode cL_fits 4 = .ok (.imul, 1) := by decide +kernel
theorem dL_fits_5 : decode cL_fits 5 = .ok (.iload 4, 2) := by decide +kernel
theorem dL_fits_7 : decode cL_fits 7 = .ok (.iadd, 1) := by decide +kernel
theorem dL_fits_8 : decode cL_fits 8 = .ok (.istore 6, 2) := by decide +kernel
theorem dL_fits_10 : decode cL_fits 10 = .ok (.iload 4, 2) := by decide +kernel
theorem dL_fits_12 : decode cL_fits 12 = .ok (.ifCond .lt 57, 3) := by decide +kernel
theorem dL_fits_15 : decode cL_fits 15 = .ok (.iload 4, 2) := by decide +kernel
theorem dL_fits_17 : decode cL_fits 17 = .ok (.aload_n 0, 1) := by decide +kernel
theorem dL_fits_18 : decode cL_fits 18 = .ok (.iconst 1, 1) := by decide +kernel
theorem dL_fits_19 : decode cL_fits 19 = .ok (.aload_n 0, 1) := by decide +kernel
theorem dL_fits_20 : decode cL_fits 20 = .ok (.iconst 0, 1) := by decide +kernel
theorem dL_fits_21 : decode cL_fits 21 = .ok (.iaload, 1) := by decide +kernel
theorem dL_fits_22 : decode cL_fits 22 = .ok (.iadd, 1) := by decide +kernel
theorem dL_fits_23 : decode cL_fits 23 = .ok (.iaload, 1) := by decide +kernel
theorem dL_fits_24 : decode cL_fits 24 = .ok (.if_icmp .ge 45, 3) := by decide +kernel
theorem dL_fits_27 : decode cL_fits 27 = .ok (.iload 5, 2) := by decide +kernel
theorem dL_fits_29 : decode cL_fits 29 = .ok (.ifCond .lt 40, 3) := by decide +kernel
theorem dL_fits_32 : decode cL_fits 32 = .ok (.iload 5, 2) := by decide +kernel
theorem dL_fits_34 : decode cL_fits 34 = .ok (.aload_n 1, 1) := by decide +kernel
theorem dL_fits_35 : decode cL_fits 35 = .ok (.iload 6, 2) := by decide +kernel
theorem dL_fits_37 : decode cL_fits 37 = .ok (.iaload, 1) := by decide +kernel
theorem dL_fits_38 : decode cL_fits 38 = .ok (.if_icmp .gt 31, 3) := by decide +kernel
theorem dL_fits_41 : decode cL_fits 41 = .ok (.aload_n 0, 1) := by decide +kernel
theorem dL_fits_42 : decode cL_fits 42 = .ok (.aload_n 2, 1) := by decide +kernel
theorem dL_fits_43 : decode cL_fits 43 = .ok (.iload 4, 2) := by decide +kernel
theorem dL_fits_45 : decode cL_fits 45 = .ok (.iload_n 3, 1) := by decide +kernel
theorem dL_fits_46 : decode cL_fits 46 = .ok (.invokestatic 15, 3) := by decide +kernel
theorem dL_fits_49 : decode cL_fits 49 = .ok (.aload_n 2, 1) := by decide +kernel
theorem dL_fits_50 : decode cL_fits 50 = .ok (.iload_n 3, 1) := by decide +kernel
theorem dL_fits_51 : decode cL_fits 51 = .ok (.iaload, 1) := by decide +kernel
theorem dL_fits_52 : decode cL_fits 52 = .ok (.invokestatic 9, 3) := by decide +kernel
theorem dL_fits_55 : decode cL_fits 55 = .ok (.iadd, 1) := by decide +kernel
theorem dL_fits_56 : decode cL_fits 56 = .ok (.aload_n 1, 1) := by decide +kernel
theorem dL_fits_57 : decode cL_fits 57 = .ok (.iconst 4, 1) := by decide +kernel
theorem dL_fits_58 : decode cL_fits 58 = .ok (.iload 6, 2) := by decide +kernel
theorem dL_fits_60 : decode cL_fits 60 = .ok (.iadd, 1) := by decide +kernel
theorem dL_fits_61 : decode cL_fits 61 = .ok (.iaload, 1) := by decide +kernel
theorem dL_fits_62 : decode cL_fits 62 = .ok (.if_icmp .gt 7, 3) := by decide +kernel
theorem dL_fits_65 : decode cL_fits 65 = .ok (.iconst 1, 1) := by decide +kernel
theorem dL_fits_66 : decode cL_fits 66 = .ok (.goto 4, 3) := by decide +kernel
theorem dL_fits_69 : decode cL_fits 69 = .ok (.iconst 0, 1) := by decide +kernel
theorem dL_fits_70 : decode cL_fits 70 = .ok (.istore 7, 2) := by decide +kernel
theorem dL_fits_72 : decode cL_fits 72 = .ok (.iconst 0, 1) := by decide +kernel
theorem dL_fits_73 : decode cL_fits 73 = .ok (.istore 8, 2) := by decide +kernel
theorem dL_fits_75 : decode cL_fits 75 = .ok (.iload 8, 2) := by decide +kernel
theorem dL_fits_77 : decode cL_fits 77 = .ok (.aload_n 0, 1) := by decide +kernel
theorem dL_fits_78 : decode cL_fits 78 = .ok (.iconst 3, 1) := by decide +kernel
theorem dL_fits_79 : decode cL_fits 79 = .ok (.iaload, 1) := by decide +kernel
theorem dL_fits_80 : decode cL_fits 80 = .ok (.if_icmp .ge 64, 3) := by decide +kernel
theorem dL_fits_83 : decode cL_fits 83 = .ok (.aload_n 2, 1) := by decide +kernel
theorem dL_fits_84 : decode cL_fits 84 = .ok (.bipush 15, 2) := by decide +kernel
theorem dL_fits_86 : decode cL_fits 86 = .ok (.iload 8, 2) := by decide +kernel
theorem dL_fits_88 : decode cL_fits 88 = .ok (.iadd, 1) := by decide +kernel
theorem dL_fits_89 : decode cL_fits 89 = .ok (.iaload, 1) := by decide +kernel
theorem dL_fits_90 : decode cL_fits 90 = .ok (.iload 5, 2) := by decide +kernel
theorem dL_fits_92 : decode cL_fits 92 = .ok (.isub, 1) := by decide +kernel
theorem dL_fits_93 : decode cL_fits 93 = .ok (.istore 9, 2) := by decide +kernel
theorem dL_fits_95 : decode cL_fits 95 = .ok (.iload 7, 2) := by decide +kernel
theorem dL_fits_97 : decode cL_fits 97 = .ok (.ifCond .eq 38, 3) := by decide +kernel
theorem dL_fits_100 : decode cL_fits 100 = .ok (.iload 8, 2) := by decide +kernel
theorem dL_fits_102 : decode cL_fits 102 = .ok (.iload_n 3, 1) := by decide +kernel
theorem dL_fits_103 : decode cL_fits 103 = .ok (.if_icmp .eq 28, 3) := by decide +kernel
theorem dL_fits_106 : decode cL_fits 106 = .ok (.aload_n 2, 1) := by decide +kernel
theorem dL_fits_107 : decode cL_fits 107 = .ok (.bipush 10, 2) := by decide +kernel
theorem dL_fits_109 : decode cL_fits 109 = .ok (.iload 8, 2) := by decide +kernel
theorem dL_fits_111 : decode cL_fits 111 = .ok (.iadd, 1) := by decide +kernel
theorem dL_fits_112 : decode cL_fits 112 = .ok (.iaload, 1) := by decide +kernel
theorem dL_fits_113 : decode cL_fits 113 = .ok (.iload 4, 2) := by decide +kernel
theorem dL_fits_115 : decode cL_fits 115 = .ok (.if_icmp .ne 16, 3) := by decide +kernel
theorem dL_fits_118 : decode cL_fits 118 = .ok (.iload 9, 2) := by decide +kernel
theorem dL_fits_120 : decode cL_fits 120 = .ok (.iconst 2, 1) := by decide +kernel
theorem dL_fits_121 : decode cL_fits 121 = .ok (.if_icmp .gt 10, 3) := by decide +kernel
theorem dL_fits_124 : decode cL_fits 124 = .ok (.iload 9, 2) := by decide +kernel
theorem dL_fits_126 : decode cL_fits 126 = .ok (.bipush (-2), 2) := by decide +kernel
theorem dL_fits_128 : decode cL_fits 128 = .ok (.if_icmp .ge 7, 3) := by decide +kernel
theorem dL_fits_131 : decode cL_fits 131 = .ok (.iconst 1, 1) := by decide +kernel
theorem dL_fits_132 : decode cL_fits 132 = .ok (.goto 4, 3) := by decide +kernel
theorem dL_fits_135 : decode cL_fits 135 = .ok (.iconst 0, 1) := by decide +kernel
theorem dL_fits_136 : decode cL_fits 136 = .ok (.istore 7, 2) := by decide +kernel
theorem dL_fits_138 : decode cL_fits 138 = .ok (.iinc 8 1, 3) := by decide +kernel
theorem dL_fits_141 : decode cL_fits 141 = .ok (.goto (-66), 3) := by decide +kernel
theorem dL_fits_144 : decode cL_fits 144 = .ok (.iload 7, 2) := by decide +kernel
theorem dL_fits_146 : decode cL_fits 146 = .ok (.ireturn, 1) := by decide +kernel
theorem dL_fade_0 : decode cL_fade 0 = .ok (.iload_n 2, 1) := by decide +kernel
theorem dL_fade_1 : decode cL_fade 1 = .ok (.iload_n 3, 1) := by decide +kernel
theorem dL_fade_2 : decode cL_fade 2 = .ok (.if_icmp .lt 5, 3) := by decide +kernel
theorem dL_fade_5 : decode cL_fade 5 = .ok (.iload_n 1, 1) := by decide +kernel
theorem dL_fade_6 : decode cL_fade 6 = .ok (.ireturn, 1) := by decide +kernel
theorem dL_fade_7 : decode cL_fade 7 = .ok (.iload 4, 2) := by decide +kernel
theorem dL_fade_9 : decode cL_fade 9 = .ok (.ifCond .ne 23, 3) := by decide +kernel
theorem dL_fade_12 : decode cL_fade 12 = .ok (.iload_n 0, 1) := by decide +kernel
theorem dL_fade_13 : decode cL_fade 13 = .ok (.iload_n 1, 1) := by decide +kernel
theorem dL_fade_14 : decode cL_fade 14 = .ok (.iload_n 0, 1) := by decide +kernel
theorem dL_fade_15 : decode cL_fade 15 = .ok (.isub, 1) := by decide +kernel
theorem dL_fade_16 : decode cL_fade 16 = .ok (.iload_n 2, 1) := by decide +kernel
theorem dL_fade_17 : decode cL_fade 17 = .ok (.imul, 1) := by decide +kernel
theorem dL_fade_18 : decode cL_fade 18 = .ok (.bipush 100, 2) := by decide +kernel
theorem dL_fade_20 : decode cL_fade 20 = .ok (.iload_n 3, 1) := by decide +kernel
theorem dL_fade_21 : decode cL_fade 21 = .ok (.imul, 1) := by decide +kernel
theorem dL_fade_22 : decode cL_fade 22 = .ok (.iadd, 1) := by decide +kernel
theorem dL_fade_23 : decode cL_fade 23 = .ok (.iload_n 3, 1) := by decide +kernel
theorem dL_fade_24 : decode cL_fade 24 = .ok (.idiv, 1) := by decide +kernel
theorem dL_fade_25 : decode cL_fade 25 = .ok (.iadd, 1) := by decide +kernel
theorem dL_fade_26 : decode cL_fade 26 = .ok (.bipush 100, 2) := by decide +kernel
theorem dL_fade_28 : decode cL_fade 28 = .ok (.isub, 1) := by decide +kernel
theorem dL_fade_29 : decode cL_fade 29 = .ok (.goto 36, 3) := by decide +kernel
theorem dL_fade_32 : decode cL_fade 32 = .ok (.iload 4, 2) := by decide +kernel
theorem dL_fade_34 : decode cL_fade 34 = .ok (.iconst 1, 1) := by decide +kernel
theorem dL_fade_35 : decode cL_fade 35 = .ok (.if_icmp .ne 29, 3) := by decide +kernel
theorem dL_fade_38 : decode cL_fade 38 = .ok (.iload_n 0, 1) := by decide +kernel
theorem dL_fade_39 : decode cL_fade 39 = .ok (.iload_n 1, 1) := by decide +kernel
theorem dL_fade_40 : decode cL_fade 40 = .ok (.iload_n 0, 1) := by decide +kernel
theorem dL_fade_41 : decode cL_fade 41 = .ok (.isub, 1) := by decide +kernel
theorem dL_fade_42 : decode cL_fade 42 = .ok (.iload_n 2, 1) := by decide +kernel
theorem dL_fade_43 : decode cL_fade 43 = .ok (.imul, 1) := by decide +kernel
theorem dL_fade_44 : decode cL_fade 44 = .ok (.iload_n 2, 1) := by decide +kernel
theorem dL_fade_45 : decode cL_fade 45 = .ok (.imul, 1) := by decide +kernel
theorem dL_fade_46 : decode cL_fade 46 = .ok (.bipush 100, 2) := by decide +kernel
theorem dL_fade_48 : decode cL_fade 48 = .ok (.iload_n 3, 1) := by decide +kernel
theorem dL_fade_49 : decode cL_fade 49 = .ok (.imul, 1) := by decide +kernel
theorem dL_fade_50 : decode cL_fade 50 = .ok (.iload_n 3, 1) := by decide +kernel
theorem dL_fade_51 : decode cL_fade 51 = .ok (.imul, 1) := by decide +kernel
theorem dL_fade_52 : decode cL_fade 52 = .ok (.iadd, 1) := by decide +kernel
theorem dL_fade_53 : decode cL_fade 53 = .ok (.iload_n 3, 1) := by decide +kernel
theorem dL_fade_54 : decode cL_fade 54 = .ok (.iload_n 3, 1) := by decide +kernel
theorem dL_fade_55 : decode cL_fade 55 = .ok (.imul, 1) := by decide +kernel
theorem dL_fade_56 : decode cL_fade 56 = .ok (.idiv, 1) := by decide +kernel
theorem dL_fade_57 : decode cL_fade 57 = .ok (.iadd, 1) := by decide +kernel
theorem dL_fade_58 : decode cL_fade 58 = .ok (.bipush 100, 2) := by decide +kernel
theorem dL_fade_60 : decode cL_fade 60 = .ok (.isub, 1) := by decide +kernel
theorem dL_fade_61 : decode cL_fade 61 = .ok (.goto 4, 3) := by decide +kernel
theorem dL_fade_64 : decode cL_fade 64 = .ok (.iload_n 0, 1) := by decide +kernel
theorem dL_fade_65 : decode cL_fade 65 = .ok (.ireturn, 1) := by decide +kernel
set_option maxRecDepth 20000 in
theorem ggL_wanted_L_fade : GoodIn wsL_wanted wsL_fade := goodIn_r _ [4] (by decide +kernel) (by decide +kernel)
set_option maxRecDepth 20000 in
theorem gL_wanted_L_fade : GoodIn wsL_wanted (va_wsS RL 19 yL_fade wsL_fade) := goodIn_app (goodIn_of _ (by decide +kernel)) ggL_wanted_L_fade
theorem dL_wanted_0 : decode cL_wanted 0 = .ok (.iconst 0, 1) := by decide +kernel
theorem dL_wanted_1 : decode cL_wanted 1 = .ok (.istore 5, 2) := by decide +kernel
theorem dL_wanted_3 : decode cL_wanted 3 = .ok (.iconst 0, 1) := by decide +kernel
theorem dL_wanted_4 : decode cL_wanted 4 = .ok (.istore 6, 2) := by decide +kernel
theorem dL_wanted_6 : decode cL_wanted 6 = .ok (.iconst (-1), 1) := by decide +kernel
theorem dL_wanted_7 : decode cL_wanted 7 = .ok (.istore 7, 2) := by decide +kernel
theorem dL_wanted_9 : decode cL_wanted 9 = .ok (.iconst 0, 1) := by decide +kernel
theorem dL_wanted_10 : decode cL_wanted 10 = .ok (.istore 8, 2) := by decide +kernel
theorem dL_wanted_12 : decode cL_wanted 12 = .ok (.iload 8, 2) := by decide +kernel
theorem dL_wanted_14 : decode cL_wanted 14 = .ok (.iload_n 3, 1) := by decide +kernel
theorem dL_wanted_15 : decode cL_wanted 15 = .ok (.if_icmp .ge 91, 3) := by decide +kernel
theorem dL_wanted_18 : decode cL_wanted 18 = .ok (.aload_n 1, 1) := by decide +kernel
theorem dL_wanted_19 : decode cL_wanted 19 = .ok (.bipush 8, 2) := by decide +kernel
theorem dL_wanted_21 : decode cL_wanted 21 = .ok (.iload 8, 2) := by decide +kernel
theorem dL_wanted_23 : decode cL_wanted 23 = .ok (.imul, 1) := by decide +kernel
theorem dL_wanted_24 : decode cL_wanted 24 = .ok (.iconst 3, 1) := by decide +kernel
theorem dL_wanted_25 : decode cL_wanted 25 = .ok (.iadd, 1) := by decide +kernel
theorem dL_wanted_26 : decode cL_wanted 26 = .ok (.iload_n 2, 1) := by decide +kernel
theorem dL_wanted_27 : decode cL_wanted 27 = .ok (.iadd, 1) := by decide +kernel
theorem dL_wanted_28 : decode cL_wanted 28 = .ok (.iaload, 1) := by decide +kernel
theorem dL_wanted_29 : decode cL_wanted 29 = .ok (.ifCond .lt 71, 3) := by decide +kernel
theorem dL_wanted_32 : decode cL_wanted 32 = .ok (.iload 7, 2) := by decide +kernel
theorem dL_wanted_34 : decode cL_wanted 34 = .ok (.ifCond .ge 7, 3) := by decide +kernel
theorem dL_wanted_37 : decode cL_wanted 37 = .ok (.iconst 0, 1) := by decide +kernel
theorem dL_wanted_38 : decode cL_wanted 38 = .ok (.goto 43, 3) := by decide +kernel
theorem dL_wanted_41 : decode cL_wanted 41 = .ok (.iload 5, 2) := by decide +kernel
theorem dL_wanted_43 : decode cL_wanted 43 = .ok (.iload 6, 2) := by decide +kernel
theorem dL_wanted_45 : decode cL_wanted 45 = .ok (.aload_n 1, 1) := by decide +kernel
theorem dL_wanted_46 : decode cL_wanted 46 = .ok (.bipush 8, 2) := by decide +kernel
theorem dL_wanted_48 : decode cL_wanted 48 = .ok (.iload 8, 2) := by decide +kernel
theorem dL_wanted_50 : decode cL_wanted 50 = .ok (.imul, 1) := by decide +kernel
theorem dL_wanted_51 : decode cL_wanted 51 = .ok (.iaload, 1) := by decide +kernel
theorem dL_wanted_52 : decode cL_wanted 52 = .ok (.aload_n 1, 1) := by decide +kernel
theorem dL_wanted_53 : decode cL_wanted 53 = .ok (.bipush 8, 2) := by decide +kernel
theorem dL_wanted_55 : decode cL_wanted 55 = .ok (.iload 7, 2) := by decide +kernel
theorem dL_wanted_57 : decode cL_wanted 57 = .ok (.imul, 1) := by decide +kernel
theorem dL_wanted_58 : decode cL_wanted 58 = .ok (.iaload, 1) := by decide +kernel
theorem dL_wanted_59 : decode cL_wanted 59 = .ok (.isub, 1) := by decide +kernel
theorem dL_wanted_60 : decode cL_wanted 60 = .ok (.aload_n 1, 1) := by decide +kernel
theorem dL_wanted_61 : decode cL_wanted 61 = .ok (.bipush 8, 2) := by decide +kernel
theorem dL_wanted_63 : decode cL_wanted 63 = .ok (.iload 7, 2) := by decide +kernel
theorem dL_wanted_65 : decode cL_wanted 65 = .ok (.imul, 1) := by decide +kernel
theorem dL_wanted_66 : decode cL_wanted 66 = .ok (.iconst 1, 1) := by decide +kernel
theorem dL_wanted_67 : decode cL_wanted 67 = .ok (.iadd, 1) := by decide +kernel
theorem dL_wanted_68 : decode cL_wanted 68 = .ok (.iaload, 1) := by decide +kernel
theorem dL_wanted_69 : decode cL_wanted 69 = .ok (.aload_n 1, 1) := by decide +kernel
theorem dL_wanted_70 : decode cL_wanted 70 = .ok (.bipush 8, 2) := by decide +kernel
theorem dL_wanted_72 : decode cL_wanted 72 = .ok (.iload 7, 2) := by decide +kernel
theorem dL_wanted_74 : decode cL_wanted 74 = .ok (.imul, 1) := by decide +kernel
theorem dL_wanted_75 : decode cL_wanted 75 = .ok (.iconst 2, 1) := by decide +kernel
theorem dL_wanted_76 : decode cL_wanted 76 = .ok (.iadd, 1) := by decide +kernel
theorem dL_wanted_77 : decode cL_wanted 77 = .ok (.iaload, 1) := by decide +kernel
theorem dL_wanted_78 : decode cL_wanted 78 = .ok (.invokestatic 19, 3) := by decide +kernel
theorem dL_wanted_81 : decode cL_wanted 81 = .ok (.istore 5, 2) := by decide +kernel
theorem dL_wanted_83 : decode cL_wanted 83 = .ok (.aload_n 1, 1) := by decide +kernel
theorem dL_wanted_84 : decode cL_wanted 84 = .ok (.bipush 8, 2) := by decide +kernel
theorem dL_wanted_86 : decode cL_wanted 86 = .ok (.iload 8, 2) := by decide +kernel
theorem dL_wanted_88 : decode cL_wanted 88 = .ok (.imul, 1) := by decide +kernel
theorem dL_wanted_89 : decode cL_wanted 89 = .ok (.iconst 3, 1) := by decide +kernel
theorem dL_wanted_90 : decode cL_wanted 90 = .ok (.iadd, 1) := by decide +kernel
theorem dL_wanted_91 : decode cL_wanted 91 = .ok (.iload_n 2, 1) := by decide +kernel
theorem dL_wanted_92 : decode cL_wanted 92 = .ok (.iadd, 1) := by decide +kernel
theorem dL_wanted_93 : decode cL_wanted 93 = .ok (.iaload, 1) := by decide +kernel
theorem dL_wanted_94 : decode cL_wanted 94 = .ok (.istore 6, 2) := by decide +kernel
theorem dL_wanted_96 : decode cL_wanted 96 = .ok (.iload 8, 2) := by decide +kernel
theorem dL_wanted_98 : decode cL_wanted 98 = .ok (.istore 7, 2) := by decide +kernel
theorem dL_wanted_100 : decode cL_wanted 100 = .ok (.iinc 8 1, 3) := by decide +kernel
theorem dL_wanted_103 : decode cL_wanted 103 = .ok (.goto (-91), 3) := by decide +kernel
theorem dL_wanted_106 : decode cL_wanted 106 = .ok (.iload 7, 2) := by decide +kernel
theorem dL_wanted_108 : decode cL_wanted 108 = .ok (.ifCond .ge 7, 3) := by decide +kernel
theorem dL_wanted_111 : decode cL_wanted 111 = .ok (.iconst 0, 1) := by decide +kernel
theorem dL_wanted_112 : decode cL_wanted 112 = .ok (.goto 38, 3) := by decide +kernel
theorem dL_wanted_115 : decode cL_wanted 115 = .ok (.iload 5, 2) := by decide +kernel
theorem dL_wanted_117 : decode cL_wanted 117 = .ok (.iload 6, 2) := by decide +kernel
theorem dL_wanted_119 : decode cL_wanted 119 = .ok (.iload 4, 2) := by decide +kernel
theorem dL_wanted_121 : decode cL_wanted 121 = .ok (.aload_n 1, 1) := by decide +kernel
theorem dL_wanted_122 : decode cL_wanted 122 = .ok (.bipush 8, 2) := by decide +kernel
theorem dL_wanted_124 : decode cL_wanted 124 = .ok (.iload 7, 2) := by decide +kernel
theorem dL_wanted_126 : decode cL_wanted 126 = .ok (.imul, 1) := by decide +kernel
theorem dL_wanted_127 : decode cL_wanted 127 = .ok (.iaload, 1) := by decide +kernel
theorem dL_wanted_128 : decode cL_wanted 128 = .ok (.isub, 1) := by decide +kernel
theorem dL_wanted_129 : decode cL_wanted 129 = .ok (.aload_n 1, 1) := by decide +kernel
theorem dL_wanted_130 : decode cL_wanted 130 = .ok (.bipush 8, 2) := by decide +kernel
theorem dL_wanted_132 : decode cL_wanted 132 = .ok (.iload 7, 2) := by decide +kernel
theorem dL_wanted_134 : decode cL_wanted 134 = .ok (.imul, 1) := by decide +kernel
theorem dL_wanted_135 : decode cL_wanted 135 = .ok (.iconst 1, 1) := by decide +kernel
theorem dL_wanted_136 : decode cL_wanted 136 = .ok (.iadd, 1) := by decide +kernel
theorem dL_wanted_137 : decode cL_wanted 137 = .ok (.iaload, 1) := by decide +kernel
theorem dL_wanted_138 : decode cL_wanted 138 = .ok (.aload_n 1, 1) := by decide +kernel
theorem dL_wanted_139 : decode cL_wanted 139 = .ok (.bipush 8, 2) := by decide +kernel
theorem dL_wanted_141 : decode cL_wanted 141 = .ok (.iload 7, 2) := by decide +kernel
theorem dL_wanted_143 : decode cL_wanted 143 = .ok (.imul, 1) := by decide +kernel
theorem dL_wanted_144 : decode cL_wanted 144 = .ok (.iconst 2, 1) := by decide +kernel
theorem dL_wanted_145 : decode cL_wanted 145 = .ok (.iadd, 1) := by decide +kernel
theorem dL_wanted_146 : decode cL_wanted 146 = .ok (.iaload, 1) := by decide +kernel
theorem dL_wanted_147 : decode cL_wanted 147 = .ok (.invokestatic 19, 3) := by decide +kernel
theorem dL_wanted_150 : decode cL_wanted 150 = .ok (.ireturn, 1) := by decide +kernel
set_option maxRecDepth 20000 in
theorem ggL_level_L_wanted : GoodIn wsL_level wsL_wanted := goodIn_r _ [4, 5, 6, 3, 7] (by decide +kernel) (by decide +kernel)
set_option maxRecDepth 20000 in
theorem gL_level_L_wanted : GoodIn wsL_level (va_wsS RL 23 yL_wanted wsL_wanted) := goodIn_app (goodIn_of _ (by decide +kernel)) ggL_level_L_wanted
theorem dL_level_0 : decode cL_level 0 = .ok (.aload_n 1, 1) := by decide +kernel
theorem dL_level_1 : decode cL_level 1 = .ok (.bipush 10, 2) := by decide +kernel
theorem dL_level_3 : decode cL_level 3 = .ok (.iload_n 3, 1) := by decide +kernel
theorem dL_level_4 : decode cL_level 4 = .ok (.iadd, 1) := by decide +kernel
theorem dL_level_5 : decode cL_level 5 = .ok (.iaload, 1) := by decide +kernel
theorem dL_level_6 : decode cL_level 6 = .ok (.ifCond .lt 13, 3) := by decide +kernel
theorem dL_level_9 : decode cL_level 9 = .ok (.aload_n 1, 1) := by decide +kernel
theorem dL_level_10 : decode cL_level 10 = .ok (.bipush 30, 2) := by decide +kernel
theorem dL_level_12 : decode cL_level 12 = .ok (.iload_n 3, 1) := by decide +kernel
theorem dL_level_13 : decode cL_level 13 = .ok (.iadd, 1) := by decide +kernel
theorem dL_level_14 : decode cL_level 14 = .ok (.iaload, 1) := by decide +kernel
theorem dL_level_15 : decode cL_level 15 = .ok (.iconst 1, 1) := by decide +kernel
theorem dL_level_16 : decode cL_level 16 = .ok (.if_icmp .ne 7, 3) := by decide +kernel
theorem dL_level_19 : decode cL_level 19 = .ok (.iconst 0, 1) := by decide +kernel
theorem dL_level_20 : decode cL_level 20 = .ok (.goto 16, 3) := by decide +kernel
theorem dL_level_23 : decode cL_level 23 = .ok (.aload_n 0, 1) := by decide +kernel
theorem dL_level_24 : decode cL_level 24 = .ok (.aload_n 2, 1) := by decide +kernel
theorem dL_level_25 : decode cL_level 25 = .ok (.iload_n 3, 1) := by decide +kernel
theorem dL_level_26 : decode cL_level 26 = .ok (.aload_n 0, 1) := by decide +kernel
theorem dL_level_27 : decode cL_level 27 = .ok (.iconst 5, 1) := by decide +kernel
theorem dL_level_28 : decode cL_level 28 = .ok (.iaload, 1) := by decide +kernel
theorem dL_level_29 : decode cL_level 29 = .ok (.aload_n 0, 1) := by decide +kernel
theorem dL_level_30 : decode cL_level 30 = .ok (.bipush 7, 2) := by decide +kernel
theorem dL_level_32 : decode cL_level 32 = .ok (.iaload, 1) := by decide +kernel
theorem dL_level_33 : decode cL_level 33 = .ok (.invokestatic 23, 3) := by decide +kernel
theorem dL_level_36 : decode cL_level 36 = .ok (.ireturn, 1) := by decide +kernel
theorem dL_begins_0 : decode cL_begins 0 = .ok (.iconst 0, 1) := by decide +kernel
theorem dL_begins_1 : decode cL_begins 1 = .ok (.istore 4, 2) := by decide +kernel
theorem dL_begins_3 : decode cL_begins 3 = .ok (.aload_n 0, 1) := by decide +kernel
theorem dL_begins_4 : decode cL_begins 4 = .ok (.iconst 5, 1) := by decide +kernel
theorem dL_begins_5 : decode cL_begins 5 = .ok (.iaload, 1) := by decide +kernel
theorem dL_begins_6 : decode cL_begins 6 = .ok (.aload_n 0, 1) := by decide +kernel
theorem dL_begins_7 : decode cL_begins 7 = .ok (.iconst 4, 1) := by decide +kernel
theorem dL_begins_8 : decode cL_begins 8 = .ok (.iaload, 1) := by decide +kernel
theorem dL_begins_9 : decode cL_begins 9 = .ok (.if_icmp .ge 116, 3) := by decide +kernel
theorem dL_begins_12 : decode cL_begins 12 = .ok (.iload 4, 2) := by decide +kernel
theorem dL_begins_14 : decode cL_begins 14 = .ok (.ifCond .eq 16, 3) := by decide +kernel
theorem dL_begins_17 : decode cL_begins 17 = .ok (.aload_n 1, 1) := by decide +kernel
theorem dL_begins_18 : decode cL_begins 18 = .ok (.bipush 8, 2) := by decide +kernel
theorem dL_begins_20 : decode cL_begins 20 = .ok (.aload_n 0, 1) := by decide +kernel
theorem dL_begins_21 : decode cL_begins 21 = .ok (.iconst 5, 1) := by decide +kernel
theorem dL_begins_22 : decode cL_begins 22 = .ok (.iaload, 1) := by decide +kernel
theorem dL_begins_23 : decode cL_begins 23 = .ok (.iadd, 1) := by decide +kernel
theorem dL_begins_24 : decode cL_begins 24 = .ok (.iconst 1, 1) := by decide +kernel
theorem dL_begins_25 : decode cL_begins 25 = .ok (.isub, 1) := by decide +kernel
theorem dL_begins_26 : decode cL_begins 26 = .ok (.iaload, 1) := by decide +kernel
theorem dL_begins_27 : decode cL_begins 27 = .ok (.ifCond .ne 98, 3) := by decide +kernel
theorem dL_begins_30 : decode cL_begins 30 = .ok (.bipush 8, 2) := by decide +kernel
theorem dL_begins_32 : decode cL_begins 32 = .ok (.aload_n 0, 1) := by decide +kernel
theorem dL_begins_33 : decode cL_begins 33 = .ok (.iconst 5, 1) := by decide +kernel
theorem dL_begins_34 : decode cL_begins 34 = .ok (.iaload, 1) := by decide +kernel
theorem dL_begins_35 : decode cL_begins 35 = .ok (.imul, 1) := by decide +kernel
theorem dL_begins_36 : decode cL_begins 36 = .ok (.istore 5, 2) := by decide +kernel
theorem dL_begins_38 : decode cL_begins 38 = .ok (.aload_n 3, 1) := by decide +kernel
theorem dL_begins_39 : decode cL_begins 39 = .ok (.iload 5, 2) := by decide +kernel
theorem dL_begins_41 : decode cL_begins 41 = .ok (.aload_n 0, 1) := by decide +kernel
theorem dL_begins_42 : decode cL_begins 42 = .ok (.bipush 7, 2) := by decide +kernel
theorem dL_begins_44 : decode cL_begins 44 = .ok (.iaload, 1) := by decide +kernel
theorem dL_begins_45 : decode cL_begins 45 = .ok (.iastore, 1) := by decide +kernel
theorem dL_begins_46 : decode cL_begins 46 = .ok (.aload_n 3, 1) := by decide +kernel
theorem dL_begins_47 : decode cL_begins 47 = .ok (.iload 5, 2) := by decide +kernel
theorem dL_begins_49 : decode cL_begins 49 = .ok (.iconst 1, 1) := by decide +kernel
theorem dL_begins_50 : decode cL_begins 50 = .ok (.iadd, 1) := by decide +kernel
theorem dL_begins_51 : decode cL_begins 51 = .ok (.aload_n 1, 1) := by decide +kernel
theorem dL_begins_52 : decode cL_begins 52 = .ok (.aload_n 0, 1) := by decide +kernel
theorem dL_begins_53 : decode cL_begins 53 = .ok (.iconst 5, 1) := by decide +kernel
theorem dL_begins_54 : decode cL_begins 54 = .ok (.iaload, 1) := by decide +kernel
theorem dL_begins_55 : decode cL_begins 55 = .ok (.iaload, 1) := by decide +kernel
theorem dL_begins_56 : decode cL_begins 56 = .ok (.iastore, 1) := by decide +kernel
theorem dL_begins_57 : decode cL_begins 57 = .ok (.aload_n 3, 1) := by decide +kernel
theorem dL_begins_58 : decode cL_begins 58 = .ok (.iload 5, 2) := by decide +kernel
theorem dL_begins_60 : decode cL_begins 60 = .ok (.iconst 2, 1) := by decide +kernel
theorem dL_begins_61 : decode cL_begins 61 = .ok (.iadd, 1) := by decide +kernel
theorem dL_begins_62 : decode cL_begins 62 = .ok (.aload_n 1, 1) := by decide +kernel
theorem dL_begins_63 : decode cL_begins 63 = .ok (.iconst 4, 1) := by decide +kernel
theorem dL_begins_64 : decode cL_begins 64 = .ok (.aload_n 0, 1) := by decide +kernel
theorem dL_begins_65 : decode cL_begins 65 = .ok (.iconst 5, 1) := by decide +kernel
theorem dL_begins_66 : decode cL_begins 66 = .ok (.iaload, 1) := by decide +kernel
theorem dL_begins_67 : decode cL_begins 67 = .ok (.iadd, 1) := by decide +kernel
theorem dL_begins_68 : decode cL_begins 68 = .ok (.iaload, 1) := by decide +kernel
theorem dL_begins_69 : decode cL_begins 69 = .ok (.iastore, 1) := by decide +kernel
theorem dL_begins_70 : decode cL_begins 70 = .ok (.iconst 0, 1) := by decide +kernel
theorem dL_begins_71 : decode cL_begins 71 = .ok (.istore 6, 2) := by decide +kernel
theorem dL_begins_73 : decode cL_begins 73 = .ok (.iload 6, 2) := by decide +kernel
theorem dL_begins_75 : decode cL_begins 75 = .ok (.iconst 5, 1) := by decide +kernel
theorem dL_begins_76 : decode cL_begins 76 = .ok (.if_icmp .ge 28, 3) := by decide +kernel
theorem dL_begins_79 : decode cL_begins 79 = .ok (.aload_n 3, 1) := by decide +kernel
theorem dL_begins_80 : decode cL_begins 80 = .ok (.iload 5, 2) := by decide +kernel
theorem dL_begins_82 : decode cL_begins 82 = .ok (.iconst 3, 1) := by decide +kernel
theorem dL_begins_83 : decode cL_begins 83 = .ok (.iadd, 1) := by decide +kernel
theorem dL_begins_84 : decode cL_begins 84 = .ok (.iload 6, 2) := by decide +kernel
theorem dL_begins_86 : decode cL_begins 86 = .ok (.iadd, 1) := by decide +kernel
theorem dL_begins_87 : decode cL_begins 87 = .ok (.aload_n 2, 1) := by decide +kernel
theorem dL_begins_88 : decode cL_begins 88 = .ok (.iconst 5, 1) := by decide +kernel
theorem dL_begins_89 : decode cL_begins 89 = .ok (.aload_n 0, 1) := by decide +kernel
theorem dL_begins_90 : decode cL_begins 90 = .ok (.iconst 5, 1) := by decide +kernel
theorem dL_begins_91 : decode cL_begins 91 = .ok (.iaload, 1) := by decide +kernel
theorem dL_begins_92 : decode cL_begins 92 = .ok (.imul, 1) := by decide +kernel
theorem dL_begins_93 : decode cL_begins 93 = .ok (.iload 6, 2) := by decide +kernel
theorem dL_begins_95 : decode cL_begins 95 = .ok (.iadd, 1) := by decide +kernel
theorem dL_begins_96 : decode cL_begins 96 = .ok (.iaload, 1) := by decide +kernel
theorem dL_begins_97 : decode cL_begins 97 = .ok (.iastore, 1) := by decide +kernel
theorem dL_begins_98 : decode cL_begins 98 = .ok (.iinc 6 1, 3) := by decide +kernel
theorem dL_begins_101 : decode cL_begins 101 = .ok (.goto (-28), 3) := by decide +kernel
theorem dL_begins_104 : decode cL_begins 104 = .ok (.aload_n 0, 1) := by decide +kernel
theorem dL_begins_105 : decode cL_begins 105 = .ok (.bipush 6, 2) := by decide +kernel
theorem dL_begins_107 : decode cL_begins 107 = .ok (.aload_n 0, 1) := by decide +kernel
theorem dL_begins_108 : decode cL_begins 108 = .ok (.bipush 7, 2) := by decide +kernel
theorem dL_begins_110 : decode cL_begins 110 = .ok (.iaload, 1) := by decide +kernel
theorem dL_begins_111 : decode cL_begins 111 = .ok (.iastore, 1) := by decide +kernel
theorem dL_begins_112 : decode cL_begins 112 = .ok (.aload_n 0, 1) := by decide +kernel
theorem dL_begins_113 : decode cL_begins 113 = .ok (.iconst 5, 1) := by decide +kernel
theorem dL_begins_114 : decode cL_begins 114 = .ok (.dup2, 1) := by decide +kernel
theorem dL_begins_115 : decode cL_begins 115 = .ok (.iaload, 1) := by decide +kernel
theorem dL_begins_116 : decode cL_begins 116 = .ok (.iconst 1, 1) := by decide +kernel
theorem dL_begins_117 : decode cL_begins 117 = .ok (.iadd, 1) := by decide +kernel
theorem dL_begins_118 : decode cL_begins 118 = .ok (.iastore, 1) := by decide +kernel
theorem dL_begins_119 : decode cL_begins 119 = .ok (.iinc 4 1, 3) := by decide +kernel
theorem dL_begins_122 : decode cL_begins 122 = .ok (.goto (-119), 3) := by decide +kernel
theorem dL_begins_125 : decode cL_begins 125 = .ok (.iload 4, 2) := by decide +kernel
theorem dL_begins_127 : decode cL_begins 127 = .ok (.ireturn, 1) := by decide +kernel
set_option maxRecDepth 20000 in
theorem ggL_hangs_X3_bar : GoodIn wsL_hangs wsX3_bar := goodIn_ca (goodIn_ca (goodIn_ca (goodIn_r _ [8, 9, 10, 11, 12, 13, 14, 15, 7, 16, 17, 18, 19, 20, 21, 22, 23, 24, 25, 26, 27, 28, 69, 70, 71, 72, 73, 74, 75, 76, 77, 78, 79, 80, 81, 82, 83] (by decide +kernel) (by decide +kernel)) (goodIn_sub (fun _ h => List.mem_cons_of_mem _ (List.mem_append_left _ (List.mem_append_left _ (List.mem_append_right _ h)))) (by decide +kernel))) (goodIn_sub (fun _ h => List.mem_cons_of_mem _ (List.mem_append_left _ (List.mem_append_right _ h))) (by decide +kernel))) (goodIn_sub (fun _ h => List.mem_cons_of_mem _ (List.mem_append_right _ h)) (by decide +kernel))
set_option maxRecDepth 20000 in
theorem gL_hangs_X3_bar : GoodIn wsL_hangs (wsV RL 27 RX3 yX3_bar wsX3_bar) := goodIn_app (goodIn_of _ (by decide +kernel)) ggL_hangs_X3_bar
set_option maxRecDepth 20000 in
theorem ggL_hangs_X3_hang : GoodIn wsL_hangs wsX3_hang := goodIn_ca (goodIn_ca (goodIn_r _ [32, 9, 10, 11, 12, 13, 33, 34, 35, 7, 36, 37, 38, 39, 40, 41, 42, 20, 43, 44, 23, 45, 46, 47, 48, 24, 26, 27, 28, 49, 50, 51, 52, 53, 25, 54, 55, 56, 57, 58, 59, 60, 61, 62, 63, 64, 65, 66, 67, 68, 69, 70, 71, 72, 73, 74, 75, 76, 77, 78, 79, 80, 81, 82, 83] (by decide +kernel) (by decide +kernel)) (goodIn_sub (fun _ h => List.mem_cons_of_mem _ (List.mem_append_left _ (List.mem_append_left _ (List.mem_append_right _ h)))) (by decide +kernel))) (goodIn_sub (fun _ h => List.mem_cons_of_mem _ (List.mem_append_left _ (List.mem_append_right _ h))) (by decide +kernel))
set_option maxRecDepth 20000 in
theorem gL_hangs_X3_hang : GoodIn wsL_hangs (wsV RL 33 RX3 yX3_hang wsX3_hang) := goodIn_app (goodIn_of _ (by decide +kernel)) ggL_hangs_X3_hang
theorem dL_hangs_0 : decode cL_hangs 0 = .ok (.iload_n 1, 1) := by decide +kernel
theorem dL_hangs_1 : decode cL_hangs 1 = .ok (.ifCond .ne 14, 3) := by decide +kernel
theorem dL_hangs_4 : decode cL_hangs 4 = .ok (.aload_n 0, 1) := by decide +kernel
theorem dL_hangs_5 : decode cL_hangs 5 = .ok (.iload_n 2, 1) := by decide +kernel
theorem dL_hangs_6 : decode cL_hangs 6 = .ok (.iload_n 3, 1) := by decide +kernel
theorem dL_hangs_7 : decode cL_hangs 7 = .ok (.iload 4, 2) := by decide +kernel
theorem dL_hangs_9 : decode cL_hangs 9 = .ok (.invokevirtual 27, 3) := by decide +kernel
theorem dL_hangs_12 : decode cL_hangs 12 = .ok (.goto 11, 3) := by decide +kernel
theorem dL_hangs_15 : decode cL_hangs 15 = .ok (.aload_n 0, 1) := by decide +kernel
theorem dL_hangs_16 : decode cL_hangs 16 = .ok (.iload_n 2, 1) := by decide +kernel
theorem dL_hangs_17 : decode cL_hangs 17 = .ok (.iload_n 3, 1) := by decide +kernel
theorem dL_hangs_18 : decode cL_hangs 18 = .ok (.iload 4, 2) := by decide +kernel
theorem dL_hangs_20 : decode cL_hangs 20 = .ok (.invokevirtual 33, 3) := by decide +kernel
theorem dL_hangs_23 : decode cL_hangs 23 = .ok (.ireturn, 1) := by decide +kernel
theorem dL_hangs_24 : decode cL_hangs 24 = .ok (.astore 5, 2) := by decide +kernel
theorem dL_hangs_26 : decode cL_hangs 26 = .ok (.bipush (-101), 2) := by decide +kernel
theorem dL_hangs_28 : decode cL_hangs 28 = .ok (.ireturn, 1) := by decide +kernel
theorem dL_hangs_29 : decode cL_hangs 29 = .ok (.astore 5, 2) := by decide +kernel
theorem dL_hangs_31 : decode cL_hangs 31 = .ok (.bipush (-102), 2) := by decide +kernel
theorem dL_hangs_33 : decode cL_hangs 33 = .ok (.ireturn, 1) := by decide +kernel
theorem dL_hangs_34 : decode cL_hangs 34 = .ok (.astore 5, 2) := by decide +kernel
theorem dL_hangs_36 : decode cL_hangs 36 = .ok (.bipush (-103), 2) := by decide +kernel
theorem dL_hangs_38 : decode cL_hangs 38 = .ok (.ireturn, 1) := by decide +kernel
set_option maxRecDepth 20000 in
theorem ggL_made_X3_lamp : GoodIn wsL_made wsX3_lamp := goodIn_ca (goodIn_ca (goodIn_r _ [7, 8, 9, 10, 11, 12, 13, 14, 15, 6, 16, 17, 18, 19, 20, 21, 22, 23, 24, 25, 26, 27, 41, 42, 43, 44, 45, 46, 47, 48, 49, 50, 51, 52, 53, 54, 55, 56, 57, 58, 59] (by decide +kernel) (by decide +kernel)) (goodIn_sub (fun _ h => List.mem_cons_of_mem _ (List.mem_append_left _ (List.mem_append_right _ h))) (by decide +kernel))) (goodIn_sub (fun _ h => List.mem_cons_of_mem _ (List.mem_append_right _ h)) (by decide +kernel))
set_option maxRecDepth 20000 in
theorem gL_made_X3_lamp : GoodIn wsL_made (wsV RL 42 RX3 yX3_lamp wsX3_lamp) := goodIn_app (goodIn_of _ (by decide +kernel)) ggL_made_X3_lamp
set_option maxRecDepth 20000 in
theorem ggL_made_X3_cue : GoodIn wsL_made wsX3_cue := goodIn_ca (goodIn_ca (goodIn_r _ [31, 8, 9, 32, 14, 15, 6, 16, 17, 18, 33, 34, 35, 36, 37, 38, 39, 40, 41, 42, 43, 44, 45, 46, 47, 60, 61, 62, 63, 64, 65, 66, 67, 68, 69, 70] (by decide +kernel) (by decide +kernel)) (goodIn_sub (fun _ h => List.mem_cons_of_mem _ (List.mem_append_left _ (List.mem_append_right _ h))) (by decide +kernel))) (goodIn_sub (fun _ h => List.mem_cons_of_mem _ (List.mem_append_right _ h)) (by decide +kernel))
set_option maxRecDepth 20000 in
theorem gL_made_X3_cue : GoodIn wsL_made (wsV RL 46 RX3 yX3_cue wsX3_cue) := goodIn_app (goodIn_of _ (by decide +kernel)) ggL_made_X3_cue
theorem dL_made_0 : decode cL_made 0 = .ok (.iload_n 1, 1) := by decide +kernel
theorem dL_made_1 : decode cL_made 1 = .ok (.ifCond .ne 12, 3) := by decide +kernel
theorem dL_made_4 : decode cL_made 4 = .ok (.aload_n 0, 1) := by decide +kernel
theorem dL_made_5 : decode cL_made 5 = .ok (.iload_n 2, 1) := by decide +kernel
theorem dL_made_6 : decode cL_made 6 = .ok (.iload_n 3, 1) := by decide +kernel
theorem dL_made_7 : decode cL_made 7 = .ok (.invokevirtual 42, 3) := by decide +kernel
theorem dL_made_10 : decode cL_made 10 = .ok (.goto 11, 3) := by decide +kernel
theorem dL_made_13 : decode cL_made 13 = .ok (.aload_n 0, 1) := by decide +kernel
theorem dL_made_14 : decode cL_made 14 = .ok (.iload_n 2, 1) := by decide +kernel
theorem dL_made_15 : decode cL_made 15 = .ok (.iload_n 3, 1) := by decide +kernel
theorem dL_made_16 : decode cL_made 16 = .ok (.iload 4, 2) := by decide +kernel
theorem dL_made_18 : decode cL_made 18 = .ok (.invokevirtual 46, 3) := by decide +kernel
theorem dL_made_21 : decode cL_made 21 = .ok (.ireturn, 1) := by decide +kernel
theorem dL_made_22 : decode cL_made 22 = .ok (.astore 5, 2) := by decide +kernel
theorem dL_made_24 : decode cL_made 24 = .ok (.bipush (-101), 2) := by decide +kernel
theorem dL_made_26 : decode cL_made 26 = .ok (.ireturn, 1) := by decide +kernel
theorem dL_made_27 : decode cL_made 27 = .ok (.astore 5, 2) := by decide +kernel
theorem dL_made_29 : decode cL_made 29 = .ok (.bipush (-102), 2) := by decide +kernel
theorem dL_made_31 : decode cL_made 31 = .ok (.ireturn, 1) := by decide +kernel
set_option maxRecDepth 20000 in
theorem ggL_set_X3_patch : GoodIn wsL_set wsX3_patch := goodIn_ca (goodIn_ca (goodIn_r _ [8, 9, 10, 11, 12, 7, 13, 14, 15, 16, 17, 18, 19, 20, 21, 22, 23, 24, 25, 26, 27, 28, 29, 30, 31, 59, 60, 61, 62, 63, 64, 65, 66, 67, 68, 69] (by decide +kernel) (by decide +kernel)) (goodIn_sub (fun _ h => List.mem_cons_of_mem _ (List.mem_append_left _ (List.mem_append_left _ (List.mem_append_right _ h)))) (by decide +kernel))) (goodIn_sub (fun _ h => List.mem_cons_of_mem _ (List.mem_append_left _ (List.mem_append_right _ h))) (by decide +kernel))
set_option maxRecDepth 20000 in
theorem gL_set_X3_patch : GoodIn wsL_set (wsV RL 49 RX3 yX3_patch wsX3_patch) := goodIn_app (goodIn_of _ (by decide +kernel)) ggL_set_X3_patch
set_option maxRecDepth 20000 in
theorem ggL_set_X3_name : GoodIn wsL_set wsX3_name := goodIn_ca (goodIn_ca (goodIn_r _ [35, 14, 15, 36, 10, 11, 12, 7, 13, 16, 17, 18, 19, 20, 21, 37, 38, 39, 59, 60, 61, 62, 63, 64, 65, 70, 71, 72, 73, 74, 75, 76, 77, 78, 79, 80] (by decide +kernel) (by decide +kernel)) (goodIn_sub (fun _ h => List.mem_cons_of_mem _ (List.mem_append_left _ (List.mem_append_left _ (List.mem_append_right _ h)))) (by decide +kernel))) (goodIn_sub (fun _ h => List.mem_cons_of_mem _ (List.mem_append_left _ (List.mem_append_right _ h))) (by decide +kernel))
set_option maxRecDepth 20000 in
theorem gL_set_X3_name : GoodIn wsL_set (wsV RL 52 RX3 yX3_name wsX3_name) := goodIn_app (goodIn_of _ (by decide +kernel)) ggL_set_X3_name
set_option maxRecDepth 20000 in
theorem ggL_set_X3_colour : GoodIn wsL_set wsX3_colour := goodIn_ca (goodIn_ca (goodIn_r _ [43, 44, 45, 10, 11, 12, 7, 13, 14, 15, 16, 17, 18, 19, 20, 21, 59, 60, 61, 62, 63, 64, 65] (by decide +kernel) (by decide +kernel)) (goodIn_sub (fun _ h => List.mem_cons_of_mem _ (List.mem_append_left _ (List.mem_append_left _ (List.mem_append_right _ h)))) (by decide +kernel))) (goodIn_sub (fun _ h => List.mem_cons_of_mem _ (List.mem_append_left _ (List.mem_append_right _ h))) (by decide +kernel))
set_option maxRecDepth 20000 in
theorem gL_set_X3_colour : GoodIn wsL_set (wsV RL 55 RX3 yX3_colour wsX3_colour) := goodIn_app (goodIn_of _ (by decide +kernel)) ggL_set_X3_colour
set_option maxRecDepth 20000 in
theorem ggL_set_X3_standIn : GoodIn wsL_set wsX3_standIn := goodIn_ca (goodIn_ca (goodIn_ca (goodIn_r _ [49, 20, 21, 50, 51, 52, 36, 10, 11, 12, 7, 13, 14, 15, 16, 53, 38, 54, 55, 56, 57, 58, 37, 39, 59, 60, 61, 62, 63, 64, 65, 70, 71, 72, 73, 74, 75, 76, 77, 78, 79, 80] (by decide +kernel) (by decide +kernel)) (goodIn_sub (fun _ h => List.mem_cons_of_mem _ (List.mem_append_left _ (List.mem_append_right _ h))) (by decide +kernel))) (goodIn_sub (fun _ h => List.mem_cons_of_mem _ (List.mem_append_right _ h)) (by decide +kernel))) (goodIn_sub (fun _ h => List.mem_cons_of_mem _ (List.mem_append_left _ (List.mem_append_left _ (List.mem_append_right _ h)))) (by decide +kernel))
set_option maxRecDepth 20000 in
theorem gL_set_X3_standIn : GoodIn wsL_set (wsV RL 58 RX3 yX3_standIn wsX3_standIn) := goodIn_app (goodIn_of _ (by decide +kernel)) ggL_set_X3_standIn
theorem dL_set_0 : decode cL_set 0 = .ok (.iload_n 1, 1) := by decide +kernel
theorem dL_set_1 : decode cL_set 1 = .ok (.ifCond .ne 12, 3) := by decide +kernel
theorem dL_set_4 : decode cL_set 4 = .ok (.aload_n 0, 1) := by decide +kernel
theorem dL_set_5 : decode cL_set 5 = .ok (.iload_n 2, 1) := by decide +kernel
theorem dL_set_6 : decode cL_set 6 = .ok (.iload_n 3, 1) := by decide +kernel
theorem dL_set_7 : decode cL_set 7 = .ok (.invokevirtual 49, 3) := by decide +kernel
theorem dL_set_10 : decode cL_set 10 = .ok (.goto 39, 3) := by decide +kernel
theorem dL_set_13 : decode cL_set 13 = .ok (.iload_n 1, 1) := by decide +kernel
theorem dL_set_14 : decode cL_set 14 = .ok (.iconst 1, 1) := by decide +kernel
theorem dL_set_15 : decode cL_set 15 = .ok (.if_icmp .ne 14, 3) := by decide +kernel
theorem dL_set_18 : decode cL_set 18 = .ok (.aload_n 0, 1) := by decide +kernel
theorem dL_set_19 : decode cL_set 19 = .ok (.iload_n 2, 1) := by decide +kernel
theorem dL_set_20 : decode cL_set 20 = .ok (.iload_n 3, 1) := by decide +kernel
theorem dL_set_21 : decode cL_set 21 = .ok (.iload 4, 2) := by decide +kernel
theorem dL_set_23 : decode cL_set 23 = .ok (.invokevirtual 52, 3) := by decide +kernel
theorem dL_set_26 : decode cL_set 26 = .ok (.goto 23, 3) := by decide +kernel
theorem dL_set_29 : decode cL_set 29 = .ok (.iload_n 1, 1) := by decide +kernel
theorem dL_set_30 : decode cL_set 30 = .ok (.iconst 2, 1) := by decide +kernel
theorem dL_set_31 : decode cL_set 31 = .ok (.if_icmp .ne 12, 3) := by decide +kernel
theorem dL_set_34 : decode cL_set 34 = .ok (.aload_n 0, 1) := by decide +kernel
theorem dL_set_35 : decode cL_set 35 = .ok (.iload_n 2, 1) := by decide +kernel
theorem dL_set_36 : decode cL_set 36 = .ok (.iload_n 3, 1) := by decide +kernel
theorem dL_set_37 : decode cL_set 37 = .ok (.invokevirtual 55, 3) := by decide +kernel
theorem dL_set_40 : decode cL_set 40 = .ok (.goto 9, 3) := by decide +kernel
theorem dL_set_43 : decode cL_set 43 = .ok (.aload_n 0, 1) := by decide +kernel
theorem dL_set_44 : decode cL_set 44 = .ok (.iload_n 2, 1) := by decide +kernel
theorem dL_set_45 : decode cL_set 45 = .ok (.iload_n 3, 1) := by decide +kernel
theorem dL_set_46 : decode cL_set 46 = .ok (.invokevirtual 58, 3) := by decide +kernel
theorem dL_set_49 : decode cL_set 49 = .ok (.ireturn, 1) := by decide +kernel
theorem dL_set_50 : decode cL_set 50 = .ok (.astore 5, 2) := by decide +kernel
theorem dL_set_52 : decode cL_set 52 = .ok (.bipush (-101), 2) := by decide +kernel
theorem dL_set_54 : decode cL_set 54 = .ok (.ireturn, 1) := by decide +kernel
theorem dL_set_55 : decode cL_set 55 = .ok (.astore 5, 2) := by decide +kernel
theorem dL_set_57 : decode cL_set 57 = .ok (.bipush (-102), 2) := by decide +kernel
theorem dL_set_59 : decode cL_set 59 = .ok (.ireturn, 1) := by decide +kernel
theorem dL_set_60 : decode cL_set 60 = .ok (.astore 5, 2) := by decide +kernel
theorem dL_set_62 : decode cL_set 62 = .ok (.bipush (-103), 2) := by decide +kernel
theorem dL_set_64 : decode cL_set 64 = .ok (.ireturn, 1) := by decide +kernel
set_option maxRecDepth 20000 in
theorem ggL_goes_X3_go : GoodIn wsL_goes wsX3_go := goodIn_ca (goodIn_r _ [6, 7, 8, 9, 10, 11, 12, 13, 14, 15, 16, 17, 18, 19, 20, 21, 22, 23, 24, 25, 26, 27, 28, 29, 30, 31, 32, 33, 34, 35, 36, 37, 38, 39, 40, 41, 42, 43, 44, 45, 46, 47, 48, 49, 50, 51, 52, 53, 54, 55, 56, 57, 58, 59, 60] (by decide +kernel) (by decide +kernel)) (goodIn_sub (fun _ h => List.mem_cons_of_mem _ (List.mem_append_right _ h)) (by decide +kernel))
set_option maxRecDepth 20000 in
theorem gL_goes_X3_go : GoodIn wsL_goes (wsV RL 61 RX3 yX3_go wsX3_go) := goodIn_app (goodIn_of _ (by decide +kernel)) ggL_goes_X3_go
theorem dL_goes_0 : decode cL_goes 0 = .ok (.aload_n 0, 1) := by decide +kernel
theorem dL_goes_1 : decode cL_goes 1 = .ok (.invokevirtual 61, 3) := by decide +kernel
theorem dL_goes_4 : decode cL_goes 4 = .ok (.ireturn, 1) := by decide +kernel
theorem dL_goes_5 : decode cL_goes 5 = .ok (.astore_n 1, 1) := by decide +kernel
theorem dL_goes_6 : decode cL_goes 6 = .ok (.bipush (-101), 2) := by decide +kernel
theorem dL_goes_8 : decode cL_goes 8 = .ok (.ireturn, 1) := by decide +kernel
set_option maxRecDepth 20000 in
theorem ggL_ticks_X3_tick : GoodIn wsL_ticks wsX3_tick := goodIn_ca (goodIn_r _ [6, 7, 8, 9, 5, 10, 11, 12, 13, 14, 15, 16, 17, 18, 19, 20, 21, 22, 23, 24, 25, 26, 27, 28, 29, 30, 31, 32, 33, 34, 35, 36, 37, 38, 39, 40, 41, 42, 43, 44, 45, 46, 47, 48, 49, 50, 51, 52, 53, 54, 55, 56, 57, 58, 59, 60, 61, 62, 63, 64, 65, 66, 82, 83, 84, 85, 86, 87, 88, 89, 90, 91, 92, 93, 94, 95, 96, 97, 98, 99, 100, 101, 102, 103, 104, 105, 106, 107] (by decide +kernel) (by decide +kernel)) (goodIn_sub (fun _ h => List.mem_cons_of_mem _ (List.mem_append_right _ h)) (by decide +kernel))
set_option maxRecDepth 20000 in
theorem gL_ticks_X3_tick : GoodIn wsL_ticks (wsV RL 65 RX3 yX3_tick wsX3_tick) := goodIn_app (goodIn_of _ (by decide +kernel)) ggL_ticks_X3_tick
set_option maxRecDepth 20000 in
theorem ggL_ticks_X3_gap : GoodIn wsL_ticks wsX3_gap := goodIn_ca (goodIn_r _ [70, 71, 8, 9, 5, 10, 11, 12, 72, 73, 74, 75, 76, 77, 78, 79, 80, 81, 82, 83, 84, 85, 86, 87, 88, 108, 109, 110, 111] (by decide +kernel) (by decide +kernel)) (goodIn_sub (fun _ h => List.mem_cons_of_mem _ (List.mem_append_right _ h)) (by decide +kernel))
set_option maxRecDepth 20000 in
theorem gL_ticks_X3_gap : GoodIn wsL_ticks (wsV RL 68 RX3 yX3_gap wsX3_gap) := goodIn_app (goodIn_of _ (by decide +kernel)) ggL_ticks_X3_gap
theorem dL_ticks_0 : decode cL_ticks 0 = .ok (.iload_n 1, 1) := by decide +kernel
theorem dL_ticks_1 : decode cL_ticks 1 = .ok (.ifCond .ne 11, 3) := by decide +kernel
theorem dL_ticks_4 : decode cL_ticks 4 = .ok (.aload_n 0, 1) := by decide +kernel
theorem dL_ticks_5 : decode cL_ticks 5 = .ok (.iload_n 2, 1) := by decide +kernel
theorem dL_ticks_6 : decode cL_ticks 6 = .ok (.invokevirtual 65, 3) := by decide +kernel
theorem dL_ticks_9 : decode cL_ticks 9 = .ok (.goto 8, 3) := by decide +kernel
theorem dL_ticks_12 : decode cL_ticks 12 = .ok (.aload_n 0, 1) := by decide +kernel
theorem dL_ticks_13 : decode cL_ticks 13 = .ok (.iload_n 2, 1) := by decide +kernel
theorem dL_ticks_14 : decode cL_ticks 14 = .ok (.invokevirtual 68, 3) := by decide +kernel
theorem dL_ticks_17 : decode cL_ticks 17 = .ok (.ireturn, 1) := by decide +kernel
theorem dL_ticks_18 : decode cL_ticks 18 = .ok (.astore_n 3, 1) := by decide +kernel
theorem dL_ticks_19 : decode cL_ticks 19 = .ok (.bipush (-101), 2) := by decide +kernel
theorem dL_ticks_21 : decode cL_ticks 21 = .ok (.ireturn, 1) := by decide +kernel
set_option maxRecDepth 20000 in
theorem ggL_of_X3_down : GoodIn wsL_of wsX3_down := goodIn_ca (goodIn_r _ [6, 7, 8, 9, 10, 5, 11, 12, 13, 14, 15, 16, 17, 18, 19, 98, 99, 100, 101, 102, 103, 104, 105, 106, 107, 108, 109, 110, 111, 112] (by decide +kernel) (by decide +kernel)) (goodIn_sub (fun _ h => List.mem_cons_of_mem _ (List.mem_append_right _ h)) (by decide +kernel))
set_option maxRecDepth 20000 in
theorem gL_of_X3_down : GoodIn wsL_of (wsV RL 71 RX3 yX3_down wsX3_down) := goodIn_app (goodIn_of _ (by decide +kernel)) ggL_of_X3_down
set_option maxRecDepth 20000 in
theorem ggL_of_X3_onBar : GoodIn wsL_of wsX3_onBar := goodIn_ca (goodIn_r _ [23, 12, 13, 7, 24, 25, 26, 5, 27, 28, 16, 29, 30, 31, 32, 33, 34, 35, 19, 36, 37, 38, 39, 40, 98, 99, 100, 101, 102, 103, 104, 105, 106, 107, 108, 109, 110, 111, 112] (by decide +kernel) (by decide +kernel)) (goodIn_sub (fun _ h => List.mem_cons_of_mem _ (List.mem_append_right _ h)) (by decide +kernel))
set_option maxRecDepth 20000 in
theorem gL_of_X3_onBar : GoodIn wsL_of (wsV RL 75 RX3 yX3_onBar wsX3_onBar) := goodIn_app (goodIn_of _ (by decide +kernel)) ggL_of_X3_onBar
set_option maxRecDepth 20000 in
theorem ggL_of_X3_where : GoodIn wsL_of wsX3_where := goodIn_ca (goodIn_r _ [44, 7, 8, 9, 10, 5, 11, 12, 13, 14, 15, 16, 17, 18, 19, 98, 99, 100, 101, 102, 103, 104, 105, 106, 107, 108, 109, 110, 111, 112] (by decide +kernel) (by decide +kernel)) (goodIn_sub (fun _ h => List.mem_cons_of_mem _ (List.mem_append_right _ h)) (by decide +kernel))
set_option maxRecDepth 20000 in
theorem gL_of_X3_where : GoodIn wsL_of (wsV RL 78 RX3 yX3_where wsX3_where) := goodIn_app (goodIn_of _ (by decide +kernel)) ggL_of_X3_where
set_option maxRecDepth 20000 in
theorem ggL_of_X3_plug : GoodIn wsL_of wsX3_plug := goodIn_ca (goodIn_r _ [48, 49, 8, 9, 10, 5, 11, 12, 13, 14, 50, 51, 52, 98, 99, 100, 101, 102, 103, 104, 113, 114, 115, 116] (by decide +kernel) (by decide +kernel)) (goodIn_sub (fun _ h => List.mem_cons_of_mem _ (List.mem_append_right _ h)) (by decide +kernel))
set_option maxRecDepth 20000 in
theorem gL_of_X3_plug : GoodIn wsL_of (wsV RL 81 RX3 yX3_plug wsX3_plug) := goodIn_app (goodIn_of _ (by decide +kernel)) ggL_of_X3_plug
set_option maxRecDepth 20000 in
theorem ggL_of_X3_load : GoodIn wsL_of wsX3_load := goodIn_ca (goodIn_r _ [56, 14, 49, 50, 51, 5, 52, 12, 13, 57, 58, 59, 60, 7, 61, 62, 15, 16, 17, 18, 19, 63, 64, 65, 66, 67, 68, 69, 70, 71, 72, 73, 74, 75, 76, 77, 78, 79, 80, 81, 98, 99, 100, 101, 102, 103, 104, 113, 114, 115, 116, 105, 106, 107, 108, 109, 110, 111, 112, 117, 118, 119, 120, 121, 122, 123, 124, 125, 126, 127] (by decide +kernel) (by decide +kernel)) (goodIn_sub (fun _ h => List.mem_cons_of_mem _ (List.mem_append_right _ h)) (by decide +kernel))
set_option maxRecDepth 20000 in
theorem gL_of_X3_load : GoodIn wsL_of (wsV RL 84 RX3 yX3_load wsX3_load) := goodIn_app (goodIn_of _ (by decide +kernel)) ggL_of_X3_load
set_option maxRecDepth 20000 in
theorem ggL_of_X3_level : GoodIn wsL_of wsX3_level := goodIn_ca (goodIn_r _ [85, 8, 9, 10, 5, 11, 12, 13, 14, 57, 58, 59, 60, 7, 61, 62, 15, 16, 17, 18, 19, 63, 64, 65, 66, 67, 68, 69, 70, 71, 72, 73, 74, 75, 76, 77, 78, 79, 80, 81, 98, 99, 100, 101, 102, 103, 104, 105, 106, 107, 108, 109, 110, 111, 112, 117, 118, 119, 120, 121, 122, 123, 124, 125, 126, 127] (by decide +kernel) (by decide +kernel)) (goodIn_sub (fun _ h => List.mem_cons_of_mem _ (List.mem_append_right _ h)) (by decide +kernel))
set_option maxRecDepth 20000 in
theorem gL_of_X3_level : GoodIn wsL_of (wsV RL 87 RX3 yX3_level wsX3_level) := goodIn_app (goodIn_of _ (by decide +kernel)) ggL_of_X3_level
set_option maxRecDepth 20000 in
theorem ggL_of_X3_wanted : GoodIn wsL_of wsX3_wanted := goodIn_ca (goodIn_r _ [89, 62, 8, 9, 10, 5, 11, 12, 13, 14, 63, 64, 65, 66, 67, 68, 69, 70, 71, 72, 73, 74, 75, 76, 77, 78, 79, 80, 81, 98, 99, 100, 101, 102, 103, 104, 117, 118, 119, 120, 121, 122, 123, 124, 125, 126, 127] (by decide +kernel) (by decide +kernel)) (goodIn_sub (fun _ h => List.mem_cons_of_mem _ (List.mem_append_right _ h)) (by decide +kernel))
set_option maxRecDepth 20000 in
theorem gL_of_X3_wanted : GoodIn wsL_of (wsV RL 90 RX3 yX3_wanted wsX3_wanted) := goodIn_app (goodIn_of _ (by decide +kernel)) ggL_of_X3_wanted
set_option maxRecDepth 20000 in
theorem ggL_of_X3_wantedByCues : GoodIn wsL_of wsX3_wantedByCues := goodIn_ca (goodIn_r _ [93, 62, 8, 9, 10, 5, 11, 12, 13, 14, 63, 64, 65, 66, 67, 68, 69, 70, 71, 72, 73, 74, 75, 76, 77, 78, 79, 80, 81, 98, 99, 100, 101, 102, 103, 104, 117, 118, 119, 120, 121, 122, 123, 124, 125, 126, 127] (by decide +kernel) (by decide +kernel)) (goodIn_sub (fun _ h => List.mem_cons_of_mem _ (List.mem_append_right _ h)) (by decide +kernel))
set_option maxRecDepth 20000 in
theorem gL_of_X3_wantedByCues : GoodIn wsL_of (wsV RL 92 RX3 yX3_wantedByCues wsX3_wantedByCues) := goodIn_app (goodIn_of _ (by decide +kernel)) ggL_of_X3_wantedByCues
set_option maxRecDepth 20000 in
theorem ggL_of_X3_bulb : GoodIn wsL_of wsX3_bulb := goodIn_ca (goodIn_r _ [97, 61, 8, 9, 10, 5, 11, 12, 13, 14, 98, 99, 100, 101, 102, 103, 104] (by decide +kernel) (by decide +kernel)) (goodIn_sub (fun _ h => List.mem_cons_of_mem _ (List.mem_append_right _ h)) (by decide +kernel))
set_option maxRecDepth 20000 in
theorem gL_of_X3_bulb : GoodIn wsL_of (wsV RL 95 RX3 yX3_bulb wsX3_bulb) := goodIn_app (goodIn_of _ (by decide +kernel)) ggL_of_X3_bulb
theorem dL_of_0 : decode cL_of 0 = .ok (.iload_n 1, 1) := by decide +kernel
theorem dL_of_1 : decode cL_of 1 = .ok (.ifCond .ne 19, 3) := by decide +kernel
theorem dL_of_4 : decode cL_of 4 = .ok (.aload_n 0, 1) := by decide +kernel
theorem dL_of_5 : decode cL_of 5 = .ok (.iload_n 2, 1) := by decide +kernel
theorem dL_of_6 : decode cL_of 6 = .ok (.invokevirtual 71, 3) := by decide +kernel
theorem dL_of_9 : decode cL_of 9 = .ok (.ifCond .eq 7, 3) := by decide +kernel
theorem dL_of_12 : decode cL_of 12 = .ok (.iconst 1, 1) := by decide +kernel
theorem dL_of_13 : decode cL_of 13 = .ok (.goto 115, 3) := by decide +kernel
theorem dL_of_16 : decode cL_of 16 = .ok (.iconst 0, 1) := by decide +kernel
theorem dL_of_17 : decode cL_of 17 = .ok (.goto 111, 3) := by decide +kernel
theorem dL_of_20 : decode cL_of 20 = .ok (.iload_n 1, 1) := by decide +kernel
theorem dL_of_21 : decode cL_of 21 = .ok (.iconst 1, 1) := by decide +kernel
theorem dL_of_22 : decode cL_of 22 = .ok (.if_icmp .ne 12, 3) := by decide +kernel
theorem dL_of_25 : decode cL_of 25 = .ok (.aload_n 0, 1) := by decide +kernel
theorem dL_of_26 : decode cL_of 26 = .ok (.iload_n 2, 1) := by decide +kernel
theorem dL_of_27 : decode cL_of 27 = .ok (.iload_n 3, 1) := by decide +kernel
theorem dL_of_28 : decode cL_of 28 = .ok (.invokevirtual 75, 3) := by decide +kernel
theorem dL_of_31 : decode cL_of 31 = .ok (.goto 97, 3) := by decide +kernel
theorem dL_of_34 : decode cL_of 34 = .ok (.iload_n 1, 1) := by decide +kernel
theorem dL_of_35 : decode cL_of 35 = .ok (.iconst 2, 1) := by decide +kernel
theorem dL_of_36 : decode cL_of 36 = .ok (.if_icmp .ne 11, 3) := by decide +kernel
theorem dL_of_39 : decode cL_of 39 = .ok (.aload_n 0, 1) := by decide +kernel
theorem dL_of_40 : decode cL_of 40 = .ok (.iload_n 2, 1) := by decide +kernel
theorem dL_of_41 : decode cL_of 41 = .ok (.invokevirtual 78, 3) := by decide +kernel
theorem dL_of_44 : decode cL_of 44 = .ok (.goto 84, 3) := by decide +kernel
theorem dL_of_47 : decode cL_of 47 = .ok (.iload_n 1, 1) := by decide +kernel
theorem dL_of_48 : decode cL_of 48 = .ok (.iconst 3, 1) := by decide +kernel
theorem dL_of_49 : decode cL_of 49 = .ok (.if_icmp .ne 12, 3) := by decide +kernel
theorem dL_of_52 : decode cL_of 52 = .ok (.aload_n 0, 1) := by decide +kernel
theorem dL_of_53 : decode cL_of 53 = .ok (.iload_n 2, 1) := by decide +kernel
theorem dL_of_54 : decode cL_of 54 = .ok (.iload_n 3, 1) := by decide +kernel
theorem dL_of_55 : decode cL_of 55 = .ok (.invokevirtual 81, 3) := by decide +kernel
theorem dL_of_58 : decode cL_of 58 = .ok (.goto 70, 3) := by decide +kernel
theorem dL_of_61 : decode cL_of 61 = .ok (.iload_n 1, 1) := by decide +kernel
theorem dL_of_62 : decode cL_of 62 = .ok (.iconst 4, 1) := by decide +kernel
theorem dL_of_63 : decode cL_of 63 = .ok (.if_icmp .ne 11, 3) := by decide +kernel
theorem dL_of_66 : decode cL_of 66 = .ok (.aload_n 0, 1) := by decide +kernel
theorem dL_of_67 : decode cL_of 67 = .ok (.iload_n 2, 1) := by decide +kernel
theorem dL_of_68 : decode cL_of 68 = .ok (.invokevirtual 84, 3) := by decide +kernel
theorem dL_of_71 : decode cL_of 71 = .ok (.goto 57, 3) := by decide +kernel
theorem dL_of_74 : decode cL_of 74 = .ok (.iload_n 1, 1) := by decide +kernel
theorem dL_of_75 : decode cL_of 75 = .ok (.iconst 5, 1) := by decide +kernel
theorem dL_of_76 : decode cL_of 76 = .ok (.if_icmp .ne 11, 3) := by decide +kernel
theorem dL_of_79 : decode cL_of 79 = .ok (.aload_n 0, 1) := by decide +kernel
theorem dL_of_80 : decode cL_of 80 = .ok (.iload_n 2, 1) := by decide +kernel
theorem dL_of_81 : decode cL_of 81 = .ok (.invokevirtual 87, 3) := by decide +kernel
theorem dL_of_84 : decode cL_of 84 = .ok (.goto 44, 3) := by decide +kernel
theorem dL_of_87 : decode cL_of 87 = .ok (.iload_n 1, 1) := by decide +kernel
theorem dL_of_88 : decode cL_of 88 = .ok (.bipush 6, 2) := by decide +kernel
theorem dL_of_90 : decode cL_of 90 = .ok (.if_icmp .ne 11, 3) := by decide +kernel
theorem dL_of_93 : decode cL_of 93 = .ok (.aload_n 0, 1) := by decide +kernel
theorem dL_of_94 : decode cL_of 94 = .ok (.iload_n 2, 1) := by decide +kernel
theorem dL_of_95 : decode cL_of 95 = .ok (.invokevirtual 90, 3) := by decide +kernel
theorem dL_of_98 : decode cL_of 98 = .ok (.goto 30, 3) := by decide +kernel
theorem dL_of_101 : decode cL_of 101 = .ok (.iload_n 1, 1) := by decide +kernel
theorem dL_of_102 : decode cL_of 102 = .ok (.bipush 7, 2) := by decide +kernel
theorem dL_of_104 : decode cL_of 104 = .ok (.if_icmp .ne 11, 3) := by decide +kernel
theorem dL_of_107 : decode cL_of 107 = .ok (.aload_n 0, 1) := by decide +kernel
theorem dL_of_108 : decode cL_of 108 = .ok (.iload_n 2, 1) := by decide +kernel
theorem dL_of_109 : decode cL_of 109 = .ok (.invokevirtual 92, 3) := by decide +kernel
theorem dL_of_112 : decode cL_of 112 = .ok (.goto 16, 3) := by decide +kernel
theorem dL_of_115 : decode cL_of 115 = .ok (.aload_n 0, 1) := by decide +kernel
theorem dL_of_116 : decode cL_of 116 = .ok (.iload_n 2, 1) := by decide +kernel
theorem dL_of_117 : decode cL_of 117 = .ok (.invokevirtual 95, 3) := by decide +kernel
theorem dL_of_120 : decode cL_of 120 = .ok (.ifCond .eq 7, 3) := by decide +kernel
theorem dL_of_123 : decode cL_of 123 = .ok (.iconst 1, 1) := by decide +kernel
theorem dL_of_124 : decode cL_of 124 = .ok (.goto 4, 3) := by decide +kernel
theorem dL_of_127 : decode cL_of 127 = .ok (.iconst 0, 1) := by decide +kernel
theorem dL_of_128 : decode cL_of 128 = .ok (.ireturn, 1) := by decide +kernel
theorem dL_of_129 : decode cL_of 129 = .ok (.astore 4, 2) := by decide +kernel
theorem dL_of_131 : decode cL_of 131 = .ok (.bipush (-101), 2) := by decide +kernel
theorem dL_of_133 : decode cL_of 133 = .ok (.ireturn, 1) := by decide +kernel
set_option maxRecDepth 20000 in
theorem ggL_rigs_L_some : GoodIn wsL_rigs wsL_some := goodIn_r _ [5] (by decide +kernel) (by decide +kernel)
set_option maxRecDepth 20000 in
theorem gL_rigs_L_some : GoodIn wsL_rigs (va_wsS RL 98 yL_some wsL_some) := goodIn_app (goodIn_of _ (by decide +kernel)) ggL_rigs_L_some
set_option maxRecDepth 20000 in
theorem ggL_rigs_L_hangs : GoodIn wsL_rigs wsL_hangs := goodIn_ca (goodIn_ca (goodIn_ca (goodIn_r _ [8, 9, 10, 11, 12, 13, 14, 15, 16, 17, 18, 19, 20, 21, 22, 23, 24, 25, 26, 27, 28, 29, 30, 31, 32, 33, 34, 35, 36, 37, 38, 39, 40, 41, 42, 43, 44, 45, 46, 47, 48, 49, 50, 51, 52, 53, 54, 55, 56, 57, 58, 59, 60, 61, 62, 63, 64, 65, 66, 67, 68, 69, 70, 71, 72, 73, 74, 75, 76, 250, 251, 252, 253, 254, 255, 256, 257, 258, 259, 260, 261, 262, 263, 264] (by decide +kernel) (by decide +kernel)) (goodIn_sub (fun _ h => List.mem_cons_of_mem _ (List.mem_append_left _ (List.mem_append_left _ (List.mem_append_right _ h)))) (by decide +kernel))) (goodIn_sub (fun _ h => List.mem_cons_of_mem _ (List.mem_append_left _ (List.mem_append_right _ h))) (by decide +kernel))) (goodIn_sub (fun _ h => List.mem_cons_of_mem _ (List.mem_append_right _ h)) (by decide +kernel))
set_option maxRecDepth 20000 in
theorem gL_rigs_L_hangs : GoodIn wsL_rigs (va_wsS RL 101 yL_hangs wsL_hangs) := goodIn_app (goodIn_of _ (by decide +kernel)) ggL_rigs_L_hangs
set_option maxRecDepth 20000 in
theorem ggL_rigs_L_made : GoodIn wsL_rigs wsL_made := goodIn_ca (goodIn_ca (goodIn_r _ [79, 10, 11, 80, 81, 82, 15, 83, 19, 20, 45, 84, 21, 85, 22, 23, 24, 25, 26, 86, 87, 88, 89, 90, 91, 92, 93, 94, 95, 96, 97, 98, 99, 100, 101, 102, 103, 104, 105, 106, 107, 250, 251, 252, 253, 254, 255, 256, 257, 258, 259, 260, 261, 262, 263, 264, 265, 266, 267, 268, 269, 270, 271, 272, 273, 274, 275, 276, 277, 278, 279] (by decide +kernel) (by decide +kernel)) (goodIn_sub (fun _ h => List.mem_cons_of_mem _ (List.mem_append_left _ (List.mem_append_right _ h))) (by decide +kernel))) (goodIn_sub (fun _ h => List.mem_cons_of_mem _ (List.mem_append_right _ h)) (by decide +kernel))
set_option maxRecDepth 20000 in
theorem gL_rigs_L_made : GoodIn wsL_rigs (va_wsS RL 105 yL_made wsL_made) := goodIn_app (goodIn_of _ (by decide +kernel)) ggL_rigs_L_made
set_option maxRecDepth 20000 in
theorem ggL_rigs_L_fits : GoodIn wsL_rigs wsL_fits := goodIn_r _ [110, 111, 112, 4, 113, 114, 115, 116] (by decide +kernel) (by decide +kernel)
set_option maxRecDepth 20000 in
theorem gL_rigs_L_fits : GoodIn wsL_rigs (va_wsS RL 108 yL_fits wsL_fits) := goodIn_app (goodIn_of _ (by decide +kernel)) ggL_rigs_L_fits
set_option maxRecDepth 20000 in
theorem ggL_rigs_L_weight : GoodIn wsL_rigs wsL_weight := goodIn_r _ [113, 114, 115, 4, 116] (by decide +kernel) (by decide +kernel)
set_option maxRecDepth 20000 in
theorem gL_rigs_L_weight : GoodIn wsL_rigs (va_wsS RL 15 yL_weight wsL_weight) := goodIn_app (goodIn_of _ (by decide +kernel)) ggL_rigs_L_weight
set_option maxRecDepth 20000 in
theorem ggL_rigs_L_of : GoodIn wsL_rigs wsL_of := goodIn_ca (goodIn_r _ [119, 9, 120, 121, 122, 15, 123, 21, 41, 42, 43, 44, 17, 18, 45, 124, 28, 125, 126, 60, 127, 128, 129, 130, 46, 47, 48, 49, 50, 51, 52, 31, 53, 131, 132, 133, 69, 134, 135, 136, 137, 138, 139, 140, 141, 142, 143, 144, 145, 85, 146, 147, 148, 149, 150, 151, 152, 153, 154, 155, 156, 157, 99, 158, 101, 159, 160, 161, 104, 162, 163, 105, 164, 165, 106, 166, 167, 168, 169, 170, 171, 172, 173, 174, 175, 176, 177, 178, 179, 180, 181, 182, 183, 184, 185, 186, 187, 188, 250, 251, 252, 253, 254, 255, 256, 257, 258, 259, 260, 261, 262, 263, 264, 265, 266, 267, 268, 269, 270, 271, 272, 273, 274, 275, 276, 277, 278, 279] (by decide +kernel) (by decide +kernel)) (goodIn_sub (fun _ h => List.mem_cons_of_mem _ (List.mem_append_left _ (List.mem_append_left _ (List.mem_append_right _ h)))) (by decide +kernel))
set_option maxRecDepth 20000 in
theorem gL_rigs_L_of : GoodIn wsL_rigs (va_wsS RL 112 yL_of wsL_of) := goodIn_app (goodIn_of _ (by decide +kernel)) ggL_rigs_L_of
set_option maxRecDepth 20000 in
theorem ggL_rigs_X3_tour : GoodIn wsL_rigs wsX3_tour := goodIn_r _ [192, 21, 193, 28, 194, 195, 196, 60, 53, 197, 198, 199, 200, 69, 201, 50, 51, 52, 31, 202, 57, 58, 59, 61, 33, 62, 63, 64, 65, 34, 35, 36, 203, 204, 205, 206, 207, 54, 55, 56, 32, 208, 66, 67, 68, 70, 71, 72, 73, 209, 74, 75, 76, 250, 251, 252, 253, 254, 255, 256, 257, 258, 259, 260, 261, 262, 263, 264] (by decide +kernel) (by decide +kernel)
set_option maxRecDepth 20000 in
theorem gL_rigs_X3_tour : GoodIn wsL_rigs (wsV RL 116 RX3 yX3_tour wsX3_tour) := goodIn_app (goodIn_of _ (by decide +kernel)) ggL_rigs_X3_tour
set_option maxRecDepth 20000 in
theorem ggL_rigs_L_has : GoodIn wsL_rigs wsL_has := goodIn_r _ [212] (by decide +kernel) (by decide +kernel)
set_option maxRecDepth 20000 in
theorem gL_rigs_L_has : GoodIn wsL_rigs (va_wsS RL 119 yL_has wsL_has) := goodIn_app (goodIn_of _ (by decide +kernel)) ggL_rigs_L_has
