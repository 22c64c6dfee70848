set_option maxRecDepth 20000 in
theorem ggL_bar_X3_bar : GoodIn wsL_bar wsX3_bar := goodIn_ca (goodIn_ca (goodIn_ca (goodIn_r _ [8, 9, 10, 11, 12, 13, 14, 15, 7, 16, 17, 18, 19, 20, 21, 22, 23, 24, 25, 26, 27, 28, 29, 30, 31, 32, 33, 34, 35, 36, 37, 38, 39, 40, 41, 42, 43] (by decide +kernel) (by decide +kernel)) (goodIn_sub (fun _ h => List.mem_cons_of_mem _ (List.mem_append_left _ (List.mem_append_left _ (List.mem_append_right _ h)))) (by decide +kernel))) (goodIn_sub (fun _ h => List.mem_cons_of_mem _ (List.mem_append_left _ (List.mem_append_right _ h))) (by decide +kernel))) (goodIn_sub (fun _ h => List.mem_cons_of_mem _ (List.mem_append_right _ h)) (by decide +kernel))
set_option maxRecDepth 20000 in
theorem gL_bar_X3_bar : GoodIn wsL_bar (wsV RL 7 RX3 yX3_bar wsX3_bar) := goodIn_app (goodIn_of _ (by decide +kernel)) ggL_bar_X3_bar
theorem dL_bar_0 : decode cL_bar 0 = .ok (.aload 4, 2) := by decide +kernel
theorem dL_bar_2 : decode cL_bar 2 = .ok (.iconst 0, 1) := by decide +kernel
theorem dL_bar_3 : decode cL_bar 3 = .ok (.aload_n 0, 1) := by decide +kernel
theorem dL_bar_4 : decode cL_bar 4 = .ok (.iload_n 1, 1) := by decide +kernel
theorem dL_bar_5 : decode cL_bar 5 = .ok (.iload_n 2, 1) := by decide +kernel
theorem dL_bar_6 : decode cL_bar 6 = .ok (.iload_n 3, 1) := by decide +kernel
theorem dL_bar_7 : decode cL_bar 7 = .ok (.invokevirtual 7, 3) := by decide +kernel
theorem dL_bar_10 : decode cL_bar 10 = .ok (.i2l, 1) := by decide +kernel
theorem dL_bar_11 : decode cL_bar 11 = .ok (.lastore, 1) := by decide +kernel
theorem dL_bar_12 : decode cL_bar 12 = .ok (.goto 15, 3) := by decide +kernel
theorem dL_bar_15 : decode cL_bar 15 = .ok (.astore 5, 2) := by decide +kernel
theorem dL_bar_17 : decode cL_bar 17 = .ok (.iconst 1, 1) := by decide +kernel
theorem dL_bar_18 : decode cL_bar 18 = .ok (.ireturn, 1) := by decide +kernel
theorem dL_bar_19 : decode cL_bar 19 = .ok (.astore 5, 2) := by decide +kernel
theorem dL_bar_21 : decode cL_bar 21 = .ok (.iconst 2, 1) := by decide +kernel
theorem dL_bar_22 : decode cL_bar 22 = .ok (.ireturn, 1) := by decide +kernel
theorem dL_bar_23 : decode cL_bar 23 = .ok (.astore 5, 2) := by decide +kernel
theorem dL_bar_25 : decode cL_bar 25 = .ok (.iconst 3, 1) := by decide +kernel
theorem dL_bar_26 : decode cL_bar 26 = .ok (.ireturn, 1) := by decide +kernel
theorem dL_bar_27 : decode cL_bar 27 = .ok (.iconst 0, 1) := by decide +kernel
theorem dL_bar_28 : decode cL_bar 28 = .ok (.ireturn, 1) := by decide +kernel
set_option maxRecDepth 20000 in
theorem ggL_lamp_X3_lamp : GoodIn wsL_lamp wsX3_lamp := goodIn_ca (goodIn_ca (goodIn_r _ [7, 8, 9, 10, 11, 12, 13, 14, 15, 6, 16, 17, 18, 19, 20, 21, 22, 23, 24, 25, 26, 27, 28, 29, 30, 31, 32, 33, 34, 35, 36, 37, 38, 39, 40, 41, 42, 43, 44, 45, 46] (by decide +kernel) (by decide +kernel)) (goodIn_sub (fun _ h => List.mem_cons_of_mem _ (List.mem_append_left _ (List.mem_append_right _ h))) (by decide +kernel))) (goodIn_sub (fun _ h => List.mem_cons_of_mem _ (List.mem_append_right _ h)) (by decide +kernel))
set_option maxRecDepth 20000 in
theorem gL_lamp_X3_lamp : GoodIn wsL_lamp (wsV RL 19 RX3 yX3_lamp wsX3_lamp) := goodIn_app (goodIn_of _ (by decide +kernel)) ggL_lamp_X3_lamp
theorem dL_lamp_0 : decode cL_lamp 0 = .ok (.aload_n 3, 1) := by decide +kernel
theorem dL_lamp_1 : decode cL_lamp 1 = .ok (.iconst 0, 1) := by decide +kernel
theorem dL_lamp_2 : decode cL_lamp 2 = .ok (.aload_n 0, 1) := by decide +kernel
theorem dL_lamp_3 : decode cL_lamp 3 = .ok (.iload_n 1, 1) := by decide +kernel
theorem dL_lamp_4 : decode cL_lamp 4 = .ok (.iload_n 2, 1) := by decide +kernel
theorem dL_lamp_5 : decode cL_lamp 5 = .ok (.invokevirtual 19, 3) := by decide +kernel
theorem dL_lamp_8 : decode cL_lamp 8 = .ok (.i2l, 1) := by decide +kernel
theorem dL_lamp_9 : decode cL_lamp 9 = .ok (.lastore, 1) := by decide +kernel
theorem dL_lamp_10 : decode cL_lamp 10 = .ok (.goto 11, 3) := by decide +kernel
theorem dL_lamp_13 : decode cL_lamp 13 = .ok (.astore 4, 2) := by decide +kernel
theorem dL_lamp_15 : decode cL_lamp 15 = .ok (.iconst 1, 1) := by decide +kernel
theorem dL_lamp_16 : decode cL_lamp 16 = .ok (.ireturn, 1) := by decide +kernel
theorem dL_lamp_17 : decode cL_lamp 17 = .ok (.astore 4, 2) := by decide +kernel
theorem dL_lamp_19 : decode cL_lamp 19 = .ok (.iconst 2, 1) := by decide +kernel
theorem dL_lamp_20 : decode cL_lamp 20 = .ok (.ireturn, 1) := by decide +kernel
theorem dL_lamp_21 : decode cL_lamp 21 = .ok (.iconst 0, 1) := by decide +kernel
theorem dL_lamp_22 : decode cL_lamp 22 = .ok (.ireturn, 1) := by decide +kernel
set_option maxRecDepth 20000 in
theorem ggL_hang_X3_hang : GoodIn wsL_hang wsX3_hang := goodIn_ca (goodIn_ca (goodIn_r _ [7, 8, 9, 10, 11, 12, 13, 14, 15, 6, 16, 17, 18, 19, 20, 21, 22, 23, 24, 25, 26, 27, 28, 29, 30, 31, 32, 33, 34, 35, 36, 37, 38, 39, 40, 41, 42, 43, 44, 45, 46, 47, 48, 49, 50, 51, 52, 53, 54, 55, 56, 57, 58, 59, 60, 61, 62, 63, 64, 65, 66, 67, 68, 69, 70] (by decide +kernel) (by decide +kernel)) (goodIn_sub (fun _ h => List.mem_cons_of_mem _ (List.mem_append_left _ (List.mem_append_right _ h))) (by decide +kernel))) (goodIn_sub (fun _ h => List.mem_cons_of_mem _ (List.mem_append_right _ h)) (by decide +kernel))
set_option maxRecDepth 20000 in
theorem gL_hang_X3_hang : GoodIn wsL_hang (wsV RL 23 RX3 yX3_hang wsX3_hang) := goodIn_app (goodIn_of _ (by decide +kernel)) ggL_hang_X3_hang
theorem dL_hang_0 : decode cL_hang 0 = .ok (.aload 4, 2) := by decide +kernel
theorem dL_hang_2 : decode cL_hang 2 = .ok (.iconst 0, 1) := by decide +kernel
theorem dL_hang_3 : decode cL_hang 3 = .ok (.aload_n 0, 1) := by decide +kernel
theorem dL_hang_4 : decode cL_hang 4 = .ok (.iload_n 1, 1) := by decide +kernel
theorem dL_hang_5 : decode cL_hang 5 = .ok (.iload_n 2, 1) := by decide +kernel
theorem dL_hang_6 : decode cL_hang 6 = .ok (.iload_n 3, 1) := by decide +kernel
theorem dL_hang_7 : decode cL_hang 7 = .ok (.invokevirtual 23, 3) := by decide +kernel
theorem dL_hang_10 : decode cL_hang 10 = .ok (.i2l, 1) := by decide +kernel
theorem dL_hang_11 : decode cL_hang 11 = .ok (.lastore, 1) := by decide +kernel
theorem dL_hang_12 : decode cL_hang 12 = .ok (.goto 11, 3) := by decide +kernel
theorem dL_hang_15 : decode cL_hang 15 = .ok (.astore 5, 2) := by decide +kernel
theorem dL_hang_17 : decode cL_hang 17 = .ok (.iconst 1, 1) := by decide +kernel
theorem dL_hang_18 : decode cL_hang 18 = .ok (.ireturn, 1) := by decide +kernel
theorem dL_hang_19 : decode cL_hang 19 = .ok (.astore 5, 2) := by decide +kernel
theorem dL_hang_21 : decode cL_hang 21 = .ok (.iconst 2, 1) := by decide +kernel
theorem dL_hang_22 : decode cL_hang 22 = .ok (.ireturn, 1) := by decide +kernel
theorem dL_hang_23 : decode cL_hang 23 = .ok (.iconst 0, 1) := by decide +kernel
theorem dL_hang_24 : decode cL_hang 24 = .ok (.ireturn, 1) := by decide +kernel
set_option maxRecDepth 20000 in
theorem ggL_down_X3_down : GoodIn wsL_down wsX3_down := goodIn_ca (goodIn_r _ [6, 7, 8, 9, 10, 5, 11, 12, 13, 14, 15, 16, 17, 18, 19, 20, 21, 22, 23, 24, 25, 26, 27, 28, 29, 30, 31, 32, 33, 34] (by decide +kernel) (by decide +kernel)) (goodIn_sub (fun _ h => List.mem_cons_of_mem _ (List.mem_append_right _ h)) (by decide +kernel))
set_option maxRecDepth 20000 in
theorem gL_down_X3_down : GoodIn wsL_down (wsV RL 26 RX3 yX3_down wsX3_down) := goodIn_app (goodIn_of _ (by decide +kernel)) ggL_down_X3_down
theorem dL_down_0 : decode cL_down 0 = .ok (.aload_n 2, 1) := by decide +kernel
theorem dL_down_1 : decode cL_down 1 = .ok (.iconst 0, 1) := by decide +kernel
theorem dL_down_2 : decode cL_down 2 = .ok (.aload_n 0, 1) := by decide +kernel
theorem dL_down_3 : decode cL_down 3 = .ok (.iload_n 1, 1) := by decide +kernel
theorem dL_down_4 : decode cL_down 4 = .ok (.invokevirtual 26, 3) := by decide +kernel
theorem dL_down_7 : decode cL_down 7 = .ok (.ifCond .eq 7, 3) := by decide +kernel
theorem dL_down_10 : decode cL_down 10 = .ok (.lconst 1, 1) := by decide +kernel
theorem dL_down_11 : decode cL_down 11 = .ok (.goto 4, 3) := by decide +kernel
theorem dL_down_14 : decode cL_down 14 = .ok (.lconst 0, 1) := by decide +kernel
theorem dL_down_15 : decode cL_down 15 = .ok (.lastore, 1) := by decide +kernel
theorem dL_down_16 : decode cL_down 16 = .ok (.goto 6, 3) := by decide +kernel
theorem dL_down_19 : decode cL_down 19 = .ok (.astore_n 3, 1) := by decide +kernel
theorem dL_down_20 : decode cL_down 20 = .ok (.iconst 1, 1) := by decide +kernel
theorem dL_down_21 : decode cL_down 21 = .ok (.ireturn, 1) := by decide +kernel
theorem dL_down_22 : decode cL_down 22 = .ok (.iconst 0, 1) := by decide +kernel
theorem dL_down_23 : decode cL_down 23 = .ok (.ireturn, 1) := by decide +kernel
set_option maxRecDepth 20000 in
theorem ggL_onBar_X3_onBar : GoodIn wsL_onBar wsX3_onBar := goodIn_ca (goodIn_r _ [6, 7, 8, 9, 10, 11, 12, 5, 13, 14, 15, 16, 17, 18, 19, 20, 21, 22, 23, 24, 25, 26, 27, 28, 29, 30, 31, 32, 33, 34, 35, 36, 37, 38, 39, 40, 41, 42, 43] (by decide +kernel) (by decide +kernel)) (goodIn_sub (fun _ h => List.mem_cons_of_mem _ (List.mem_append_right _ h)) (by decide +kernel))
set_option maxRecDepth 20000 in
theorem gL_onBar_X3_onBar : GoodIn wsL_onBar (wsV RL 30 RX3 yX3_onBar wsX3_onBar) := goodIn_app (goodIn_of _ (by decide +kernel)) ggL_onBar_X3_onBar
theorem dL_onBar_0 : decode cL_onBar 0 = .ok (.aload_n 3, 1) := by decide +kernel
theorem dL_onBar_1 : decode cL_onBar 1 = .ok (.iconst 0, 1) := by decide +kernel
theorem dL_onBar_2 : decode cL_onBar 2 = .ok (.aload_n 0, 1) := by decide +kernel
theorem dL_onBar_3 : decode cL_onBar 3 = .ok (.iload_n 1, 1) := by decide +kernel
theorem dL_onBar_4 : decode cL_onBar 4 = .ok (.iload_n 2, 1) := by decide +kernel
theorem dL_onBar_5 : decode cL_onBar 5 = .ok (.invokevirtual 30, 3) := by decide +kernel
theorem dL_onBar_8 : decode cL_onBar 8 = .ok (.i2l, 1) := by decide +kernel
theorem dL_onBar_9 : decode cL_onBar 9 = .ok (.lastore, 1) := by decide +kernel
theorem dL_onBar_10 : decode cL_onBar 10 = .ok (.goto 7, 3) := by decide +kernel
theorem dL_onBar_13 : decode cL_onBar 13 = .ok (.astore 4, 2) := by decide +kernel
theorem dL_onBar_15 : decode cL_onBar 15 = .ok (.iconst 1, 1) := by decide +kernel
theorem dL_onBar_16 : decode cL_onBar 16 = .ok (.ireturn, 1) := by decide +kernel
theorem dL_onBar_17 : decode cL_onBar 17 = .ok (.iconst 0, 1) := by decide +kernel
theorem dL_onBar_18 : decode cL_onBar 18 = .ok (.ireturn, 1) := by decide +kernel
set_option maxRecDepth 20000 in
theorem ggL_where_X3_where : GoodIn wsL_where wsX3_where := goodIn_ca (goodIn_r _ [6, 7, 8, 9, 10, 5, 11, 12, 13, 14, 15, 16, 17, 18, 19, 20, 21, 22, 23, 24, 25, 26, 27, 28, 29, 30, 31, 32, 33, 34] (by decide +kernel) (by decide +kernel)) (goodIn_sub (fun _ h => List.mem_cons_of_mem _ (List.mem_append_right _ h)) (by decide +kernel))
set_option maxRecDepth 20000 in
theorem gL_where_X3_where : GoodIn wsL_where (wsV RL 33 RX3 yX3_where wsX3_where) := goodIn_app (goodIn_of _ (by decide +kernel)) ggL_where_X3_where
theorem dL_where_0 : decode cL_where 0 = .ok (.aload_n 2, 1) := by decide +kernel
theorem dL_where_1 : decode cL_where 1 = .ok (.iconst 0, 1) := by decide +kernel
theorem dL_where_2 : decode cL_where 2 = .ok (.aload_n 0, 1) := by decide +kernel
theorem dL_where_3 : decode cL_where 3 = .ok (.iload_n 1, 1) := by decide +kernel
theorem dL_where_4 : decode cL_where 4 = .ok (.invokevirtual 33, 3) := by decide +kernel
theorem dL_where_7 : decode cL_where 7 = .ok (.i2l, 1) := by decide +kernel
theorem dL_where_8 : decode cL_where 8 = .ok (.lastore, 1) := by decide +kernel
theorem dL_where_9 : decode cL_where 9 = .ok (.goto 6, 3) := by decide +kernel
theorem dL_where_12 : decode cL_where 12 = .ok (.astore_n 3, 1) := by decide +kernel
theorem dL_where_13 : decode cL_where 13 = .ok (.iconst 1, 1) := by decide +kernel
theorem dL_where_14 : decode cL_where 14 = .ok (.ireturn, 1) := by decide +kernel
theorem dL_where_15 : decode cL_where 15 = .ok (.iconst 0, 1) := by decide +kernel
theorem dL_where_16 : decode cL_where 16 = .ok (.ireturn, 1) := by decide +kernel
set_option maxRecDepth 20000 in
theorem ggL_patch_X3_patch : GoodIn wsL_patch wsX3_patch := goodIn_ca (goodIn_ca (goodIn_r _ [7, 8, 9, 10, 11, 6, 12, 13, 14, 15, 16, 17, 18, 19, 20, 21, 22, 23, 24, 25, 26, 27, 28, 29, 30, 31, 32, 33, 34, 35, 36, 37, 38, 39, 40, 41] (by decide +kernel) (by decide +kernel)) (goodIn_sub (fun _ h => List.mem_cons_of_mem _ (List.mem_append_left _ (List.mem_append_right _ h))) (by decide +kernel))) (goodIn_sub (fun _ h => List.mem_cons_of_mem _ (List.mem_append_right _ h)) (by decide +kernel))
set_option maxRecDepth 20000 in
theorem gL_patch_X3_patch : GoodIn wsL_patch (wsV RL 37 RX3 yX3_patch wsX3_patch) := goodIn_app (goodIn_of _ (by decide +kernel)) ggL_patch_X3_patch
theorem dL_patch_0 : decode cL_patch 0 = .ok (.aload_n 3, 1) := by decide +kernel
theorem dL_patch_1 : decode cL_patch 1 = .ok (.iconst 0, 1) := by decide +kernel
theorem dL_patch_2 : decode cL_patch 2 = .ok (.aload_n 0, 1) := by decide +kernel
theorem dL_patch_3 : decode cL_patch 3 = .ok (.iload_n 1, 1) := by decide +kernel
theorem dL_patch_4 : decode cL_patch 4 = .ok (.iload_n 2, 1) := by decide +kernel
theorem dL_patch_5 : decode cL_patch 5 = .ok (.invokevirtual 37, 3) := by decide +kernel
theorem dL_patch_8 : decode cL_patch 8 = .ok (.i2l, 1) := by decide +kernel
theorem dL_patch_9 : decode cL_patch 9 = .ok (.lastore, 1) := by decide +kernel
theorem dL_patch_10 : decode cL_patch 10 = .ok (.goto 11, 3) := by decide +kernel
theorem dL_patch_13 : decode cL_patch 13 = .ok (.astore 4, 2) := by decide +kernel
theorem dL_patch_15 : decode cL_patch 15 = .ok (.iconst 1, 1) := by decide +kernel
theorem dL_patch_16 : decode cL_patch 16 = .ok (.ireturn, 1) := by decide +kernel
theorem dL_patch_17 : decode cL_patch 17 = .ok (.astore 4, 2) := by decide +kernel
theorem dL_patch_19 : decode cL_patch 19 = .ok (.iconst 2, 1) := by decide +kernel
theorem dL_patch_20 : decode cL_patch 20 = .ok (.ireturn, 1) := by decide +kernel
theorem dL_patch_21 : decode cL_patch 21 = .ok (.iconst 0, 1) := by decide +kernel
theorem dL_patch_22 : decode cL_patch 22 = .ok (.ireturn, 1) := by decide +kernel
set_option maxRecDepth 20000 in
theorem ggL_gap_X3_gap : GoodIn wsL_gap wsX3_gap := goodIn_ca (goodIn_r _ [6, 7, 8, 9, 5, 10, 11, 12, 13, 14, 15, 16, 17, 18, 19, 20, 21, 22, 23, 24, 25, 26, 27, 28, 29, 30, 31, 32, 33] (by decide +kernel) (by decide +kernel)) (goodIn_sub (fun _ h => List.mem_cons_of_mem _ (List.mem_append_right _ h)) (by decide +kernel))
set_option maxRecDepth 20000 in
theorem gL_gap_X3_gap : GoodIn wsL_gap (wsV RL 40 RX3 yX3_gap wsX3_gap) := goodIn_app (goodIn_of _ (by decide +kernel)) ggL_gap_X3_gap
theorem dL_gap_0 : decode cL_gap 0 = .ok (.aload_n 2, 1) := by decide +kernel
theorem dL_gap_1 : decode cL_gap 1 = .ok (.iconst 0, 1) := by decide +kernel
theorem dL_gap_2 : decode cL_gap 2 = .ok (.aload_n 0, 1) := by decide +kernel
theorem dL_gap_3 : decode cL_gap 3 = .ok (.iload_n 1, 1) := by decide +kernel
theorem dL_gap_4 : decode cL_gap 4 = .ok (.invokevirtual 40, 3) := by decide +kernel
theorem dL_gap_7 : decode cL_gap 7 = .ok (.i2l, 1) := by decide +kernel
theorem dL_gap_8 : decode cL_gap 8 = .ok (.lastore, 1) := by decide +kernel
theorem dL_gap_9 : decode cL_gap 9 = .ok (.goto 6, 3) := by decide +kernel
theorem dL_gap_12 : decode cL_gap 12 = .ok (.astore_n 3, 1) := by decide +kernel
theorem dL_gap_13 : decode cL_gap 13 = .ok (.iconst 1, 1) := by decide +kernel
theorem dL_gap_14 : decode cL_gap 14 = .ok (.ireturn, 1) := by decide +kernel
theorem dL_gap_15 : decode cL_gap 15 = .ok (.iconst 0, 1) := by decide +kernel
theorem dL_gap_16 : decode cL_gap 16 = .ok (.ireturn, 1) := by decide +kernel
set_option maxRecDepth 20000 in
theorem ggL_plug_X3_plug : GoodIn wsL_plug wsX3_plug := goodIn_ca (goodIn_r _ [6, 7, 8, 9, 10, 5, 11, 12, 13, 14, 15, 16, 17, 18, 19, 20, 21, 22, 23, 24, 25, 26, 27, 28] (by decide +kernel) (by decide +kernel)) (goodIn_sub (fun _ h => List.mem_cons_of_mem _ (List.mem_append_right _ h)) (by decide +kernel))
set_option maxRecDepth 20000 in
theorem gL_plug_X3_plug : GoodIn wsL_plug (wsV RL 43 RX3 yX3_plug wsX3_plug) := goodIn_app (goodIn_of _ (by decide +kernel)) ggL_plug_X3_plug
theorem dL_plug_0 : decode cL_plug 0 = .ok (.aload_n 3, 1) := by decide +kernel
theorem dL_plug_1 : decode cL_plug 1 = .ok (.iconst 0, 1) := by decide +kernel
theorem dL_plug_2 : decode cL_plug 2 = .ok (.aload_n 0, 1) := by decide +kernel
theorem dL_plug_3 : decode cL_plug 3 = .ok (.iload_n 1, 1) := by decide +kernel
theorem dL_plug_4 : decode cL_plug 4 = .ok (.iload_n 2, 1) := by decide +kernel
theorem dL_plug_5 : decode cL_plug 5 = .ok (.invokevirtual 43, 3) := by decide +kernel
theorem dL_plug_8 : decode cL_plug 8 = .ok (.i2l, 1) := by decide +kernel
theorem dL_plug_9 : decode cL_plug 9 = .ok (.lastore, 1) := by decide +kernel
theorem dL_plug_10 : decode cL_plug 10 = .ok (.goto 7, 3) := by decide +kernel
theorem dL_plug_13 : decode cL_plug 13 = .ok (.astore 4, 2) := by decide +kernel
theorem dL_plug_15 : decode cL_plug 15 = .ok (.iconst 1, 1) := by decide +kernel
theorem dL_plug_16 : decode cL_plug 16 = .ok (.ireturn, 1) := by decide +kernel
theorem dL_plug_17 : decode cL_plug 17 = .ok (.iconst 0, 1) := by decide +kernel
theorem dL_plug_18 : decode cL_plug 18 = .ok (.ireturn, 1) := by decide +kernel
set_option maxRecDepth 20000 in
theorem ggL_load_X3_load : GoodIn wsL_load wsX3_load := goodIn_ca (goodIn_r _ [6, 7, 8, 9, 10, 5, 11, 12, 13, 14, 15, 16, 17, 18, 19, 20, 21, 22, 23, 24, 25, 26, 27, 28, 29, 30, 31, 32, 33, 34, 35, 36, 37, 38, 39, 40, 41, 42, 43, 44, 45, 46, 47, 48, 49, 50, 51, 52, 53, 54, 55, 56, 57, 58, 59, 60, 61, 62, 63, 64, 65, 66, 67, 68, 69, 70, 71, 72, 73, 74] (by decide +kernel) (by decide +kernel)) (goodIn_sub (fun _ h => List.mem_cons_of_mem _ (List.mem_append_right _ h)) (by decide +kernel))
set_option maxRecDepth 20000 in
theorem gL_load_X3_load : GoodIn wsL_load (wsV RL 46 RX3 yX3_load wsX3_load) := goodIn_app (goodIn_of _ (by decide +kernel)) ggL_load_X3_load
theorem dL_load_0 : decode cL_load 0 = .ok (.aload_n 2, 1) := by decide +kernel
theorem dL_load_1 : decode cL_load 1 = .ok (.iconst 0, 1) := by decide +kernel
theorem dL_load_2 : decode cL_load 2 = .ok (.aload_n 0, 1) := by decide +kernel
theorem dL_load_3 : decode cL_load 3 = .ok (.iload_n 1, 1) := by decide +kernel
theorem dL_load_4 : decode cL_load 4 = .ok (.invokevirtual 46, 3) := by decide +kernel
theorem dL_load_7 : decode cL_load 7 = .ok (.i2l, 1) := by decide +kernel
theorem dL_load_8 : decode cL_load 8 = .ok (.lastore, 1) := by decide +kernel
theorem dL_load_9 : decode cL_load 9 = .ok (.goto 6, 3) := by decide +kernel
theorem dL_load_12 : decode cL_load 12 = .ok (.astore_n 3, 1) := by decide +kernel
theorem dL_load_13 : decode cL_load 13 = .ok (.iconst 1, 1) := by decide +kernel
theorem dL_load_14 : decode cL_load 14 = .ok (.ireturn, 1) := by decide +kernel
theorem dL_load_15 : decode cL_load 15 = .ok (.iconst 0, 1) := by decide +kernel
theorem dL_load_16 : decode cL_load 16 = .ok (.ireturn, 1) := by decide +kernel
set_option maxRecDepth 20000 in
theorem ggL_cue_X3_cue : GoodIn wsL_cue wsX3_cue := goodIn_ca (goodIn_ca (goodIn_r _ [7, 8, 9, 10, 11, 12, 6, 13, 14, 15, 16, 17, 18, 19, 20, 21, 22, 23, 24, 25, 26, 27, 28, 29, 30, 31, 32, 33, 34, 35, 36, 37, 38, 39, 40, 41] (by decide +kernel) (by decide +kernel)) (goodIn_sub (fun _ h => List.mem_cons_of_mem _ (List.mem_append_left _ (List.mem_append_right _ h))) (by decide +kernel))) (goodIn_sub (fun _ h => List.mem_cons_of_mem _ (List.mem_append_right _ h)) (by decide +kernel))
set_option maxRecDepth 20000 in
theorem gL_cue_X3_cue : GoodIn wsL_cue (wsV RL 49 RX3 yX3_cue wsX3_cue) := goodIn_app (goodIn_of _ (by decide +kernel)) ggL_cue_X3_cue
theorem dL_cue_0 : decode cL_cue 0 = .ok (.aload 4, 2) := by decide +kernel
theorem dL_cue_2 : decode cL_cue 2 = .ok (.iconst 0, 1) := by decide +kernel
theorem dL_cue_3 : decode cL_cue 3 = .ok (.aload_n 0, 1) := by decide +kernel
theorem dL_cue_4 : decode cL_cue 4 = .ok (.iload_n 1, 1) := by decide +kernel
theorem dL_cue_5 : decode cL_cue 5 = .ok (.iload_n 2, 1) := by decide +kernel
theorem dL_cue_6 : decode cL_cue 6 = .ok (.iload_n 3, 1) := by decide +kernel
theorem dL_cue_7 : decode cL_cue 7 = .ok (.invokevirtual 49, 3) := by decide +kernel
theorem dL_cue_10 : decode cL_cue 10 = .ok (.i2l, 1) := by decide +kernel
theorem dL_cue_11 : decode cL_cue 11 = .ok (.lastore, 1) := by decide +kernel
theorem dL_cue_12 : decode cL_cue 12 = .ok (.goto 11, 3) := by decide +kernel
theorem dL_cue_15 : decode cL_cue 15 = .ok (.astore 5, 2) := by decide +kernel
theorem dL_cue_17 : decode cL_cue 17 = .ok (.iconst 1, 1) := by decide +kernel
theorem dL_cue_18 : decode cL_cue 18 = .ok (.ireturn, 1) := by decide +kernel
theorem dL_cue_19 : decode cL_cue 19 = .ok (.astore 5, 2) := by decide +kernel
theorem dL_cue_21 : decode cL_cue 21 = .ok (.iconst 2, 1) := by decide +kernel
theorem dL_cue_22 : decode cL_cue 22 = .ok (.ireturn, 1) := by decide +kernel
theorem dL_cue_23 : decode cL_cue 23 = .ok (.iconst 0, 1) := by decide +kernel
theorem dL_cue_24 : decode cL_cue 24 = .ok (.ireturn, 1) := by decide +kernel
set_option maxRecDepth 20000 in
theorem ggL_name_X3_name : GoodIn wsL_name wsX3_name := goodIn_ca (goodIn_ca (goodIn_r _ [7, 8, 9, 10, 11, 12, 13, 6, 14, 15, 16, 17, 18, 19, 20, 21, 22, 23, 24, 25, 26, 27, 28, 29, 30, 31, 32, 33, 34, 35, 36, 37, 38, 39, 40, 41] (by decide +kernel) (by decide +kernel)) (goodIn_sub (fun _ h => List.mem_cons_of_mem _ (List.mem_append_left _ (List.mem_append_right _ h))) (by decide +kernel))) (goodIn_sub (fun _ h => List.mem_cons_of_mem _ (List.mem_append_right _ h)) (by decide +kernel))
set_option maxRecDepth 20000 in
theorem gL_name_X3_name : GoodIn wsL_name (wsV RL 52 RX3 yX3_name wsX3_name) := goodIn_app (goodIn_of _ (by decide +kernel)) ggL_name_X3_name
theorem dL_name_0 : decode cL_name 0 = .ok (.aload 4, 2) := by decide +kernel
theorem dL_name_2 : decode cL_name 2 = .ok (.iconst 0, 1) := by decide +kernel
theorem dL_name_3 : decode cL_name 3 = .ok (.aload_n 0, 1) := by decide +kernel
theorem dL_name_4 : decode cL_name 4 = .ok (.iload_n 1, 1) := by decide +kernel
theorem dL_name_5 : decode cL_name 5 = .ok (.iload_n 2, 1) := by decide +kernel
theorem dL_name_6 : decode cL_name 6 = .ok (.iload_n 3, 1) := by decide +kernel
theorem dL_name_7 : decode cL_name 7 = .ok (.invokevirtual 52, 3) := by decide +kernel
theorem dL_name_10 : decode cL_name 10 = .ok (.i2l, 1) := by decide +kernel
theorem dL_name_11 : decode cL_name 11 = .ok (.lastore, 1) := by decide +kernel
theorem dL_name_12 : decode cL_name 12 = .ok (.goto 11, 3) := by decide +kernel
theorem dL_name_15 : decode cL_name 15 = .ok (.astore 5, 2) := by decide +kernel
theorem dL_name_17 : decode cL_name 17 = .ok (.iconst 1, 1) := by decide +kernel
theorem dL_name_18 : decode cL_name 18 = .ok (.ireturn, 1) := by decide +kernel
theorem dL_name_19 : decode cL_name 19 = .ok (.astore 5, 2) := by decide +kernel
theorem dL_name_21 : decode cL_name 21 = .ok (.iconst 2, 1) := by decide +kernel
theorem dL_name_22 : decode cL_name 22 = .ok (.ireturn, 1) := by decide +kernel
theorem dL_name_23 : decode cL_name 23 = .ok (.iconst 0, 1) := by decide +kernel
theorem dL_name_24 : decode cL_name 24 = .ok (.ireturn, 1) := by decide +kernel
set_option maxRecDepth 20000 in
theorem ggL_go_X3_go : GoodIn wsL_go wsX3_go := goodIn_ca (goodIn_r _ [6, 7, 8, 9, 10, 11, 12, 13, 14, 15, 16, 17, 18, 19, 20, 21, 22, 23, 24, 25, 26, 27, 28, 29, 30, 31, 32, 33, 34, 35, 36, 37, 38, 39, 40, 41, 42, 43, 44, 45, 46, 47, 48, 49, 50, 51, 52, 53, 54, 55, 56, 57, 58, 59, 60] (by decide +kernel) (by decide +kernel)) (goodIn_sub (fun _ h => List.mem_cons_of_mem _ (List.mem_append_right _ h)) (by decide +kernel))
set_option maxRecDepth 20000 in
theorem gL_go_X3_go : GoodIn wsL_go (wsV RL 55 RX3 yX3_go wsX3_go) := goodIn_app (goodIn_of _ (by decide +kernel)) ggL_go_X3_go
theorem dL_go_0 : decode cL_go 0 = .ok (.aload_n 1, 1) := by decide +kernel
theorem dL_go_1 : decode cL_go 1 = .ok (.iconst 0, 1) := by decide +kernel
theorem dL_go_2 : decode cL_go 2 = .ok (.aload_n 0, 1) := by decide +kernel
theorem dL_go_3 : decode cL_go 3 = .ok (.invokevirtual 55, 3) := by decide +kernel
theorem dL_go_6 : decode cL_go 6 = .ok (.i2l, 1) := by decide +kernel
theorem dL_go_7 : decode cL_go 7 = .ok (.lastore, 1) := by decide +kernel
theorem dL_go_8 : decode cL_go 8 = .ok (.goto 6, 3) := by decide +kernel
theorem dL_go_11 : decode cL_go 11 = .ok (.astore_n 2, 1) := by decide +kernel
theorem dL_go_12 : decode cL_go 12 = .ok (.iconst 1, 1) := by decide +kernel
theorem dL_go_13 : decode cL_go 13 = .ok (.ireturn, 1) := by decide +kernel
theorem dL_go_14 : decode cL_go 14 = .ok (.iconst 0, 1) := by decide +kernel
theorem dL_go_15 : decode cL_go 15 = .ok (.ireturn, 1) := by decide +kernel
set_option maxRecDepth 20000 in
theorem ggL_tick_X3_tick : GoodIn wsL_tick wsX3_tick := goodIn_ca (goodIn_r _ [6, 7, 8, 9, 5, 10, 11, 12, 13, 14, 15, 16, 17, 18, 19, 20, 21, 22, 23, 24, 25, 26, 27, 28, 29, 30, 31, 32, 33, 34, 35, 36, 37, 38, 39, 40, 41, 42, 43, 44, 45, 46, 47, 48, 49, 50, 51, 52, 53, 54, 55, 56, 57, 58, 59, 60, 61, 62, 63, 64, 65, 66, 67, 68, 69, 70, 71, 72, 73, 74, 75, 76, 77, 78, 79, 80, 81, 82, 83, 84, 85, 86, 87, 88, 89, 90, 91, 92] (by decide +kernel) (by decide +kernel)) (goodIn_sub (fun _ h => List.mem_cons_of_mem _ (List.mem_append_right _ h)) (by decide +kernel))
set_option maxRecDepth 20000 in
theorem gL_tick_X3_tick : GoodIn wsL_tick (wsV RL 59 RX3 yX3_tick wsX3_tick) := goodIn_app (goodIn_of _ (by decide +kernel)) ggL_tick_X3_tick
theorem dL_tick_0 : decode cL_tick 0 = .ok (.aload_n 2, 1) := by decide +kernel
theorem dL_tick_1 : decode cL_tick 1 = .ok (.iconst 0, 1) := by decide +kernel
theorem dL_tick_2 : decode cL_tick 2 = .ok (.aload_n 0, 1) := by decide +kernel
theorem dL_tick_3 : decode cL_tick 3 = .ok (.iload_n 1, 1) := by decide +kernel
theorem dL_tick_4 : decode cL_tick 4 = .ok (.invokevirtual 59, 3) := by decide +kernel
theorem dL_tick_7 : decode cL_tick 7 = .ok (.i2l, 1) := by decide +kernel
theorem dL_tick_8 : decode cL_tick 8 = .ok (.lastore, 1) := by decide +kernel
theorem dL_tick_9 : decode cL_tick 9 = .ok (.goto 6, 3) := by decide +kernel
theorem dL_tick_12 : decode cL_tick 12 = .ok (.astore_n 3, 1) := by decide +kernel
theorem dL_tick_13 : decode cL_tick 13 = .ok (.iconst 1, 1) := by decide +kernel
theorem dL_tick_14 : decode cL_tick 14 = .ok (.ireturn, 1) := by decide +kernel
theorem dL_tick_15 : decode cL_tick 15 = .ok (.iconst 0, 1) := by decide +kernel
theorem dL_tick_16 : decode cL_tick 16 = .ok (.ireturn, 1) := by decide +kernel
set_option maxRecDepth 20000 in
theorem ggL_level_X3_level : GoodIn wsL_level wsX3_level := goodIn_ca (goodIn_r _ [6, 7, 8, 9, 5, 10, 11, 12, 13, 14, 15, 16, 17, 18, 19, 20, 21, 22, 23, 24, 25, 26, 27, 28, 29, 30, 31, 32, 33, 34, 35, 36, 37, 38, 39, 40, 41, 42, 43, 44, 45, 46, 47, 48, 49, 50, 51, 52, 53, 54, 55, 56, 57, 58, 59, 60, 61, 62, 63, 64, 65, 66, 67, 68, 69, 70] (by decide +kernel) (by decide +kernel)) (goodIn_sub (fun _ h => List.mem_cons_of_mem _ (List.mem_append_right _ h)) (by decide +kernel))
set_option maxRecDepth 20000 in
theorem gL_level_X3_level : GoodIn wsL_level (wsV RL 62 RX3 yX3_level wsX3_level) := goodIn_app (goodIn_of _ (by decide +kernel)) ggL_level_X3_level
theorem dL_level_0 : decode cL_level 0 = .ok (.aload_n 2, 1) := by decide +kernel
theorem dL_level_1 : decode cL_level 1 = .ok (.iconst 0, 1) := by decide +kernel
theorem dL_level_2 : decode cL_level 2 = .ok (.aload_n 0, 1) := by decide +kernel
theorem dL_level_3 : decode cL_level 3 = .ok (.iload_n 1, 1) := by decide +kernel
theorem dL_level_4 : decode cL_level 4 = .ok (.invokevirtual 62, 3) := by decide +kernel
theorem dL_level_7 : decode cL_level 7 = .ok (.i2l, 1) := by decide +kernel
theorem dL_level_8 : decode cL_level 8 = .ok (.lastore, 1) := by decide +kernel
theorem dL_level_9 : decode cL_level 9 = .ok (.goto 6, 3) := by decide +kernel
theorem dL_level_12 : decode cL_level 12 = .ok (.astore_n 3, 1) := by decide +kernel
theorem dL_level_13 : decode cL_level 13 = .ok (.iconst 1, 1) := by decide +kernel
theorem dL_level_14 : decode cL_level 14 = .ok (.ireturn, 1) := by decide +kernel
theorem dL_level_15 : decode cL_level 15 = .ok (.iconst 0, 1) := by decide +kernel
theorem dL_level_16 : decode cL_level 16 = .ok (.ireturn, 1) := by decide +kernel
set_option maxRecDepth 20000 in
theorem ggL_wanted_X3_wanted : GoodIn wsL_wanted wsX3_wanted := goodIn_ca (goodIn_r _ [6, 7, 8, 9, 10, 5, 11, 12, 13, 14, 15, 16, 17, 18, 19, 20, 21, 22, 23, 24, 25, 26, 27, 28, 29, 30, 31, 32, 33, 34, 35, 36, 37, 38, 39, 40, 41, 42, 43, 44, 45, 46, 47, 48, 49, 50, 51] (by decide +kernel) (by decide +kernel)) (goodIn_sub (fun _ h => List.mem_cons_of_mem _ (List.mem_append_right _ h)) (by decide +kernel))
set_option maxRecDepth 20000 in
theorem gL_wanted_X3_wanted : GoodIn wsL_wanted (wsV RL 65 RX3 yX3_wanted wsX3_wanted) := goodIn_app (goodIn_of _ (by decide +kernel)) ggL_wanted_X3_wanted
theorem dL_wanted_0 : decode cL_wanted 0 = .ok (.aload_n 2, 1) := by decide +kernel
theorem dL_wanted_1 : decode cL_wanted 1 = .ok (.iconst 0, 1) := by decide +kernel
theorem dL_wanted_2 : decode cL_wanted 2 = .ok (.aload_n 0, 1) := by decide +kernel
theorem dL_wanted_3 : decode cL_wanted 3 = .ok (.iload_n 1, 1) := by decide +kernel
theorem dL_wanted_4 : decode cL_wanted 4 = .ok (.invokevirtual 65, 3) := by decide +kernel
theorem dL_wanted_7 : decode cL_wanted 7 = .ok (.i2l, 1) := by decide +kernel
theorem dL_wanted_8 : decode cL_wanted 8 = .ok (.lastore, 1) := by decide +kernel
theorem dL_wanted_9 : decode cL_wanted 9 = .ok (.goto 6, 3) := by decide +kernel
theorem dL_wanted_12 : decode cL_wanted 12 = .ok (.astore_n 3, 1) := by decide +kernel
theorem dL_wanted_13 : decode cL_wanted 13 = .ok (.iconst 1, 1) := by decide +kernel
theorem dL_wanted_14 : decode cL_wanted 14 = .ok (.ireturn, 1) := by decide +kernel
theorem dL_wanted_15 : decode cL_wanted 15 = .ok (.iconst 0, 1) := by decide +kernel
theorem dL_wanted_16 : decode cL_wanted 16 = .ok (.ireturn, 1) := by decide +kernel
set_option maxRecDepth 20000 in
theorem ggL_wantedByCues_X3_wantedByCues : GoodIn wsL_wantedByCues wsX3_wantedByCues := goodIn_ca (goodIn_r _ [6, 7, 8, 9, 10, 5, 11, 12, 13, 14, 15, 16, 17, 18, 19, 20, 21, 22, 23, 24, 25, 26, 27, 28, 29, 30, 31, 32, 33, 34, 35, 36, 37, 38, 39, 40, 41, 42, 43, 44, 45, 46, 47, 48, 49, 50, 51] (by decide +kernel) (by decide +kernel)) (goodIn_sub (fun _ h => List.mem_cons_of_mem _ (List.mem_append_right _ h)) (by decide +kernel))
set_option maxRecDepth 20000 in
theorem gL_wantedByCues_X3_wantedByCues : GoodIn wsL_wantedByCues (wsV RL 68 RX3 yX3_wantedByCues wsX3_wantedByCues) := goodIn_app (goodIn_of _ (by decide +kernel)) ggL_wantedByCues_X3_wantedByCues
theorem dL_wantedByCues_0 : decode cL_wantedByCues 0 = .ok (.aload_n 2, 1) := by decide +kernel
theorem dL_wantedByCues_1 : decode cL_wantedByCues 1 = .ok (.iconst 0, 1) := by decide +kernel
theorem dL_wantedByCues_2 : decode cL_wantedByCues 2 = .ok (.aload_n 0, 1) := by decide +kernel
theorem dL_wantedByCues_3 : decode cL_wantedByCues 3 = .ok (.iload_n 1, 1) := by decide +kernel
theorem dL_wantedByCues_4 : decode cL_wantedByCues 4 = .ok (.invokevirtual 68, 3) := by decide +kernel
theorem dL_wantedByCues_7 : decode cL_wantedByCues 7 = .ok (.i2l, 1) := by decide +kernel
theorem dL_wantedByCues_8 : decode cL_wantedByCues 8 = .ok (.lastore, 1) := by decide +kernel
theorem dL_wantedByCues_9 : decode cL_wantedByCues 9 = .ok (.goto 6, 3) := by decide +kernel
theorem dL_wantedByCues_12 : decode cL_wantedByCues 12 = .ok (.astore_n 3, 1) := by decide +kernel
theorem dL_wantedByCues_13 : decode cL_wantedByCues 13 = .ok (.iconst 1, 1) := by decide +kernel
theorem dL_wantedByCues_14 : decode cL_wantedByCues 14 = .ok (.ireturn, 1) := by decide +kernel
theorem dL_wantedByCues_15 : decode cL_wantedByCues 15 = .ok (.iconst 0, 1) := by decide +kernel
theorem dL_wantedByCues_16 : decode cL_wantedByCues 16 = .ok (.ireturn, 1) := by decide +kernel
set_option maxRecDepth 20000 in
theorem ggL_bulb_X3_bulb : GoodIn wsL_bulb wsX3_bulb := goodIn_ca (goodIn_r _ [6, 7, 8, 9, 10, 5, 11, 12, 13, 14, 15, 16, 17, 18, 19, 20, 21] (by decide +kernel) (by decide +kernel)) (goodIn_sub (fun _ h => List.mem_cons_of_mem _ (List.mem_append_right _ h)) (by decide +kernel))
set_option maxRecDepth 20000 in
theorem gL_bulb_X3_bulb : GoodIn wsL_bulb (wsV RL 71 RX3 yX3_bulb wsX3_bulb) := goodIn_app (goodIn_of _ (by decide +kernel)) ggL_bulb_X3_bulb
theorem dL_bulb_0 : decode cL_bulb 0 = .ok (.aload_n 2, 1) := by decide +kernel
theorem dL_bulb_1 : decode cL_bulb 1 = .ok (.iconst 0, 1) := by decide +kernel
theorem dL_bulb_2 : decode cL_bulb 2 = .ok (.aload_n 0, 1) := by decide +kernel
theorem dL_bulb_3 : decode cL_bulb 3 = .ok (.iload_n 1, 1) := by decide +kernel
theorem dL_bulb_4 : decode cL_bulb 4 = .ok (.invokevirtual 71, 3) := by decide +kernel
theorem dL_bulb_7 : decode cL_bulb 7 = .ok (.ifCond .eq 7, 3) := by decide +kernel
theorem dL_bulb_10 : decode cL_bulb 10 = .ok (.lconst 1, 1) := by decide +kernel
theorem dL_bulb_11 : decode cL_bulb 11 = .ok (.goto 4, 3) := by decide +kernel
theorem dL_bulb_14 : decode cL_bulb 14 = .ok (.lconst 0, 1) := by decide +kernel
theorem dL_bulb_15 : decode cL_bulb 15 = .ok (.lastore, 1) := by decide +kernel
theorem dL_bulb_16 : decode cL_bulb 16 = .ok (.goto 6, 3) := by decide +kernel
theorem dL_bulb_19 : decode cL_bulb 19 = .ok (.astore_n 3, 1) := by decide +kernel
theorem dL_bulb_20 : decode cL_bulb 20 = .ok (.iconst 1, 1) := by decide +kernel
theorem dL_bulb_21 : decode cL_bulb 21 = .ok (.ireturn, 1) := by decide +kernel
theorem dL_bulb_22 : decode cL_bulb 22 = .ok (.iconst 0, 1) := by decide +kernel
theorem dL_bulb_23 : decode cL_bulb 23 = .ok (.ireturn, 1) := by decide +kernel
set_option maxRecDepth 20000 in
theorem ggL_standIn_X3_standIn : GoodIn wsL_standIn wsX3_standIn := goodIn_ca (goodIn_ca (goodIn_ca (goodIn_r _ [8, 9, 10, 11, 12, 13, 14, 15, 16, 17, 7, 18, 19, 20, 21, 22, 23, 24, 25, 26, 27, 28, 29, 30, 31, 32, 33, 34, 35, 36, 37, 38, 39, 40, 41, 42, 43, 44, 45, 46, 47, 48] (by decide +kernel) (by decide +kernel)) (goodIn_sub (fun _ h => List.mem_cons_of_mem _ (List.mem_append_left _ (List.mem_append_left _ (List.mem_append_right _ h)))) (by decide +kernel))) (goodIn_sub (fun _ h => List.mem_cons_of_mem _ (List.mem_append_left _ (List.mem_append_right _ h))) (by decide +kernel))) (goodIn_sub (fun _ h => List.mem_cons_of_mem _ (List.mem_append_right _ h)) (by decide +kernel))
set_option maxRecDepth 20000 in
theorem gL_standIn_X3_standIn : GoodIn wsL_standIn (wsV RL 74 RX3 yX3_standIn wsX3_standIn) := goodIn_app (goodIn_of _ (by decide +kernel)) ggL_standIn_X3_standIn
theorem dL_standIn_0 : decode cL_standIn 0 = .ok (.aload_n 3, 1) := by decide +kernel
theorem dL_standIn_1 : decode cL_standIn 1 = .ok (.iconst 0, 1) := by decide +kernel
theorem dL_standIn_2 : decode cL_standIn 2 = .ok (.aload_n 0, 1) := by decide +kernel
theorem dL_standIn_3 : decode cL_standIn 3 = .ok (.iload_n 1, 1) := by decide +kernel
theorem dL_standIn_4 : decode cL_standIn 4 = .ok (.iload_n 2, 1) := by decide +kernel
theorem dL_standIn_5 : decode cL_standIn 5 = .ok (.invokevirtual 74, 3) := by decide +kernel
theorem dL_standIn_8 : decode cL_standIn 8 = .ok (.i2l, 1) := by decide +kernel
theorem dL_standIn_9 : decode cL_standIn 9 = .ok (.lastore, 1) := by decide +kernel
theorem dL_standIn_10 : decode cL_standIn 10 = .ok (.goto 15, 3) := by decide +kernel
theorem dL_standIn_13 : decode cL_standIn 13 = .ok (.astore 4, 2) := by decide +kernel
theorem dL_standIn_15 : decode cL_standIn 15 = .ok (.iconst 1, 1) := by decide +kernel
theorem dL_standIn_16 : decode cL_standIn 16 = .ok (.ireturn, 1) := by decide +kernel
theorem dL_standIn_17 : decode cL_standIn 17 = .ok (.astore 4, 2) := by decide +kernel
theorem dL_standIn_19 : decode cL_standIn 19 = .ok (.iconst 2, 1) := by decide +kernel
theorem dL_standIn_20 : decode cL_standIn 20 = .ok (.ireturn, 1) := by decide +kernel
theorem dL_standIn_21 : decode cL_standIn 21 = .ok (.astore 4, 2) := by decide +kernel
theorem dL_standIn_23 : decode cL_standIn 23 = .ok (.iconst 3, 1) := by decide +kernel
theorem dL_standIn_24 : decode cL_standIn 24 = .ok (.ireturn, 1) := by decide +kernel
theorem dL_standIn_25 : decode cL_standIn 25 = .ok (.iconst 0, 1) := by decide +kernel
theorem dL_standIn_26 : decode cL_standIn 26 = .ok (.ireturn, 1) := by decide +kernel
set_option maxRecDepth 20000 in
theorem ggL_colour_X3_colour : GoodIn wsL_colour wsX3_colour := goodIn_ca (goodIn_ca (goodIn_r _ [7, 8, 9, 10, 11, 12, 6, 13, 14, 15, 16, 17, 18, 19, 20, 21, 22, 23, 24, 25, 26, 27, 28] (by decide +kernel) (by decide +kernel)) (goodIn_sub (fun _ h => List.mem_cons_of_mem _ (List.mem_append_left _ (List.mem_append_right _ h))) (by decide +kernel))) (goodIn_sub (fun _ h => List.mem_cons_of_mem _ (List.mem_append_right _ h)) (by decide +kernel))
set_option maxRecDepth 20000 in
theorem gL_colour_X3_colour : GoodIn wsL_colour (wsV RL 77 RX3 yX3_colour wsX3_colour) := goodIn_app (goodIn_of _ (by decide +kernel)) ggL_colour_X3_colour
theorem dL_colour_0 : decode cL_colour 0 = .ok (.aload_n 3, 1) := by decide +kernel
theorem dL_colour_1 : decode cL_colour 1 = .ok (.iconst 0, 1) := by decide +kernel
theorem dL_colour_2 : decode cL_colour 2 = .ok (.aload_n 0, 1) := by decide +kernel
theorem dL_colour_3 : decode cL_colour 3 = .ok (.iload_n 1, 1) := by decide +kernel
theorem dL_colour_4 : decode cL_colour 4 = .ok (.iload_n 2, 1) := by decide +kernel
theorem dL_colour_5 : decode cL_colour 5 = .ok (.invokevirtual 77, 3) := by decide +kernel
theorem dL_colour_8 : decode cL_colour 8 = .ok (.i2l, 1) := by decide +kernel
theorem dL_colour_9 : decode cL_colour 9 = .ok (.lastore, 1) := by decide +kernel
theorem dL_colour_10 : decode cL_colour 10 = .ok (.goto 11, 3) := by decide +kernel
theorem dL_colour_13 : decode cL_colour 13 = .ok (.astore 4, 2) := by decide +kernel
theorem dL_colour_15 : decode cL_colour 15 = .ok (.iconst 1, 1) := by decide +kernel
theorem dL_colour_16 : decode cL_colour 16 = .ok (.ireturn, 1) := by decide +kernel
theorem dL_colour_17 : decode cL_colour 17 = .ok (.astore 4, 2) := by decide +kernel
theorem dL_colour_19 : decode cL_colour 19 = .ok (.iconst 2, 1) := by decide +kernel
theorem dL_colour_20 : decode cL_colour 20 = .ok (.ireturn, 1) := by decide +kernel
theorem dL_colour_21 : decode cL_colour 21 = .ok (.iconst 0, 1) := by decide +kernel
theorem dL_colour_22 : decode cL_colour 22 = .ok (.ireturn, 1) := by decide +kernel
set_option maxRecDepth 20000 in
theorem ggL_law_X3_init : GoodIn wsL_law wsX3_init := goodIn_r _ [9, 10, 11, 12, 13, 14, 15, 16, 17, 18, 19, 20, 21, 22, 23, 24, 25, 26, 27, 28, 29, 30, 31, 32, 33, 34, 35, 36, 37, 38, 39, 40, 41, 42, 43, 44, 45, 46, 47, 48, 49, 50, 51, 52, 53, 54, 55, 56, 57, 58, 59, 60, 61, 62, 63, 64, 65, 66, 67, 68, 556, 557, 558, 559, 560, 561, 562, 591, 592, 593, 594, 595, 596, 597, 598, 599, 600, 601, 602, 603, 604, 605, 606, 607, 608, 609, 610, 611, 612, 613] (by decide +kernel) (by decide +kernel)
set_option maxRecDepth 20000 in
theorem gL_law_X3_init : GoodIn wsL_law (wsX3_init) := ggL_law_X3_init
set_option maxRecDepth 20000 in
theorem ggL_law_X4_init : GoodIn wsL_law wsX4_init := goodIn_r _ [71, 72, 11, 12, 14, 73, 74, 75, 76, 77, 78, 79, 80, 81, 17, 82, 83, 84, 85, 86, 87, 88, 89, 90, 91, 92, 93, 563, 564, 565, 566, 567, 568, 569, 570, 571, 572, 573, 574, 575, 576, 577, 578, 579, 580, 581, 582, 583, 584, 585, 586, 587, 588, 589, 590] (by decide +kernel) (by decide +kernel)
set_option maxRecDepth 20000 in
theorem gL_law_X4_init : GoodIn wsL_law (wsX4_init) := ggL_law_X4_init
set_option maxRecDepth 20000 in
theorem ggL_law_L_bar : GoodIn wsL_law wsL_bar := goodIn_ca (goodIn_ca (goodIn_ca (goodIn_r _ [97, 98, 99, 100, 101, 102, 103, 2, 104, 105, 106, 107, 108, 22, 109, 110, 111, 112, 113, 114, 21, 115, 116, 35, 36, 37, 117, 118, 119, 556, 557, 558, 559, 560, 561, 562, 591, 592, 593, 594, 595, 596, 597, 598] (by decide +kernel) (by decide +kernel)) (goodIn_sub (fun _ h => List.mem_append_left _ (List.mem_append_left _ (List.mem_append_right _ h))) (by decide +kernel))) (goodIn_sub (fun _ h => List.mem_append_left _ (List.mem_append_right _ h)) (by decide +kernel))) (goodIn_sub (fun _ h => List.mem_append_right _ h) (by decide +kernel))
set_option maxRecDepth 20000 in
theorem gL_law_L_bar : GoodIn wsL_law (va_wsS RL 84 yL_bar wsL_bar) := goodIn_app (goodIn_of _ (by decide +kernel)) ggL_law_L_bar
set_option maxRecDepth 20000 in
theorem ggL_law_X4_bar : GoodIn wsL_law wsX4_bar := goodIn_r _ [123, 73, 74, 75, 124, 125, 5, 126, 127, 128, 129, 130, 131, 563, 564, 565, 566, 567, 568, 569, 570, 571, 572, 573, 574, 575, 576, 577, 578, 579, 580, 581, 582, 583, 584, 585, 586, 587, 588, 589, 590] (by decide +kernel) (by decide +kernel)
set_option maxRecDepth 20000 in
theorem gL_law_X4_bar : GoodIn wsL_law (wsV RL 89 RX4 yX4_bar wsX4_bar) := goodIn_app (goodIn_of _ (by decide +kernel)) ggL_law_X4_bar
set_option maxRecDepth 20000 in
theorem ggL_law_X4_thrown : GoodIn wsL_law wsX4_thrown := goodIn_r _ [135, 131, 563, 564, 565, 566, 567, 568, 569, 570, 571, 572, 573, 574, 575, 576, 577, 578, 579, 580, 581, 582, 583, 584, 585, 586, 587, 588, 589, 590] (by decide +kernel) (by decide +kernel)
set_option maxRecDepth 20000 in
theorem gL_law_X4_thrown : GoodIn wsL_law (wsV RL 90 RX4 yX4_thrown wsX4_thrown) := goodIn_app (goodIn_of _ (by decide +kernel)) ggL_law_X4_thrown
set_option maxRecDepth 20000 in
theorem ggL_law_L_lamp : GoodIn wsL_law wsL_lamp := goodIn_ca (goodIn_ca (goodIn_r _ [138, 99, 100, 139, 140, 141, 2, 142, 107, 108, 13, 15, 22, 26, 109, 110, 111, 112, 113, 143, 144, 145, 146, 147, 148, 149, 150, 151, 556, 557, 558, 559, 560, 561, 562, 591, 592, 593, 594, 595, 596, 597, 598, 599, 600, 601, 602] (by decide +kernel) (by decide +kernel)) (goodIn_sub (fun _ h => List.mem_append_left _ (List.mem_append_right _ h)) (by decide +kernel))) (goodIn_sub (fun _ h => List.mem_append_right _ h) (by decide +kernel))
set_option maxRecDepth 20000 in
theorem gL_law_L_lamp : GoodIn wsL_law (va_wsS RL 93 yL_lamp wsL_lamp) := goodIn_app (goodIn_of _ (by decide +kernel)) ggL_law_L_lamp
set_option maxRecDepth 20000 in
theorem ggL_law_X4_lamp : GoodIn wsL_law wsX4_lamp := goodIn_r _ [155, 156, 76, 77, 78, 80, 81, 124, 125, 5, 126, 157, 158, 159, 160, 131, 563, 564, 565, 566, 567, 568, 569, 570, 571, 572, 573, 574, 575, 576, 577, 578, 579, 580, 581, 582, 583, 584, 585, 586, 587, 588, 589, 590] (by decide +kernel) (by decide +kernel)
set_option maxRecDepth 20000 in
theorem gL_law_X4_lamp : GoodIn wsL_law (wsV RL 96 RX4 yX4_lamp wsX4_lamp) := goodIn_app (goodIn_of _ (by decide +kernel)) ggL_law_X4_lamp
set_option maxRecDepth 20000 in
theorem ggL_law_L_hang : GoodIn wsL_law wsL_hang := goodIn_ca (goodIn_ca (goodIn_r _ [163, 98, 100, 164, 165, 166, 2, 167, 105, 106, 107, 108, 22, 168, 169, 170, 171, 13, 172, 173, 174, 175, 176, 21, 177, 178, 35, 34, 179, 180, 181, 36, 117, 118, 119, 182, 183, 184, 39, 38, 37, 185, 186, 187, 188, 189, 190, 191, 41, 192, 193, 194, 195, 196, 197, 198, 556, 557, 558, 559, 560, 561, 562, 591, 592, 593, 594, 595, 596, 597, 598] (by decide +kernel) (by decide +kernel)) (goodIn_sub (fun _ h => List.mem_append_left _ (List.mem_append_left _ (List.mem_append_right _ h))) (by decide +kernel))) (goodIn_sub (fun _ h => List.mem_append_left _ (List.mem_append_right _ h)) (by decide +kernel))
set_option maxRecDepth 20000 in
theorem gL_law_L_hang : GoodIn wsL_law (va_wsS RL 97 yL_hang wsL_hang) := goodIn_app (goodIn_of _ (by decide +kernel)) ggL_law_L_hang
set_option maxRecDepth 20000 in
theorem ggL_law_X4_hang : GoodIn wsL_law wsX4_hang := goodIn_r _ [202, 74, 203, 78, 79, 204, 205, 206, 5, 207, 156, 124, 125, 126, 208, 209, 210, 211, 73, 212, 213, 214, 215, 76, 75, 216, 217, 218, 219, 220, 221, 222, 157, 158, 159, 160, 131, 563, 564, 565, 566, 567, 568, 569, 570, 571, 572, 573, 574, 575, 576, 577, 578, 579, 580, 581, 582, 583, 584, 585, 586, 587, 588, 589, 590] (by decide +kernel) (by decide +kernel)
set_option maxRecDepth 20000 in
theorem gL_law_X4_hang : GoodIn wsL_law (wsV RL 99 RX4 yX4_hang wsX4_hang) := goodIn_app (goodIn_of _ (by decide +kernel)) ggL_law_X4_hang
set_option maxRecDepth 20000 in
theorem ggL_law_L_down : GoodIn wsL_law wsL_down := goodIn_ca (goodIn_r _ [225, 98, 226, 227, 228, 2, 229, 22, 168, 169, 170, 171, 105, 106, 13, 230, 21, 231, 232, 39, 556, 557, 558, 559, 560, 561, 562, 591, 592, 593, 594, 595, 596, 597, 598] (by decide +kernel) (by decide +kernel)) (goodIn_sub (fun _ h => List.mem_append_left _ (List.mem_append_left _ (List.mem_append_right _ h))) (by decide +kernel))
set_option maxRecDepth 20000 in
theorem gL_law_L_down : GoodIn wsL_law (va_wsS RL 100 yL_down wsL_down) := goodIn_app (goodIn_of _ (by decide +kernel)) ggL_law_L_down
set_option maxRecDepth 20000 in
theorem ggL_law_X4_down : GoodIn wsL_law wsX4_down := goodIn_r _ [236, 78, 204, 205, 206, 5, 207, 156, 124, 125, 126, 237, 238, 239, 240, 131, 563, 564, 565, 566, 567, 568, 569, 570, 571, 572, 573, 574, 575, 576, 577, 578, 579, 580, 581, 582, 583, 584, 585, 586, 587, 588, 589, 590] (by decide +kernel) (by decide +kernel)
set_option maxRecDepth 20000 in
theorem gL_law_X4_down : GoodIn wsL_law (wsV RL 103 RX4 yX4_down wsX4_down) := goodIn_app (goodIn_of _ (by decide +kernel)) ggL_law_X4_down
set_option maxRecDepth 20000 in
theorem ggL_law_L_onBar : GoodIn wsL_law wsL_onBar := goodIn_ca (goodIn_r _ [243, 98, 244, 245, 246, 2, 247, 105, 106, 22, 172, 173, 174, 175, 176, 21, 177, 178, 35, 34, 248, 249, 250, 39, 41, 251, 252, 253, 254, 556, 557, 558, 559, 560, 561, 562, 591, 592, 593, 594, 595, 596, 597, 598] (by decide +kernel) (by decide +kernel)) (goodIn_sub (fun _ h => List.mem_append_left _ (List.mem_append_left _ (List.mem_append_right _ h))) (by decide +kernel))
set_option maxRecDepth 20000 in
theorem gL_law_L_onBar : GoodIn wsL_law (va_wsS RL 104 yL_onBar wsL_onBar) := goodIn_app (goodIn_of _ (by decide +kernel)) ggL_law_L_onBar
set_option maxRecDepth 20000 in
theorem ggL_law_X4_onBar : GoodIn wsL_law wsX4_onBar := goodIn_r _ [258, 208, 209, 210, 5, 211, 73, 203, 124, 125, 126, 259, 260, 261, 262, 156, 78, 79, 237, 238, 239, 240, 131, 563, 564, 565, 566, 567, 568, 569, 570, 571, 572, 573, 574, 575, 576, 577, 578, 579, 580, 581, 582, 583, 584, 585, 586, 587, 588, 589, 590] (by decide +kernel) (by decide +kernel)
set_option maxRecDepth 20000 in
theorem gL_law_X4_onBar : GoodIn wsL_law (wsV RL 106 RX4 yX4_onBar wsX4_onBar) := goodIn_app (goodIn_of _ (by decide +kernel)) ggL_law_X4_onBar
set_option maxRecDepth 20000 in
theorem ggL_law_L_where : GoodIn wsL_law wsL_where := goodIn_ca (goodIn_r _ [265, 98, 266, 267, 268, 2, 269, 22, 168, 169, 170, 171, 105, 106, 13, 230, 21, 231, 232, 39, 556, 557, 558, 559, 560, 561, 562, 591, 592, 593, 594, 595, 596, 597, 598] (by decide +kernel) (by decide +kernel)) (goodIn_sub (fun _ h => List.mem_append_left _ (List.mem_append_left _ (List.mem_append_right _ h))) (by decide +kernel))
set_option maxRecDepth 20000 in
theorem gL_law_L_where : GoodIn wsL_law (va_wsS RL 107 yL_where wsL_where) := goodIn_app (goodIn_of _ (by decide +kernel)) ggL_law_L_where
set_option maxRecDepth 20000 in
theorem ggL_law_X4_where : GoodIn wsL_law wsX4_where := goodIn_r _ [273, 78, 79, 204, 205, 206, 5, 207, 156, 124, 125, 126, 237, 238, 239, 240, 131, 563, 564, 565, 566, 567, 568, 569, 570, 571, 572, 573, 574, 575, 576, 577, 578, 579, 580, 581, 582, 583, 584, 585, 586, 587, 588, 589, 590] (by decide +kernel) (by decide +kernel)
set_option maxRecDepth 20000 in
theorem gL_law_X4_where : GoodIn wsL_law (wsV RL 109 RX4 yX4_where wsX4_where) := goodIn_app (goodIn_of _ (by decide +kernel)) ggL_law_X4_where
set_option maxRecDepth 20000 in
theorem ggL_law_X3_tour : GoodIn wsL_law wsX3_tour := goodIn_r _ [277, 22, 278, 21, 279, 280, 40, 39, 34, 281, 282, 283, 284, 41, 285, 176, 177, 178, 35, 286, 182, 183, 184, 38, 37, 185, 186, 187, 188, 117, 118, 119, 287, 288, 289, 290, 291, 179, 180, 181, 36, 292, 189, 190, 191, 192, 193, 194, 195, 293, 196, 197, 198, 556, 557, 558, 559, 560, 561, 562, 591, 592, 593, 594, 595, 596, 597, 598] (by decide +kernel) (by decide +kernel)
set_option maxRecDepth 20000 in
theorem gL_law_X3_tour : GoodIn wsL_law (wsV RL 110 RX3 yX3_tour wsX3_tour) := goodIn_app (goodIn_of _ (by decide +kernel)) ggL_law_X3_tour
set_option maxRecDepth 20000 in
theorem ggL_law_X4_tour : GoodIn wsL_law wsX4_tour := goodIn_r _ [297, 131, 203, 156, 93, 78, 74, 79, 208, 209, 210, 5, 211, 73, 124, 125, 126, 212, 213, 214, 215, 76, 75, 216, 217, 218, 219, 220, 221, 222, 563, 564, 565, 566, 567, 568, 569, 570, 571, 572, 573, 574, 575, 576, 577, 578, 579, 580, 581, 582, 583, 584, 585, 586, 587, 588, 589, 590] (by decide +kernel) (by decide +kernel)
set_option maxRecDepth 20000 in
theorem gL_law_X4_tour : GoodIn wsL_law (wsV RL 113 RX4 yX4_tour wsX4_tour) := goodIn_app (goodIn_of _ (by decide +kernel)) ggL_law_X4_tour
set_option maxRecDepth 20000 in
theorem ggL_law_L_patch : GoodIn wsL_law wsL_patch := goodIn_ca (goodIn_ca (goodIn_r _ [300, 98, 99, 301, 302, 303, 2, 304, 26, 168, 169, 170, 171, 105, 106, 13, 109, 110, 111, 112, 113, 305, 25, 306, 307, 308, 309, 310, 311, 49, 50, 556, 557, 558, 559, 560, 561, 562, 599, 600, 601, 602] (by decide +kernel) (by decide +kernel)) (goodIn_sub (fun _ h => List.mem_append_left _ (List.mem_append_left _ (List.mem_append_right _ h))) (by decide +kernel))) (goodIn_sub (fun _ h => List.mem_append_right _ h) (by decide +kernel))
set_option maxRecDepth 20000 in
theorem gL_law_L_patch : GoodIn wsL_law (va_wsS RL 114 yL_patch wsL_patch) := goodIn_app (goodIn_of _ (by decide +kernel)) ggL_law_L_patch
set_option maxRecDepth 20000 in
theorem ggL_law_X4_patch : GoodIn wsL_law wsX4_patch := goodIn_r _ [315, 76, 80, 204, 205, 206, 5, 207, 156, 124, 125, 126, 316, 317, 318, 157, 158, 159, 160, 131, 319, 320, 321, 322, 563, 564, 565, 566, 567, 568, 569, 570, 571, 572, 573, 574, 575, 576, 577, 578, 579, 580, 581, 582, 583, 584, 585, 586, 587, 588, 589, 590] (by decide +kernel) (by decide +kernel)
set_option maxRecDepth 20000 in
theorem gL_law_X4_patch : GoodIn wsL_law (wsV RL 116 RX4 yX4_patch wsX4_patch) := goodIn_app (goodIn_of _ (by decide +kernel)) ggL_law_X4_patch
set_option maxRecDepth 20000 in
theorem ggL_law_L_gap : GoodIn wsL_law wsL_gap := goodIn_ca (goodIn_r _ [325, 99, 326, 327, 328, 2, 329, 26, 109, 110, 111, 112, 113, 330, 25, 331, 332, 308, 309, 310, 311, 49, 50, 556, 557, 558, 559, 560, 561, 562, 599, 600, 601, 602] (by decide +kernel) (by decide +kernel)) (goodIn_sub (fun _ h => List.mem_append_right _ h) (by decide +kernel))
set_option maxRecDepth 20000 in
theorem gL_law_L_gap : GoodIn wsL_law (va_wsS RL 117 yL_gap wsL_gap) := goodIn_app (goodIn_of _ (by decide +kernel)) ggL_law_L_gap
set_option maxRecDepth 20000 in
theorem ggL_law_X4_gap : GoodIn wsL_law wsX4_gap := goodIn_r _ [336, 124, 125, 5, 126, 237, 238, 239, 240, 131, 319, 320, 321, 322, 156, 80, 76, 316, 317, 318, 563, 564, 565, 566, 567, 568, 569, 570, 571, 572, 573, 574, 575, 576, 577, 578, 579, 580, 581, 582, 583, 584, 585, 586, 587, 588, 589, 590] (by decide +kernel) (by decide +kernel)
set_option maxRecDepth 20000 in
theorem gL_law_X4_gap : GoodIn wsL_law (wsV RL 119 RX4 yX4_gap wsX4_gap) := goodIn_app (goodIn_of _ (by decide +kernel)) ggL_law_X4_gap
set_option maxRecDepth 20000 in
theorem ggL_law_L_plug : GoodIn wsL_law wsL_plug := goodIn_ca (goodIn_r _ [339, 98, 340, 341, 342, 2, 343, 26, 168, 169, 170, 171, 105, 106, 13, 344, 345, 346, 556, 557, 558, 559, 560, 561, 562, 599, 600, 601, 602] (by decide +kernel) (by decide +kernel)) (goodIn_sub (fun _ h => List.mem_append_left _ (List.mem_append_left _ (List.mem_append_right _ h))) (by decide +kernel))
set_option maxRecDepth 20000 in
theorem gL_law_L_plug : GoodIn wsL_law (va_wsS RL 120 yL_plug wsL_plug) := goodIn_app (goodIn_of _ (by decide +kernel)) ggL_law_L_plug
set_option maxRecDepth 20000 in
theorem ggL_law_X4_plug : GoodIn wsL_law wsX4_plug := goodIn_r _ [350, 81, 204, 205, 206, 5, 207, 156, 124, 125, 126, 237, 238, 239, 240, 131, 563, 564, 565, 566, 567, 568, 569, 570, 571, 572, 573, 574, 575, 576, 577, 578, 579, 580, 581, 582, 583, 584, 585, 586, 587, 588, 589, 590] (by decide +kernel) (by decide +kernel)
set_option maxRecDepth 20000 in
theorem gL_law_X4_plug : GoodIn wsL_law (wsV RL 122 RX4 yX4_plug wsX4_plug) := goodIn_app (goodIn_of _ (by decide +kernel)) ggL_law_X4_plug
set_option maxRecDepth 20000 in
theorem ggL_law_L_load : GoodIn wsL_law wsL_load := goodIn_ca (goodIn_r _ [353, 98, 354, 355, 356, 2, 357, 13, 26, 344, 345, 346, 105, 106, 358, 359, 360, 361, 22, 18, 30, 230, 21, 231, 232, 39, 362, 29, 363, 364, 65, 57, 62, 64, 58, 67, 66, 59, 365, 366, 367, 368, 369, 370, 371, 556, 557, 558, 559, 560, 561, 562, 599, 600, 601, 602, 591, 592, 593, 594, 595, 596, 597, 598, 603, 604, 605, 606, 607, 608, 609, 610, 611, 612, 613] (by decide +kernel) (by decide +kernel)) (goodIn_sub (fun _ h => List.mem_append_left _ (List.mem_append_left _ (List.mem_append_right _ h))) (by decide +kernel))
set_option maxRecDepth 20000 in
theorem gL_law_L_load : GoodIn wsL_law (va_wsS RL 123 yL_load wsL_load) := goodIn_app (goodIn_of _ (by decide +kernel)) ggL_law_L_load
set_option maxRecDepth 20000 in
theorem ggL_law_X4_load : GoodIn wsL_law wsX4_load := goodIn_r _ [375, 156, 81, 76, 124, 125, 5, 126, 237, 238, 239, 240, 131, 376, 377, 378, 379, 380, 381, 382, 78, 82, 383, 384, 385, 386, 387, 86, 87, 85, 84, 88, 388, 389, 390, 563, 564, 565, 566, 567, 568, 569, 570, 571, 572, 573, 574, 575, 576, 577, 578, 579, 580, 581, 582, 583, 584, 585, 586, 587, 588, 589, 590] (by decide +kernel) (by decide +kernel)
set_option maxRecDepth 20000 in
theorem gL_law_X4_load : GoodIn wsL_law (wsV RL 125 RX4 yX4_load wsX4_load) := goodIn_app (goodIn_of _ (by decide +kernel)) ggL_law_X4_load
set_option maxRecDepth 20000 in
theorem ggL_law_L_cue : GoodIn wsL_law wsL_cue := goodIn_ca (goodIn_ca (goodIn_r _ [393, 99, 100, 394, 395, 396, 2, 397, 107, 108, 30, 109, 110, 111, 112, 113, 398, 29, 399, 400, 57, 58, 59, 60, 556, 557, 558, 559, 560, 561, 562, 603, 604, 605, 606, 607, 608, 609, 610, 611, 612, 613] (by decide +kernel) (by decide +kernel)) (goodIn_sub (fun _ h => List.mem_append_left _ (List.mem_append_right _ h)) (by decide +kernel))) (goodIn_sub (fun _ h => List.mem_append_right _ h) (by decide +kernel))
set_option maxRecDepth 20000 in
theorem gL_law_L_cue : GoodIn wsL_law (va_wsS RL 126 yL_cue wsL_cue) := goodIn_app (goodIn_of _ (by decide +kernel)) ggL_law_L_cue
set_option maxRecDepth 20000 in
theorem ggL_law_X4_cue : GoodIn wsL_law wsX4_cue := goodIn_r _ [404, 405, 89, 90, 91, 124, 125, 5, 126, 157, 158, 159, 160, 131, 563, 564, 565, 566, 567, 568, 569, 570, 571, 572, 573, 574, 575, 576, 577, 578, 579, 580, 581, 582, 583, 584, 585, 586, 587, 588, 589, 590] (by decide +kernel) (by decide +kernel)
set_option maxRecDepth 20000 in
theorem gL_law_X4_cue : GoodIn wsL_law (wsV RL 128 RX4 yX4_cue wsX4_cue) := goodIn_app (goodIn_of _ (by decide +kernel)) ggL_law_X4_cue
set_option maxRecDepth 20000 in
theorem ggL_law_L_name : GoodIn wsL_law wsL_name := goodIn_ca (goodIn_ca (goodIn_r _ [408, 98, 99, 409, 410, 411, 2, 412, 105, 106, 30, 168, 169, 170, 171, 13, 109, 110, 111, 112, 113, 413, 29, 414, 556, 557, 558, 559, 560, 561, 562, 603, 604, 605, 606, 607, 608, 609, 610, 611, 612, 613] (by decide +kernel) (by decide +kernel)) (goodIn_sub (fun _ h => List.mem_append_left _ (List.mem_append_left _ (List.mem_append_right _ h))) (by decide +kernel))) (goodIn_sub (fun _ h => List.mem_append_right _ h) (by decide +kernel))
set_option maxRecDepth 20000 in
theorem gL_law_L_name : GoodIn wsL_law (va_wsS RL 129 yL_name wsL_name) := goodIn_app (goodIn_of _ (by decide +kernel)) ggL_law_L_name
set_option maxRecDepth 20000 in
theorem ggL_law_X4_name : GoodIn wsL_law wsX4_name := goodIn_r _ [418, 92, 419, 420, 421, 5, 422, 405, 124, 125, 126, 204, 205, 206, 207, 156, 157, 158, 159, 160, 131, 563, 564, 565, 566, 567, 568, 569, 570, 571, 572, 573, 574, 575, 576, 577, 578, 579, 580, 581, 582, 583, 584, 585, 586, 587, 588, 589, 590] (by decide +kernel) (by decide +kernel)
set_option maxRecDepth 20000 in
theorem gL_law_X4_name : GoodIn wsL_law (wsV RL 131 RX4 yX4_name wsX4_name) := goodIn_app (goodIn_of _ (by decide +kernel)) ggL_law_X4_name
set_option maxRecDepth 20000 in
theorem ggL_law_L_go : GoodIn wsL_law wsL_go := goodIn_ca (goodIn_r _ [425, 100, 426, 427, 428, 2, 429, 107, 108, 30, 430, 29, 431, 432, 63, 57, 60, 433, 434, 435, 436, 61, 66, 67, 65, 64, 62, 437, 413, 414, 438, 362, 363, 364, 58, 59, 365, 366, 367, 368, 369, 370, 371, 556, 557, 558, 559, 560, 561, 562, 603, 604, 605, 606, 607, 608, 609, 610, 611, 612, 613] (by decide +kernel) (by decide +kernel)) (goodIn_sub (fun _ h => List.mem_append_left _ (List.mem_append_right _ h)) (by decide +kernel))
set_option maxRecDepth 20000 in
theorem gL_law_L_go : GoodIn wsL_law (va_wsS RL 132 yL_go wsL_go) := goodIn_app (goodIn_of _ (by decide +kernel)) ggL_law_L_go
set_option maxRecDepth 20000 in
theorem ggL_law_X4_go : GoodIn wsL_law wsX4_go := goodIn_r _ [442, 443, 405, 237, 238, 239, 5, 240, 131, 444, 445, 446, 447, 156, 92, 84, 85, 86, 387, 87, 89, 88, 90, 448, 91, 383, 384, 385, 386, 388, 389, 390, 563, 564, 565, 566, 567, 568, 569, 570, 571, 572, 573, 574, 575, 576, 577, 578, 579, 580, 581, 582, 583, 584, 585, 586, 587, 588, 589, 590] (by decide +kernel) (by decide +kernel)
set_option maxRecDepth 20000 in
theorem gL_law_X4_go : GoodIn wsL_law (wsV RL 135 RX4 yX4_go wsX4_go) := goodIn_app (goodIn_of _ (by decide +kernel)) ggL_law_X4_go
set_option maxRecDepth 20000 in
theorem ggL_law_L_tick : GoodIn wsL_law wsL_tick := goodIn_ca (goodIn_r _ [451, 99, 452, 453, 454, 2, 455, 30, 109, 110, 111, 112, 113, 456, 29, 457, 458, 62, 63, 57, 60, 64, 459, 430, 431, 432, 433, 434, 435, 436, 61, 66, 67, 65, 437, 413, 414, 438, 362, 363, 364, 58, 59, 365, 366, 367, 368, 369, 370, 371, 460, 461, 462, 463, 13, 16, 358, 359, 360, 361, 22, 18, 230, 21, 231, 232, 39, 556, 557, 558, 559, 560, 561, 562, 603, 604, 605, 606, 607, 608, 609, 610, 611, 612, 613, 591, 592, 593, 594, 595, 596, 597, 598] (by decide +kernel) (by decide +kernel)) (goodIn_sub (fun _ h => List.mem_append_right _ h) (by decide +kernel))
set_option maxRecDepth 20000 in
theorem gL_law_L_tick : GoodIn wsL_law (va_wsS RL 136 yL_tick wsL_tick) := goodIn_app (goodIn_of _ (by decide +kernel)) ggL_law_L_tick
set_option maxRecDepth 20000 in
theorem ggL_law_X4_tick : GoodIn wsL_law wsX4_tick := goodIn_r _ [467, 387, 443, 91, 448, 156, 83, 124, 125, 5, 126, 237, 238, 239, 240, 131, 444, 445, 446, 447, 405, 92, 84, 85, 86, 87, 89, 88, 90, 383, 384, 385, 386, 388, 389, 390, 379, 380, 381, 382, 78, 82, 563, 564, 565, 566, 567, 568, 569, 570, 571, 572, 573, 574, 575, 576, 577, 578, 579, 580, 581, 582, 583, 584, 585, 586, 587, 588, 589, 590] (by decide +kernel) (by decide +kernel)
set_option maxRecDepth 20000 in
theorem gL_law_X4_tick : GoodIn wsL_law (wsV RL 138 RX4 yX4_tick wsX4_tick) := goodIn_app (goodIn_of _ (by decide +kernel)) ggL_law_X4_tick
set_option maxRecDepth 20000 in
theorem ggL_law_X3_rewind : GoodIn wsL_law wsX3_rewind := goodIn_r _ [471, 30, 472, 29, 473, 474, 63, 65, 68, 43, 44, 45, 556, 557, 558, 559, 560, 561, 562, 603, 604, 605, 606, 607, 608, 609, 610, 611, 612, 613] (by decide +kernel) (by decide +kernel)
set_option maxRecDepth 20000 in
theorem gL_law_X3_rewind : GoodIn wsL_law (wsV RL 139 RX3 yX3_rewind wsX3_rewind) := goodIn_app (goodIn_of _ (by decide +kernel)) ggL_law_X3_rewind
set_option maxRecDepth 20000 in
theorem ggL_law_X4_rewind : GoodIn wsL_law wsX4_rewind := goodIn_r _ [478, 131, 443, 156, 84, 85, 87, 563, 564, 565, 566, 567, 568, 569, 570, 571, 572, 573, 574, 575, 576, 577, 578, 579, 580, 581, 582, 583, 584, 585, 586, 587, 588, 589, 590] (by decide +kernel) (by decide +kernel)
set_option maxRecDepth 20000 in
theorem gL_law_X4_rewind : GoodIn wsL_law (wsV RL 142 RX4 yX4_rewind wsX4_rewind) := goodIn_app (goodIn_of _ (by decide +kernel)) ggL_law_X4_rewind
set_option maxRecDepth 20000 in
theorem ggL_law_L_level : GoodIn wsL_law wsL_level := goodIn_ca (goodIn_r _ [481, 98, 482, 483, 484, 2, 485, 168, 169, 170, 171, 105, 106, 13, 358, 359, 360, 361, 22, 18, 30, 230, 21, 231, 232, 39, 362, 29, 363, 364, 65, 57, 62, 64, 58, 67, 66, 59, 365, 366, 367, 368, 369, 370, 371, 556, 557, 558, 559, 560, 561, 562, 591, 592, 593, 594, 595, 596, 597, 598, 603, 604, 605, 606, 607, 608, 609, 610, 611, 612, 613] (by decide +kernel) (by decide +kernel)) (goodIn_sub (fun _ h => List.mem_append_left _ (List.mem_append_left _ (List.mem_append_right _ h))) (by decide +kernel))
set_option maxRecDepth 20000 in
theorem gL_law_L_level : GoodIn wsL_law (va_wsS RL 143 yL_level wsL_level) := goodIn_app (goodIn_of _ (by decide +kernel)) ggL_law_L_level
set_option maxRecDepth 20000 in
theorem ggL_law_X4_level : GoodIn wsL_law wsX4_level := goodIn_r _ [489, 204, 205, 206, 5, 207, 156, 124, 125, 126, 237, 238, 239, 240, 131, 379, 380, 381, 382, 78, 82, 383, 384, 385, 386, 387, 86, 87, 85, 84, 88, 388, 389, 390, 563, 564, 565, 566, 567, 568, 569, 570, 571, 572, 573, 574, 575, 576, 577, 578, 579, 580, 581, 582, 583, 584, 585, 586, 587, 588, 589, 590] (by decide +kernel) (by decide +kernel)
set_option maxRecDepth 20000 in
theorem gL_law_X4_level : GoodIn wsL_law (wsV RL 145 RX4 yX4_level wsX4_level) := goodIn_app (goodIn_of _ (by decide +kernel)) ggL_law_X4_level
set_option maxRecDepth 20000 in
theorem ggL_law_L_wanted : GoodIn wsL_law wsL_wanted := goodIn_ca (goodIn_r _ [492, 98, 493, 494, 495, 2, 496, 30, 168, 169, 170, 171, 105, 106, 13, 362, 29, 363, 364, 65, 57, 62, 64, 58, 67, 66, 59, 365, 366, 367, 368, 369, 370, 371, 556, 557, 558, 559, 560, 561, 562, 603, 604, 605, 606, 607, 608, 609, 610, 611, 612, 613] (by decide +kernel) (by decide +kernel)) (goodIn_sub (fun _ h => List.mem_append_left _ (List.mem_append_left _ (List.mem_append_right _ h))) (by decide +kernel))
set_option maxRecDepth 20000 in
theorem gL_law_L_wanted : GoodIn wsL_law (va_wsS RL 146 yL_wanted wsL_wanted) := goodIn_app (goodIn_of _ (by decide +kernel)) ggL_law_L_wanted
set_option maxRecDepth 20000 in
theorem ggL_law_X4_wanted : GoodIn wsL_law wsX4_wanted := goodIn_r _ [500, 204, 205, 206, 5, 207, 156, 124, 125, 126, 237, 238, 239, 240, 131, 383, 384, 385, 386, 387, 86, 87, 85, 84, 88, 388, 389, 390, 563, 564, 565, 566, 567, 568, 569, 570, 571, 572, 573, 574, 575, 576, 577, 578, 579, 580, 581, 582, 583, 584, 585, 586, 587, 588, 589, 590] (by decide +kernel) (by decide +kernel)
set_option maxRecDepth 20000 in
theorem gL_law_X4_wanted : GoodIn wsL_law (wsV RL 148 RX4 yX4_wanted wsX4_wanted) := goodIn_app (goodIn_of _ (by decide +kernel)) ggL_law_X4_wanted
set_option maxRecDepth 20000 in
theorem ggL_law_L_wantedByCues : GoodIn wsL_law wsL_wantedByCues := goodIn_ca (goodIn_r _ [503, 98, 504, 505, 506, 2, 507, 30, 168, 169, 170, 171, 105, 106, 13, 362, 29, 363, 364, 65, 57, 62, 64, 58, 67, 66, 59, 365, 366, 367, 368, 369, 370, 371, 556, 557, 558, 559, 560, 561, 562, 603, 604, 605, 606, 607, 608, 609, 610, 611, 612, 613] (by decide +kernel) (by decide +kernel)) (goodIn_sub (fun _ h => List.mem_append_left _ (List.mem_append_left _ (List.mem_append_right _ h))) (by decide +kernel))
set_option maxRecDepth 20000 in
theorem gL_law_L_wantedByCues : GoodIn wsL_law (va_wsS RL 149 yL_wantedByCues wsL_wantedByCues) := goodIn_app (goodIn_of _ (by decide +kernel)) ggL_law_L_wantedByCues
set_option maxRecDepth 20000 in
theorem ggL_law_X4_wantedByCues : GoodIn wsL_law wsX4_wantedByCues := goodIn_r _ [511, 204, 205, 206, 5, 207, 156, 124, 125, 126, 237, 238, 239, 240, 131, 383, 384, 385, 386, 387, 86, 87, 85, 84, 88, 388, 389, 390, 563, 564, 565, 566, 567, 568, 569, 570, 571, 572, 573, 574, 575, 576, 577, 578, 579, 580, 581, 582, 583, 584, 585, 586, 587, 588, 589, 590] (by decide +kernel) (by decide +kernel)
set_option maxRecDepth 20000 in
theorem gL_law_X4_wantedByCues : GoodIn wsL_law (wsV RL 151 RX4 yX4_wantedByCues wsX4_wantedByCues) := goodIn_app (goodIn_of _ (by decide +kernel)) ggL_law_X4_wantedByCues
set_option maxRecDepth 20000 in
theorem ggL_law_L_bulb : GoodIn wsL_law wsL_bulb := goodIn_ca (goodIn_r _ [514, 98, 515, 516, 517, 2, 518, 18, 168, 169, 170, 171, 105, 106, 13, 556, 557, 558, 559, 560, 561, 562] (by decide +kernel) (by decide +kernel)) (goodIn_sub (fun _ h => List.mem_append_left _ (List.mem_append_left _ (List.mem_append_right _ h))) (by decide +kernel))
set_option maxRecDepth 20000 in
theorem gL_law_L_bulb : GoodIn wsL_law (va_wsS RL 152 yL_bulb wsL_bulb) := goodIn_app (goodIn_of _ (by decide +kernel)) ggL_law_L_bulb
set_option maxRecDepth 20000 in
theorem ggL_law_X4_bulb : GoodIn wsL_law wsX4_bulb := goodIn_r _ [522, 82, 204, 205, 206, 5, 207, 156, 124, 125, 126, 237, 238, 239, 240, 131, 563, 564, 565, 566, 567, 568, 569, 570, 571, 572, 573, 574, 575, 576, 577, 578, 579, 580, 581, 582, 583, 584, 585, 586, 587, 588, 589, 590] (by decide +kernel) (by decide +kernel)
set_option maxRecDepth 20000 in
theorem gL_law_X4_bulb : GoodIn wsL_law (wsV RL 154 RX4 yX4_bulb wsX4_bulb) := goodIn_app (goodIn_of _ (by decide +kernel)) ggL_law_X4_bulb
set_option maxRecDepth 20000 in
theorem ggL_law_L_standIn : GoodIn wsL_law wsL_standIn := goodIn_ca (goodIn_ca (goodIn_ca (goodIn_r _ [525, 98, 99, 100, 526, 527, 528, 2, 529, 112, 113, 107, 108, 18, 30, 168, 169, 170, 171, 105, 106, 13, 530, 29, 531, 532, 57, 61, 437, 413, 414, 556, 557, 558, 559, 560, 561, 562, 603, 604, 605, 606, 607, 608, 609, 610, 611, 612, 613] (by decide +kernel) (by decide +kernel)) (goodIn_sub (fun _ h => List.mem_append_right _ h) (by decide +kernel))) (goodIn_sub (fun _ h => List.mem_append_left _ (List.mem_append_right _ h)) (by decide +kernel))) (goodIn_sub (fun _ h => List.mem_append_left _ (List.mem_append_left _ (List.mem_append_right _ h))) (by decide +kernel))
set_option maxRecDepth 20000 in
theorem gL_law_L_standIn : GoodIn wsL_law (va_wsS RL 155 yL_standIn wsL_standIn) := goodIn_app (goodIn_of _ (by decide +kernel)) ggL_law_L_standIn
set_option maxRecDepth 20000 in
theorem ggL_law_X4_standIn : GoodIn wsL_law wsX4_standIn := goodIn_r _ [536, 82, 405, 92, 204, 205, 206, 5, 207, 156, 124, 125, 126, 127, 128, 129, 130, 131, 563, 564, 565, 566, 567, 568, 569, 570, 571, 572, 573, 574, 575, 576, 577, 578, 579, 580, 581, 582, 583, 584, 585, 586, 587, 588, 589, 590] (by decide +kernel) (by decide +kernel)
set_option maxRecDepth 20000 in
theorem gL_law_X4_standIn : GoodIn wsL_law (wsV RL 157 RX4 yX4_standIn wsX4_standIn) := goodIn_app (goodIn_of _ (by decide +kernel)) ggL_law_X4_standIn
set_option maxRecDepth 20000 in
theorem ggL_law_L_colour : GoodIn wsL_law wsL_colour := goodIn_ca (goodIn_ca (goodIn_r _ [539, 98, 99, 540, 541, 542, 2, 543, 15, 16, 168, 169, 170, 171, 105, 106, 13, 109, 110, 111, 112, 113, 556, 557, 558, 559, 560, 561, 562] (by decide +kernel) (by decide +kernel)) (goodIn_sub (fun _ h => List.mem_append_left _ (List.mem_append_left _ (List.mem_append_right _ h))) (by decide +kernel))) (goodIn_sub (fun _ h => List.mem_append_right _ h) (by decide +kernel))
set_option maxRecDepth 20000 in
theorem gL_law_L_colour : GoodIn wsL_law (va_wsS RL 158 yL_colour wsL_colour) := goodIn_app (goodIn_of _ (by decide +kernel)) ggL_law_L_colour
set_option maxRecDepth 20000 in
theorem ggL_law_X4_colour : GoodIn wsL_law wsX4_colour := goodIn_r _ [547, 77, 83, 204, 205, 206, 5, 207, 156, 124, 125, 126, 157, 158, 159, 160, 131, 563, 564, 565, 566, 567, 568, 569, 570, 571, 572, 573, 574, 575, 576, 577, 578, 579, 580, 581, 582, 583, 584, 585, 586, 587, 588, 589, 590] (by decide +kernel) (by decide +kernel)
set_option maxRecDepth 20000 in
theorem gL_law_X4_colour : GoodIn wsL_law (wsV RL 160 RX4 yX4_colour wsX4_colour) := goodIn_app (goodIn_of _ (by decide +kernel)) ggL_law_X4_colour
set_option maxRecDepth 20000 in
theorem ggL_law_X3_burnt : GoodIn wsL_law wsX3_burnt := goodIn_r _ [551, 13, 16, 556, 557, 558, 559, 560, 561, 562] (by decide +kernel) (by decide +kernel)
set_option maxRecDepth 20000 in
theorem gL_law_X3_burnt : GoodIn wsL_law (wsV RL 161 RX3 yX3_burnt wsX3_burnt) := goodIn_app (goodIn_of _ (by decide +kernel)) ggL_law_X3_burnt
set_option maxRecDepth 20000 in
theorem ggL_law_X4_burnt : GoodIn wsL_law wsX4_burnt := goodIn_r _ [555, 131, 156, 83, 563, 564, 565, 566, 567, 568, 569, 570, 571, 572, 573, 574, 575, 576, 577, 578, 579, 580, 581, 582, 583, 584, 585, 586, 587, 588, 589, 590] (by decide +kernel) (by decide +kernel)
set_option maxRecDepth 20000 in
theorem gL_law_X4_burnt : GoodIn wsL_law (wsV RL 164 RX4 yX4_burnt wsX4_burnt) := goodIn_app (goodIn_of _ (by decide +kernel)) ggL_law_X4_burnt
