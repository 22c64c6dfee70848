theorem dX4_patch_44 : decode cX4_patch 44 = .ok (.ireturn, 1) := by decide +kernel
theorem dX4_patch_45 : decode cX4_patch 45 = .ok (.aload_n 0, 1) := by decide +kernel
theorem dX4_patch_46 : decode cX4_patch 46 = .ok (.getfield 31, 3) := by decide +kernel
theorem dX4_patch_49 : decode cX4_patch 49 = .ok (.iload_n 1, 1) := by decide +kernel
theorem dX4_patch_50 : decode cX4_patch 50 = .ok (.iload_n 2, 1) := by decide +kernel
theorem dX4_patch_51 : decode cX4_patch 51 = .ok (.iastore, 1) := by decide +kernel
theorem dX4_patch_52 : decode cX4_patch 52 = .ok (.iconst 0, 1) := by decide +kernel
theorem dX4_patch_53 : decode cX4_patch 53 = .ok (.istore 4, 2) := by decide +kernel
theorem dX4_patch_55 : decode cX4_patch 55 = .ok (.iconst 0, 1) := by decide +kernel
theorem dX4_patch_56 : decode cX4_patch 56 = .ok (.istore 5, 2) := by decide +kernel
theorem dX4_patch_58 : decode cX4_patch 58 = .ok (.iload 5, 2) := by decide +kernel
theorem dX4_patch_60 : decode cX4_patch 60 = .ok (.bipush 100, 2) := by decide +kernel
theorem dX4_patch_62 : decode cX4_patch 62 = .ok (.if_icmp .ge 29, 3) := by decide +kernel
theorem dX4_patch_65 : decode cX4_patch 65 = .ok (.iload 4, 2) := by decide +kernel
theorem dX4_patch_67 : decode cX4_patch 67 = .ok (.aload_n 0, 1) := by decide +kernel
theorem dX4_patch_68 : decode cX4_patch 68 = .ok (.iload 5, 2) := by decide +kernel
theorem dX4_patch_70 : decode cX4_patch 70 = .ok (.invokevirtual 127, 3) := by decide +kernel
theorem dX4_patch_73 : decode cX4_patch 73 = .ok (.iconst 1, 1) := by decide +kernel
theorem dX4_patch_74 : decode cX4_patch 74 = .ok (.if_icmp .le 7, 3) := by decide +kernel
theorem dX4_patch_77 : decode cX4_patch 77 = .ok (.iconst 1, 1) := by decide +kernel
theorem dX4_patch_78 : decode cX4_patch 78 = .ok (.goto 4, 3) := by decide +kernel
theorem dX4_patch_81 : decode cX4_patch 81 = .ok (.iconst 0, 1) := by decide +kernel
theorem dX4_patch_82 : decode cX4_patch 82 = .ok (.iadd, 1) := by decide +kernel
theorem dX4_patch_83 : decode cX4_patch 83 = .ok (.istore 4, 2) := by decide +kernel
theorem dX4_patch_85 : decode cX4_patch 85 = .ok (.iinc 5 1, 3) := by decide +kernel
theorem dX4_patch_88 : decode cX4_patch 88 = .ok (.goto (-30), 3) := by decide +kernel
theorem dX4_patch_91 : decode cX4_patch 91 = .ok (.iload 4, 2) := by decide +kernel
theorem dX4_patch_93 : decode cX4_patch 93 = .ok (.ireturn, 1) := by decide +kernel
set_option maxRecDepth 20000 in
theorem ggX4_gap_X4_isIn : GoodIn wsX4_gap wsX4_isIn := goodIn_r _ [4] (by decide +kernel) (by decide +kernel)
set_option maxRecDepth 20000 in
theorem gX4_gap_X4_isIn : GoodIn wsX4_gap (va_wsS RX4 81 yX4_isIn wsX4_isIn) := goodIn_app (goodIn_of _ (by decide +kernel)) ggX4_gap_X4_isIn
set_option maxRecDepth 20000 in
theorem ggX4_gap_X4_may : GoodIn wsX4_gap wsX4_may := goodIn_r _ [8, 9, 20, 21, 22, 23, 24, 25, 26, 27, 28, 29, 30, 31, 32, 33, 34, 35, 36, 37, 38, 39, 40, 41, 42, 43, 44, 45, 46, 47] (by decide +kernel) (by decide +kernel)
set_option maxRecDepth 20000 in
theorem gX4_gap_X4_may : GoodIn wsX4_gap (wsV RX4 117 RX4 yX4_may wsX4_may) := goodIn_app (goodIn_of _ (by decide +kernel)) ggX4_gap_X4_may
set_option maxRecDepth 20000 in
theorem ggX4_gap_X4_lampsAt : GoodIn wsX4_gap wsX4_lampsAt := goodIn_r _ [13, 14, 15, 16, 17, 18, 3, 19, 1, 2, 4, 20, 21, 22, 23, 24, 25, 26, 27, 28, 29, 30, 31, 32, 33, 34, 35, 36, 37, 38, 39, 40, 41, 42, 43, 44, 45, 46, 47] (by decide +kernel) (by decide +kernel)
set_option maxRecDepth 20000 in
theorem gX4_gap_X4_lampsAt : GoodIn wsX4_gap (wsV RX4 127 RX4 yX4_lampsAt wsX4_lampsAt) := goodIn_app (goodIn_of _ (by decide +kernel)) ggX4_gap_X4_lampsAt
theorem dX4_gap_0 : decode cX4_gap 0 = .ok (.aload_n 0, 1) := by decide +kernel
theorem dX4_gap_1 : decode cX4_gap 1 = .ok (.iload_n 1, 1) := by decide +kernel
theorem dX4_gap_2 : decode cX4_gap 2 = .ok (.iconst 1, 1) := by decide +kernel
theorem dX4_gap_3 : decode cX4_gap 3 = .ok (.bipush 100, 2) := by decide +kernel
theorem dX4_gap_5 : decode cX4_gap 5 = .ok (.invokestatic 81, 3) := by decide +kernel
theorem dX4_gap_8 : decode cX4_gap 8 = .ok (.invokevirtual 117, 3) := by decide +kernel
theorem dX4_gap_11 : decode cX4_gap 11 = .ok (.ifCond .ne 5, 3) := by decide +kernel
theorem dX4_gap_14 : decode cX4_gap 14 = .ok (.iconst 0, 1) := by decide +kernel
theorem dX4_gap_15 : decode cX4_gap 15 = .ok (.ireturn, 1) := by decide +kernel
theorem dX4_gap_16 : decode cX4_gap 16 = .ok (.iconst 0, 1) := by decide +kernel
theorem dX4_gap_17 : decode cX4_gap 17 = .ok (.istore_n 2, 1) := by decide +kernel
theorem dX4_gap_18 : decode cX4_gap 18 = .ok (.iconst 0, 1) := by decide +kernel
theorem dX4_gap_19 : decode cX4_gap 19 = .ok (.istore_n 3, 1) := by decide +kernel
theorem dX4_gap_20 : decode cX4_gap 20 = .ok (.iload_n 3, 1) := by decide +kernel
theorem dX4_gap_21 : decode cX4_gap 21 = .ok (.bipush 100, 2) := by decide +kernel
theorem dX4_gap_23 : decode cX4_gap 23 = .ok (.if_icmp .ge 36, 3) := by decide +kernel
theorem dX4_gap_26 : decode cX4_gap 26 = .ok (.aload_n 0, 1) := by decide +kernel
theorem dX4_gap_27 : decode cX4_gap 27 = .ok (.iload_n 3, 1) := by decide +kernel
theorem dX4_gap_28 : decode cX4_gap 28 = .ok (.invokevirtual 127, 3) := by decide +kernel
theorem dX4_gap_31 : decode cX4_gap 31 = .ok (.ifCond .ne 9, 3) := by decide +kernel
theorem dX4_gap_34 : decode cX4_gap 34 = .ok (.iload_n 2, 1) := by decide +kernel
theorem dX4_gap_35 : decode cX4_gap 35 = .ok (.iconst 1, 1) := by decide +kernel
theorem dX4_gap_36 : decode cX4_gap 36 = .ok (.iadd, 1) := by decide +kernel
theorem dX4_gap_37 : decode cX4_gap 37 = .ok (.goto 4, 3) := by decide +kernel
theorem dX4_gap_40 : decode cX4_gap 40 = .ok (.iconst 0, 1) := by decide +kernel
theorem dX4_gap_41 : decode cX4_gap 41 = .ok (.istore_n 2, 1) := by decide +kernel
theorem dX4_gap_42 : decode cX4_gap 42 = .ok (.iload_n 2, 1) := by decide +kernel
theorem dX4_gap_43 : decode cX4_gap 43 = .ok (.iload_n 1, 1) := by decide +kernel
theorem dX4_gap_44 : decode cX4_gap 44 = .ok (.if_icmp .ne 9, 3) := by decide +kernel
theorem dX4_gap_47 : decode cX4_gap 47 = .ok (.iload_n 3, 1) := by decide +kernel
theorem dX4_gap_48 : decode cX4_gap 48 = .ok (.iload_n 1, 1) := by decide +kernel
theorem dX4_gap_49 : decode cX4_gap 49 = .ok (.isub, 1) := by decide +kernel
theorem dX4_gap_50 : decode cX4_gap 50 = .ok (.iconst 1, 1) := by decide +kernel
theorem dX4_gap_51 : decode cX4_gap 51 = .ok (.iadd, 1) := by decide +kernel
theorem dX4_gap_52 : decode cX4_gap 52 = .ok (.ireturn, 1) := by decide +kernel
theorem dX4_gap_53 : decode cX4_gap 53 = .ok (.iinc 3 1, 3) := by decide +kernel
theorem dX4_gap_56 : decode cX4_gap 56 = .ok (.goto (-36), 3) := by decide +kernel
theorem dX4_gap_59 : decode cX4_gap 59 = .ok (.iconst (-1), 1) := by decide +kernel
theorem dX4_gap_60 : decode cX4_gap 60 = .ok (.ireturn, 1) := by decide +kernel
set_option maxRecDepth 20000 in
theorem ggX4_plug_X4_isLamp : GoodIn wsX4_plug wsX4_isLamp := goodIn_r _ [6, 7, 8, 9, 5, 10, 16, 17, 18, 19, 20, 21, 22, 23, 24, 25, 26, 27, 28, 29, 30, 31, 32, 33, 34, 35, 36, 37, 38, 39, 40, 41, 42, 43] (by decide +kernel) (by decide +kernel)
set_option maxRecDepth 20000 in
theorem gX4_plug_X4_isLamp : GoodIn wsX4_plug (wsV RX4 107 RX4 yX4_isLamp wsX4_isLamp) := goodIn_app (goodIn_of _ (by decide +kernel)) ggX4_plug_X4_isLamp
set_option maxRecDepth 20000 in
theorem ggX4_plug_X4_isIn : GoodIn wsX4_plug wsX4_isIn := goodIn_r _ [10] (by decide +kernel) (by decide +kernel)
set_option maxRecDepth 20000 in
theorem gX4_plug_X4_isIn : GoodIn wsX4_plug (va_wsS RX4 81 yX4_isIn wsX4_isIn) := goodIn_app (goodIn_of _ (by decide +kernel)) ggX4_plug_X4_isIn
set_option maxRecDepth 20000 in
theorem ggX4_plug_X4_may : GoodIn wsX4_plug wsX4_may := goodIn_r _ [14, 15, 16, 17, 18, 19, 20, 21, 22, 23, 24, 25, 26, 27, 28, 29, 30, 31, 32, 33, 34, 35, 36, 37, 38, 39, 40, 41, 42, 43] (by decide +kernel) (by decide +kernel)
set_option maxRecDepth 20000 in
theorem gX4_plug_X4_may : GoodIn wsX4_plug (wsV RX4 117 RX4 yX4_may wsX4_may) := goodIn_app (goodIn_of _ (by decide +kernel)) ggX4_plug_X4_may
theorem dX4_plug_0 : decode cX4_plug 0 = .ok (.aload_n 0, 1) := by decide +kernel
theorem dX4_plug_1 : decode cX4_plug 1 = .ok (.aload_n 0, 1) := by decide +kernel
theorem dX4_plug_2 : decode cX4_plug 2 = .ok (.iload_n 1, 1) := by decide +kernel
theorem dX4_plug_3 : decode cX4_plug 3 = .ok (.invokevirtual 107, 3) := by decide +kernel
theorem dX4_plug_6 : decode cX4_plug 6 = .ok (.ifCond .eq 16, 3) := by decide +kernel
theorem dX4_plug_9 : decode cX4_plug 9 = .ok (.iload_n 2, 1) := by decide +kernel
theorem dX4_plug_10 : decode cX4_plug 10 = .ok (.iconst (-1), 1) := by decide +kernel
theorem dX4_plug_11 : decode cX4_plug 11 = .ok (.iconst 3, 1) := by decide +kernel
theorem dX4_plug_12 : decode cX4_plug 12 = .ok (.invokestatic 81, 3) := by decide +kernel
theorem dX4_plug_15 : decode cX4_plug 15 = .ok (.ifCond .eq 7, 3) := by decide +kernel
theorem dX4_plug_18 : decode cX4_plug 18 = .ok (.iconst 1, 1) := by decide +kernel
theorem dX4_plug_19 : decode cX4_plug 19 = .ok (.goto 4, 3) := by decide +kernel
theorem dX4_plug_22 : decode cX4_plug 22 = .ok (.iconst 0, 1) := by decide +kernel
theorem dX4_plug_23 : decode cX4_plug 23 = .ok (.invokevirtual 117, 3) := by decide +kernel
theorem dX4_plug_26 : decode cX4_plug 26 = .ok (.ifCond .ne 5, 3) := by decide +kernel
theorem dX4_plug_29 : decode cX4_plug 29 = .ok (.iconst 0, 1) := by decide +kernel
theorem dX4_plug_30 : decode cX4_plug 30 = .ok (.ireturn, 1) := by decide +kernel
theorem dX4_plug_31 : decode cX4_plug 31 = .ok (.aload_n 0, 1) := by decide +kernel
theorem dX4_plug_32 : decode cX4_plug 32 = .ok (.getfield 34, 3) := by decide +kernel
theorem dX4_plug_35 : decode cX4_plug 35 = .ok (.iload_n 1, 1) := by decide +kernel
theorem dX4_plug_36 : decode cX4_plug 36 = .ok (.iaload, 1) := by decide +kernel
theorem dX4_plug_37 : decode cX4_plug 37 = .ok (.istore_n 3, 1) := by decide +kernel
theorem dX4_plug_38 : decode cX4_plug 38 = .ok (.aload_n 0, 1) := by decide +kernel
theorem dX4_plug_39 : decode cX4_plug 39 = .ok (.getfield 34, 3) := by decide +kernel
theorem dX4_plug_42 : decode cX4_plug 42 = .ok (.iload_n 1, 1) := by decide +kernel
theorem dX4_plug_43 : decode cX4_plug 43 = .ok (.iload_n 2, 1) := by decide +kernel
theorem dX4_plug_44 : decode cX4_plug 44 = .ok (.iastore, 1) := by decide +kernel
theorem dX4_plug_45 : decode cX4_plug 45 = .ok (.iload_n 3, 1) := by decide +kernel
theorem dX4_plug_46 : decode cX4_plug 46 = .ok (.ireturn, 1) := by decide +kernel
set_option maxRecDepth 20000 in
theorem ggX4_load_X4_isIn : GoodIn wsX4_load wsX4_isIn := goodIn_r _ [7] (by decide +kernel) (by decide +kernel)
set_option maxRecDepth 20000 in
theorem gX4_load_X4_isIn : GoodIn wsX4_load (va_wsS RX4 81 yX4_isIn wsX4_isIn) := goodIn_app (goodIn_of _ (by decide +kernel)) ggX4_load_X4_isIn
set_option maxRecDepth 20000 in
theorem ggX4_load_X4_may : GoodIn wsX4_load wsX4_may := goodIn_r _ [11, 12, 35, 36, 37, 38, 39, 40, 41, 42, 43, 44, 45, 46, 47, 48, 49, 50, 51, 52, 53, 54, 55, 56, 57, 58, 59, 60, 61, 62] (by decide +kernel) (by decide +kernel)
set_option maxRecDepth 20000 in
theorem gX4_load_X4_may : GoodIn wsX4_load (wsV RX4 117 RX4 yX4_may wsX4_may) := goodIn_app (goodIn_of _ (by decide +kernel)) ggX4_load_X4_may
set_option maxRecDepth 20000 in
theorem ggX4_load_X4_draws : GoodIn wsX4_load wsX4_draws := goodIn_r _ [15] (by decide +kernel) (by decide +kernel)
set_option maxRecDepth 20000 in
theorem gX4_load_X4_draws : GoodIn wsX4_load (va_wsS RX4 130 yX4_draws wsX4_draws) := goodIn_app (goodIn_of _ (by decide +kernel)) ggX4_load_X4_draws
set_option maxRecDepth 20000 in
theorem ggX4_load_X4_levelOf : GoodIn wsX4_load wsX4_levelOf := goodIn_r _ [19, 20, 21, 22, 23, 24, 6, 25, 26, 27, 28, 29, 30, 31, 32, 33, 34, 35, 36, 37, 38, 39, 40, 41, 42, 43, 44, 45, 46, 47, 48, 49, 50, 51, 52, 53, 54, 55, 56, 57, 58, 59, 60, 61, 62] (by decide +kernel) (by decide +kernel)
set_option maxRecDepth 20000 in
theorem gX4_load_X4_levelOf : GoodIn wsX4_load (wsV RX4 133 RX4 yX4_levelOf wsX4_levelOf) := goodIn_app (goodIn_of _ (by decide +kernel)) ggX4_load_X4_levelOf
theorem dX4_load_0 : decode cX4_load 0 = .ok (.aload_n 0, 1) := by decide +kernel
theorem dX4_load_1 : decode cX4_load 1 = .ok (.iload_n 1, 1) := by decide +kernel
theorem dX4_load_2 : decode cX4_load 2 = .ok (.iconst 0, 1) := by decide +kernel
theorem dX4_load_3 : decode cX4_load 3 = .ok (.iconst 3, 1) := by decide +kernel
theorem dX4_load_4 : decode cX4_load 4 = .ok (.invokestatic 81, 3) := by decide +kernel
theorem dX4_load_7 : decode cX4_load 7 = .ok (.invokevirtual 117, 3) := by decide +kernel
theorem dX4_load_10 : decode cX4_load 10 = .ok (.ifCond .ne 5, 3) := by decide +kernel
theorem dX4_load_13 : decode cX4_load 13 = .ok (.iconst 0, 1) := by decide +kernel
theorem dX4_load_14 : decode cX4_load 14 = .ok (.ireturn, 1) := by decide +kernel
theorem dX4_load_15 : decode cX4_load 15 = .ok (.iconst 0, 1) := by decide +kernel
theorem dX4_load_16 : decode cX4_load 16 = .ok (.istore_n 2, 1) := by decide +kernel
theorem dX4_load_17 : decode cX4_load 17 = .ok (.iconst 0, 1) := by decide +kernel
theorem dX4_load_18 : decode cX4_load 18 = .ok (.istore_n 3, 1) := by decide +kernel
theorem dX4_load_19 : decode cX4_load 19 = .ok (.iload_n 3, 1) := by decide +kernel
theorem dX4_load_20 : decode cX4_load 20 = .ok (.aload_n 0, 1) := by decide +kernel
theorem dX4_load_21 : decode cX4_load 21 = .ok (.getfield 78, 3) := by decide +kernel
theorem dX4_load_24 : decode cX4_load 24 = .ok (.if_icmp .ge 44, 3) := by decide +kernel
theorem dX4_load_27 : decode cX4_load 27 = .ok (.iload_n 2, 1) := by decide +kernel
theorem dX4_load_28 : decode cX4_load 28 = .ok (.aload_n 0, 1) := by decide +kernel
theorem dX4_load_29 : decode cX4_load 29 = .ok (.getfield 34, 3) := by decide +kernel
theorem dX4_load_32 : decode cX4_load 32 = .ok (.iload_n 3, 1) := by decide +kernel
theorem dX4_load_33 : decode cX4_load 33 = .ok (.iaload, 1) := by decide +kernel
theorem dX4_load_34 : decode cX4_load 34 = .ok (.iload_n 1, 1) := by decide +kernel
theorem dX4_load_35 : decode cX4_load 35 = .ok (.if_icmp .ne 24, 3) := by decide +kernel
theorem dX4_load_38 : decode cX4_load 38 = .ok (.aload_n 0, 1) := by decide +kernel
theorem dX4_load_39 : decode cX4_load 39 = .ok (.getfield 19, 3) := by decide +kernel
theorem dX4_load_42 : decode cX4_load 42 = .ok (.iload_n 3, 1) := by decide +kernel
theorem dX4_load_43 : decode cX4_load 43 = .ok (.iaload, 1) := by decide +kernel
theorem dX4_load_44 : decode cX4_load 44 = .ok (.invokestatic 130, 3) := by decide +kernel
theorem dX4_load_47 : decode cX4_load 47 = .ok (.aload_n 0, 1) := by decide +kernel
theorem dX4_load_48 : decode cX4_load 48 = .ok (.iload_n 3, 1) := by decide +kernel
theorem dX4_load_49 : decode cX4_load 49 = .ok (.invokevirtual 133, 3) := by decide +kernel
theorem dX4_load_52 : decode cX4_load 52 = .ok (.imul, 1) := by decide +kernel
theorem dX4_load_53 : decode cX4_load 53 = .ok (.bipush 100, 2) := by decide +kernel
theorem dX4_load_55 : decode cX4_load 55 = .ok (.idiv, 1) := by decide +kernel
theorem dX4_load_56 : decode cX4_load 56 = .ok (.goto 4, 3) := by decide +kernel
theorem dX4_load_59 : decode cX4_load 59 = .ok (.iconst 0, 1) := by decide +kernel
theorem dX4_load_60 : decode cX4_load 60 = .ok (.iadd, 1) := by decide +kernel
theorem dX4_load_61 : decode cX4_load 61 = .ok (.istore_n 2, 1) := by decide +kernel
theorem dX4_load_62 : decode cX4_load 62 = .ok (.iinc 3 1, 3) := by decide +kernel
theorem dX4_load_65 : decode cX4_load 65 = .ok (.goto (-46), 3) := by decide +kernel
theorem dX4_load_68 : decode cX4_load 68 = .ok (.iload_n 2, 1) := by decide +kernel
theorem dX4_load_69 : decode cX4_load 69 = .ok (.ireturn, 1) := by decide +kernel
set_option maxRecDepth 20000 in
theorem ggX4_cue_X4_isIn : GoodIn wsX4_cue wsX4_isIn := goodIn_r _ [8] (by decide +kernel) (by decide +kernel)
set_option maxRecDepth 20000 in
theorem gX4_cue_X4_isIn : GoodIn wsX4_cue (va_wsS RX4 81 yX4_isIn wsX4_isIn) := goodIn_app (goodIn_of _ (by decide +kernel)) ggX4_cue_X4_isIn
set_option maxRecDepth 20000 in
theorem ggX4_cue_X4_mayBoth : GoodIn wsX4_cue wsX4_mayBoth := goodIn_r _ [12, 13, 14, 15, 16, 17, 18, 19, 20, 21, 22, 23, 24, 25, 26, 27, 28, 29, 30, 31, 32, 33, 34, 35, 36, 37, 38, 39, 40, 41] (by decide +kernel) (by decide +kernel)
set_option maxRecDepth 20000 in
theorem gX4_cue_X4_mayBoth : GoodIn wsX4_cue (wsV RX4 95 RX4 yX4_mayBoth wsX4_mayBoth) := goodIn_app (goodIn_of _ (by decide +kernel)) ggX4_cue_X4_mayBoth
theorem dX4_cue_0 : decode cX4_cue 0 = .ok (.aload_n 0, 1) := by decide +kernel
theorem dX4_cue_1 : decode cX4_cue 1 = .ok (.iload_n 1, 1) := by decide +kernel
theorem dX4_cue_2 : decode cX4_cue 2 = .ok (.iconst 0, 1) := by decide +kernel
theorem dX4_cue_3 : decode cX4_cue 3 = .ok (.bipush 50, 2) := by decide +kernel
theorem dX4_cue_5 : decode cX4_cue 5 = .ok (.invokestatic 81, 3) := by decide +kernel
theorem dX4_cue_8 : decode cX4_cue 8 = .ok (.ifCond .eq 26, 3) := by decide +kernel
theorem dX4_cue_11 : decode cX4_cue 11 = .ok (.iload_n 2, 1) := by decide +kernel
theorem dX4_cue_12 : decode cX4_cue 12 = .ok (.iconst 0, 1) := by decide +kernel
theorem dX4_cue_13 : decode cX4_cue 13 = .ok (.iconst 2, 1) := by decide +kernel
theorem dX4_cue_14 : decode cX4_cue 14 = .ok (.invokestatic 81, 3) := by decide +kernel
theorem dX4_cue_17 : decode cX4_cue 17 = .ok (.ifCond .eq 17, 3) := by decide +kernel
theorem dX4_cue_20 : decode cX4_cue 20 = .ok (.iload_n 3, 1) := by decide +kernel
theorem dX4_cue_21 : decode cX4_cue 21 = .ok (.iconst (-1), 1) := by decide +kernel
theorem dX4_cue_22 : decode cX4_cue 22 = .ok (.bipush 50, 2) := by decide +kernel
theorem dX4_cue_24 : decode cX4_cue 24 = .ok (.invokestatic 81, 3) := by decide +kernel
theorem dX4_cue_27 : decode cX4_cue 27 = .ok (.ifCond .eq 7, 3) := by decide +kernel
theorem dX4_cue_30 : decode cX4_cue 30 = .ok (.iconst 1, 1) := by decide +kernel
theorem dX4_cue_31 : decode cX4_cue 31 = .ok (.goto 4, 3) := by decide +kernel
theorem dX4_cue_34 : decode cX4_cue 34 = .ok (.iconst 0, 1) := by decide +kernel
theorem dX4_cue_35 : decode cX4_cue 35 = .ok (.aload_n 0, 1) := by decide +kernel
theorem dX4_cue_36 : decode cX4_cue 36 = .ok (.getfield 88, 3) := by decide +kernel
theorem dX4_cue_39 : decode cX4_cue 39 = .ok (.bipush 8, 2) := by decide +kernel
theorem dX4_cue_41 : decode cX4_cue 41 = .ok (.if_icmp .ge 7, 3) := by decide +kernel
theorem dX4_cue_44 : decode cX4_cue 44 = .ok (.iconst 1, 1) := by decide +kernel
theorem dX4_cue_45 : decode cX4_cue 45 = .ok (.goto 4, 3) := by decide +kernel
theorem dX4_cue_48 : decode cX4_cue 48 = .ok (.iconst 0, 1) := by decide +kernel
theorem dX4_cue_49 : decode cX4_cue 49 = .ok (.invokevirtual 95, 3) := by decide +kernel
theorem dX4_cue_52 : decode cX4_cue 52 = .ok (.ifCond .ne 5, 3) := by decide +kernel
theorem dX4_cue_55 : decode cX4_cue 55 = .ok (.iconst 0, 1) := by decide +kernel
theorem dX4_cue_56 : decode cX4_cue 56 = .ok (.ireturn, 1) := by decide +kernel
theorem dX4_cue_57 : decode cX4_cue 57 = .ok (.aload_n 0, 1) := by decide +kernel
theorem dX4_cue_58 : decode cX4_cue 58 = .ok (.getfield 59, 3) := by decide +kernel
theorem dX4_cue_61 : decode cX4_cue 61 = .ok (.aload_n 0, 1) := by decide +kernel
theorem dX4_cue_62 : decode cX4_cue 62 = .ok (.getfield 88, 3) := by decide +kernel
theorem dX4_cue_65 : decode cX4_cue 65 = .ok (.iload_n 1, 1) := by decide +kernel
theorem dX4_cue_66 : decode cX4_cue 66 = .ok (.iastore, 1) := by decide +kernel
theorem dX4_cue_67 : decode cX4_cue 67 = .ok (.aload_n 0, 1) := by decide +kernel
theorem dX4_cue_68 : decode cX4_cue 68 = .ok (.getfield 62, 3) := by decide +kernel
theorem dX4_cue_71 : decode cX4_cue 71 = .ok (.aload_n 0, 1) := by decide +kernel
theorem dX4_cue_72 : decode cX4_cue 72 = .ok (.getfield 88, 3) := by decide +kernel
theorem dX4_cue_75 : decode cX4_cue 75 = .ok (.iload_n 2, 1) := by decide +kernel
theorem dX4_cue_76 : decode cX4_cue 76 = .ok (.iastore, 1) := by decide +kernel
theorem dX4_cue_77 : decode cX4_cue 77 = .ok (.aload_n 0, 1) := by decide +kernel
theorem dX4_cue_78 : decode cX4_cue 78 = .ok (.getfield 65, 3) := by decide +kernel
theorem dX4_cue_81 : decode cX4_cue 81 = .ok (.aload_n 0, 1) := by decide +kernel
theorem dX4_cue_82 : decode cX4_cue 82 = .ok (.getfield 88, 3) := by decide +kernel
theorem dX4_cue_85 : decode cX4_cue 85 = .ok (.iload_n 3, 1) := by decide +kernel
theorem dX4_cue_86 : decode cX4_cue 86 = .ok (.iastore, 1) := by decide +kernel
theorem dX4_cue_87 : decode cX4_cue 87 = .ok (.aload_n 0, 1) := by decide +kernel
theorem dX4_cue_88 : decode cX4_cue 88 = .ok (.dup, 1) := by decide +kernel
theorem dX4_cue_89 : decode cX4_cue 89 = .ok (.getfield 88, 3) := by decide +kernel
theorem dX4_cue_92 : decode cX4_cue 92 = .ok (.iconst 1, 1) := by decide +kernel
theorem dX4_cue_93 : decode cX4_cue 93 = .ok (.iadd, 1) := by decide +kernel
theorem dX4_cue_94 : decode cX4_cue 94 = .ok (.putfield 88, 3) := by decide +kernel
theorem dX4_cue_97 : decode cX4_cue 97 = .ok (.aload_n 0, 1) := by decide +kernel
theorem dX4_cue_98 : decode cX4_cue 98 = .ok (.getfield 88, 3) := by decide +kernel
theorem dX4_cue_101 : decode cX4_cue 101 = .ok (.iconst 1, 1) := by decide +kernel
theorem dX4_cue_102 : decode cX4_cue 102 = .ok (.isub, 1) := by decide +kernel
theorem dX4_cue_103 : decode cX4_cue 103 = .ok (.ireturn, 1) := by decide +kernel
set_option maxRecDepth 20000 in
theorem ggX4_name_X4_isCue : GoodIn wsX4_name wsX4_isCue := goodIn_r _ [6, 7, 8, 9, 5, 10, 21, 22, 23, 24, 25, 26, 27, 28, 29, 30, 31, 32, 33, 34, 35, 36, 37, 38, 39, 40, 41, 42, 43, 44, 45, 46, 47, 48] (by decide +kernel) (by decide +kernel)
set_option maxRecDepth 20000 in
theorem gX4_name_X4_isCue : GoodIn wsX4_name (wsV RX4 136 RX4 yX4_isCue wsX4_isCue) := goodIn_app (goodIn_of _ (by decide +kernel)) ggX4_name_X4_isCue
set_option maxRecDepth 20000 in
theorem ggX4_name_X4_isLamp : GoodIn wsX4_name wsX4_isLamp := goodIn_r _ [14, 15, 8, 9, 5, 10, 21, 22, 23, 24, 25, 26, 27, 28, 29, 30, 31, 32, 33, 34, 35, 36, 37, 38, 39, 40, 41, 42, 43, 44, 45, 46, 47, 48] (by decide +kernel) (by decide +kernel)
set_option maxRecDepth 20000 in
theorem gX4_name_X4_isLamp : GoodIn wsX4_name (wsV RX4 107 RX4 yX4_isLamp wsX4_isLamp) := goodIn_app (goodIn_of _ (by decide +kernel)) ggX4_name_X4_isLamp
set_option maxRecDepth 20000 in
theorem ggX4_name_X4_isIn : GoodIn wsX4_name wsX4_isIn := goodIn_r _ [10] (by decide +kernel) (by decide +kernel)
set_option maxRecDepth 20000 in
theorem gX4_name_X4_isIn : GoodIn wsX4_name (va_wsS RX4 81 yX4_isIn wsX4_isIn) := goodIn_app (goodIn_of _ (by decide +kernel)) ggX4_name_X4_isIn
set_option maxRecDepth 20000 in
theorem ggX4_name_X4_mayBoth : GoodIn wsX4_name wsX4_mayBoth := goodIn_r _ [19, 20, 21, 22, 23, 24, 25, 26, 27, 28, 29, 30, 31, 32, 33, 34, 35, 36, 37, 38, 39, 40, 41, 42, 43, 44, 45, 46, 47, 48] (by decide +kernel) (by decide +kernel)
set_option maxRecDepth 20000 in
theorem gX4_name_X4_mayBoth : GoodIn wsX4_name (wsV RX4 95 RX4 yX4_mayBoth wsX4_mayBoth) := goodIn_app (goodIn_of _ (by decide +kernel)) ggX4_name_X4_mayBoth
theorem dX4_name_0 : decode cX4_name 0 = .ok (.aload_n 0, 1) := by decide +kernel
theorem dX4_name_1 : decode cX4_name 1 = .ok (.aload_n 0, 1) := by decide +kernel
theorem dX4_name_2 : decode cX4_name 2 = .ok (.iload_n 1, 1) := by decide +kernel
theorem dX4_name_3 : decode cX4_name 3 = .ok (.invokevirtual 136, 3) := by decide +kernel
theorem dX4_name_6 : decode cX4_name 6 = .ok (.ifCond .eq 15, 3) := by decide +kernel
theorem dX4_name_9 : decode cX4_name 9 = .ok (.aload_n 0, 1) := by decide +kernel
theorem dX4_name_10 : decode cX4_name 10 = .ok (.iload_n 2, 1) := by decide +kernel
theorem dX4_name_11 : decode cX4_name 11 = .ok (.invokevirtual 107, 3) := by decide +kernel
theorem dX4_name_14 : decode cX4_name 14 = .ok (.ifCond .eq 7, 3) := by decide +kernel
theorem dX4_name_17 : decode cX4_name 17 = .ok (.iconst 1, 1) := by decide +kernel
theorem dX4_name_18 : decode cX4_name 18 = .ok (.goto 4, 3) := by decide +kernel
theorem dX4_name_21 : decode cX4_name 21 = .ok (.iconst 0, 1) := by decide +kernel
theorem dX4_name_22 : decode cX4_name 22 = .ok (.iload_n 3, 1) := by decide +kernel
theorem dX4_name_23 : decode cX4_name 23 = .ok (.iconst (-1), 1) := by decide +kernel
theorem dX4_name_24 : decode cX4_name 24 = .ok (.bipush 100, 2) := by decide +kernel
theorem dX4_name_26 : decode cX4_name 26 = .ok (.invokestatic 81, 3) := by decide +kernel
theorem dX4_name_29 : decode cX4_name 29 = .ok (.invokevirtual 95, 3) := by decide +kernel
theorem dX4_name_32 : decode cX4_name 32 = .ok (.ifCond .ne 5, 3) := by decide +kernel
theorem dX4_name_35 : decode cX4_name 35 = .ok (.iconst 0, 1) := by decide +kernel
theorem dX4_name_36 : decode cX4_name 36 = .ok (.ireturn, 1) := by decide +kernel
theorem dX4_name_37 : decode cX4_name 37 = .ok (.aload_n 0, 1) := by decide +kernel
theorem dX4_name_38 : decode cX4_name 38 = .ok (.getfield 68, 3) := by decide +kernel
theorem dX4_name_41 : decode cX4_name 41 = .ok (.bipush 10, 2) := by decide +kernel
theorem dX4_name_43 : decode cX4_name 43 = .ok (.iload_n 1, 1) := by decide +kernel
theorem dX4_name_44 : decode cX4_name 44 = .ok (.imul, 1) := by decide +kernel
theorem dX4_name_45 : decode cX4_name 45 = .ok (.iload_n 2, 1) := by decide +kernel
theorem dX4_name_46 : decode cX4_name 46 = .ok (.iadd, 1) := by decide +kernel
theorem dX4_name_47 : decode cX4_name 47 = .ok (.iaload, 1) := by decide +kernel
theorem dX4_name_48 : decode cX4_name 48 = .ok (.istore 4, 2) := by decide +kernel
theorem dX4_name_50 : decode cX4_name 50 = .ok (.aload_n 0, 1) := by decide +kernel
theorem dX4_name_51 : decode cX4_name 51 = .ok (.getfield 68, 3) := by decide +kernel
theorem dX4_name_54 : decode cX4_name 54 = .ok (.bipush 10, 2) := by decide +kernel
theorem dX4_name_56 : decode cX4_name 56 = .ok (.iload_n 1, 1) := by decide +kernel
theorem dX4_name_57 : decode cX4_name 57 = .ok (.imul, 1) := by decide +kernel
theorem dX4_name_58 : decode cX4_name 58 = .ok (.iload_n 2, 1) := by decide +kernel
theorem dX4_name_59 : decode cX4_name 59 = .ok (.iadd, 1) := by decide +kernel
theorem dX4_name_60 : decode cX4_name 60 = .ok (.iload_n 3, 1) := by decide +kernel
theorem dX4_name_61 : decode cX4_name 61 = .ok (.iastore, 1) := by decide +kernel
theorem dX4_name_62 : decode cX4_name 62 = .ok (.iload 4, 2) := by decide +kernel
theorem dX4_name_64 : decode cX4_name 64 = .ok (.ireturn, 1) := by decide +kernel
theorem dX4_quotient_0 : decode cX4_quotient 0 = .ok (.iload_n 0, 1) := by decide +kernel
theorem dX4_quotient_1 : decode cX4_quotient 1 = .ok (.iload_n 1, 1) := by decide +kernel
theorem dX4_quotient_2 : decode cX4_quotient 2 = .ok (.idiv, 1) := by decide +kernel
theorem dX4_quotient_3 : decode cX4_quotient 3 = .ok (.istore_n 2, 1) := by decide +kernel
theorem dX4_quotient_4 : decode cX4_quotient 4 = .ok (.iload_n 2, 1) := by decide +kernel
theorem dX4_quotient_5 : decode cX4_quotient 5 = .ok (.iload_n 1, 1) := by decide +kernel
theorem dX4_quotient_6 : decode cX4_quotient 6 = .ok (.imul, 1) := by decide +kernel
theorem dX4_quotient_7 : decode cX4_quotient 7 = .ok (.iload_n 0, 1) := by decide +kernel
theorem dX4_quotient_8 : decode cX4_quotient 8 = .ok (.if_icmp .le 9, 3) := by decide +kernel
theorem dX4_quotient_11 : decode cX4_quotient 11 = .ok (.iload_n 2, 1) := by decide +kernel
theorem dX4_quotient_12 : decode cX4_quotient 12 = .ok (.iconst 1, 1) := by decide +kernel
theorem dX4_quotient_13 : decode cX4_quotient 13 = .ok (.isub, 1) := by decide +kernel
theorem dX4_quotient_14 : decode cX4_quotient 14 = .ok (.goto 4, 3) := by decide +kernel
theorem dX4_quotient_17 : decode cX4_quotient 17 = .ok (.iload_n 2, 1) := by decide +kernel
theorem dX4_quotient_18 : decode cX4_quotient 18 = .ok (.ireturn, 1) := by decide +kernel
set_option maxRecDepth 20000 in
theorem ggX4_wantedOf_X4_quotient : GoodIn wsX4_wantedOf wsX4_quotient := goodIn_r _ [10] (by decide +kernel) (by decide +kernel)
set_option maxRecDepth 20000 in
theorem gX4_wantedOf_X4_quotient : GoodIn wsX4_wantedOf (va_wsS RX4 142 yX4_quotient wsX4_quotient) := goodIn_app (goodIn_of _ (by decide +kernel)) ggX4_wantedOf_X4_quotient
theorem dX4_wantedOf_0 : decode cX4_wantedOf 0 = .ok (.aload_n 0, 1) := by decide +kernel
theorem dX4_wantedOf_1 : decode cX4_wantedOf 1 = .ok (.getfield 139, 3) := by decide +kernel
theorem dX4_wantedOf_4 : decode cX4_wantedOf 4 = .ok (.aload_n 0, 1) := by decide +kernel
theorem dX4_wantedOf_5 : decode cX4_wantedOf 5 = .ok (.getfield 50, 3) := by decide +kernel
theorem dX4_wantedOf_8 : decode cX4_wantedOf 8 = .ok (.iload_n 1, 1) := by decide +kernel
theorem dX4_wantedOf_9 : decode cX4_wantedOf 9 = .ok (.iaload, 1) := by decide +kernel
theorem dX4_wantedOf_10 : decode cX4_wantedOf 10 = .ok (.isub, 1) := by decide +kernel
theorem dX4_wantedOf_11 : decode cX4_wantedOf 11 = .ok (.istore_n 2, 1) := by decide +kernel
theorem dX4_wantedOf_12 : decode cX4_wantedOf 12 = .ok (.aload_n 0, 1) := by decide +kernel
theorem dX4_wantedOf_13 : decode cX4_wantedOf 13 = .ok (.getfield 53, 3) := by decide +kernel
theorem dX4_wantedOf_16 : decode cX4_wantedOf 16 = .ok (.iload_n 1, 1) := by decide +kernel
theorem dX4_wantedOf_17 : decode cX4_wantedOf 17 = .ok (.iaload, 1) := by decide +kernel
theorem dX4_wantedOf_18 : decode cX4_wantedOf 18 = .ok (.istore_n 3, 1) := by decide +kernel
theorem dX4_wantedOf_19 : decode cX4_wantedOf 19 = .ok (.iload_n 2, 1) := by decide +kernel
theorem dX4_wantedOf_20 : decode cX4_wantedOf 20 = .ok (.iload_n 3, 1) := by decide +kernel
theorem dX4_wantedOf_21 : decode cX4_wantedOf 21 = .ok (.if_icmp .lt 10, 3) := by decide +kernel
theorem dX4_wantedOf_24 : decode cX4_wantedOf 24 = .ok (.aload_n 0, 1) := by decide +kernel
theorem dX4_wantedOf_25 : decode cX4_wantedOf 25 = .ok (.getfield 47, 3) := by decide +kernel
theorem dX4_wantedOf_28 : decode cX4_wantedOf 28 = .ok (.iload_n 1, 1) := by decide +kernel
theorem dX4_wantedOf_29 : decode cX4_wantedOf 29 = .ok (.iaload, 1) := by decide +kernel
theorem dX4_wantedOf_30 : decode cX4_wantedOf 30 = .ok (.ireturn, 1) := by decide +kernel
theorem dX4_wantedOf_31 : decode cX4_wantedOf 31 = .ok (.aload_n 0, 1) := by decide +kernel
theorem dX4_wantedOf_32 : decode cX4_wantedOf 32 = .ok (.getfield 47, 3) := by decide +kernel
theorem dX4_wantedOf_35 : decode cX4_wantedOf 35 = .ok (.iload_n 1, 1) := by decide +kernel
theorem dX4_wantedOf_36 : decode cX4_wantedOf 36 = .ok (.iaload, 1) := by decide +kernel
theorem dX4_wantedOf_37 : decode cX4_wantedOf 37 = .ok (.aload_n 0, 1) := by decide +kernel
theorem dX4_wantedOf_38 : decode cX4_wantedOf 38 = .ok (.getfield 44, 3) := by decide +kernel
theorem dX4_wantedOf_41 : decode cX4_wantedOf 41 = .ok (.iload_n 1, 1) := by decide +kernel
theorem dX4_wantedOf_42 : decode cX4_wantedOf 42 = .ok (.iaload, 1) := by decide +kernel
theorem dX4_wantedOf_43 : decode cX4_wantedOf 43 = .ok (.isub, 1) := by decide +kernel
theorem dX4_wantedOf_44 : decode cX4_wantedOf 44 = .ok (.istore 4, 2) := by decide +kernel
theorem dX4_wantedOf_46 : decode cX4_wantedOf 46 = .ok (.aload_n 0, 1) := by decide +kernel
theorem dX4_wantedOf_47 : decode cX4_wantedOf 47 = .ok (.getfield 56, 3) := by decide +kernel
theorem dX4_wantedOf_50 : decode cX4_wantedOf 50 = .ok (.iload_n 1, 1) := by decide +kernel
theorem dX4_wantedOf_51 : decode cX4_wantedOf 51 = .ok (.iaload, 1) := by decide +kernel
theorem dX4_wantedOf_52 : decode cX4_wantedOf 52 = .ok (.ifCond .ne 19, 3) := by decide +kernel
theorem dX4_wantedOf_55 : decode cX4_wantedOf 55 = .ok (.aload_n 0, 1) := by decide +kernel
theorem dX4_wantedOf_56 : decode cX4_wantedOf 56 = .ok (.getfield 44, 3) := by decide +kernel
theorem dX4_wantedOf_59 : decode cX4_wantedOf 59 = .ok (.iload_n 1, 1) := by decide +kernel
theorem dX4_wantedOf_60 : decode cX4_wantedOf 60 = .ok (.iaload, 1) := by decide +kernel
theorem dX4_wantedOf_61 : decode cX4_wantedOf 61 = .ok (.iload 4, 2) := by decide +kernel
theorem dX4_wantedOf_63 : decode cX4_wantedOf 63 = .ok (.iload_n 2, 1) := by decide +kernel
theorem dX4_wantedOf_64 : decode cX4_wantedOf 64 = .ok (.imul, 1) := by decide +kernel
theorem dX4_wantedOf_65 : decode cX4_wantedOf 65 = .ok (.iload_n 3, 1) := by decide +kernel
theorem dX4_wantedOf_66 : decode cX4_wantedOf 66 = .ok (.invokestatic 142, 3) := by decide +kernel
theorem dX4_wantedOf_69 : decode cX4_wantedOf 69 = .ok (.iadd, 1) := by decide +kernel
theorem dX4_wantedOf_70 : decode cX4_wantedOf 70 = .ok (.ireturn, 1) := by decide +kernel
theorem dX4_wantedOf_71 : decode cX4_wantedOf 71 = .ok (.aload_n 0, 1) := by decide +kernel
theorem dX4_wantedOf_72 : decode cX4_wantedOf 72 = .ok (.getfield 56, 3) := by decide +kernel
theorem dX4_wantedOf_75 : decode cX4_wantedOf 75 = .ok (.iload_n 1, 1) := by decide +kernel
theorem dX4_wantedOf_76 : decode cX4_wantedOf 76 = .ok (.iaload, 1) := by decide +kernel
theorem dX4_wantedOf_77 : decode cX4_wantedOf 77 = .ok (.iconst 1, 1) := by decide +kernel
theorem dX4_wantedOf_78 : decode cX4_wantedOf 78 = .ok (.if_icmp .ne 25, 3) := by decide +kernel
theorem dX4_wantedOf_81 : decode cX4_wantedOf 81 = .ok (.aload_n 0, 1) := by decide +kernel
theorem dX4_wantedOf_82 : decode cX4_wantedOf 82 = .ok (.getfield 44, 3) := by decide +kernel
theorem dX4_wantedOf_85 : decode cX4_wantedOf 85 = .ok (.iload_n 1, 1) := by decide +kernel
theorem dX4_wantedOf_86 : decode cX4_wantedOf 86 = .ok (.iaload, 1) := by decide +kernel
theorem dX4_wantedOf_87 : decode cX4_wantedOf 87 = .ok (.iload 4, 2) := by decide +kernel
theorem dX4_wantedOf_89 : decode cX4_wantedOf 89 = .ok (.iload_n 2, 1) := by decide +kernel
theorem dX4_wantedOf_90 : decode cX4_wantedOf 90 = .ok (.imul, 1) := by decide +kernel
theorem dX4_wantedOf_91 : decode cX4_wantedOf 91 = .ok (.iload_n 2, 1) := by decide +kernel
theorem dX4_wantedOf_92 : decode cX4_wantedOf 92 = .ok (.imul, 1) := by decide +kernel
theorem dX4_wantedOf_93 : decode cX4_wantedOf 93 = .ok (.iload_n 3, 1) := by decide +kernel
theorem dX4_wantedOf_94 : decode cX4_wantedOf 94 = .ok (.iload_n 3, 1) := by decide +kernel
theorem dX4_wantedOf_95 : decode cX4_wantedOf 95 = .ok (.imul, 1) := by decide +kernel
theorem dX4_wantedOf_96 : decode cX4_wantedOf 96 = .ok (.invokestatic 142, 3) := by decide +kernel
theorem dX4_wantedOf_99 : decode cX4_wantedOf 99 = .ok (.iadd, 1) := by decide +kernel
theorem dX4_wantedOf_100 : decode cX4_wantedOf 100 = .ok (.goto 9, 3) := by decide +kernel
theorem dX4_wantedOf_103 : decode cX4_wantedOf 103 = .ok (.aload_n 0, 1) := by decide +kernel
theorem dX4_wantedOf_104 : decode cX4_wantedOf 104 = .ok (.getfield 44, 3) := by decide +kernel
theorem dX4_wantedOf_107 : decode cX4_wantedOf 107 = .ok (.iload_n 1, 1) := by decide +kernel
theorem dX4_wantedOf_108 : decode cX4_wantedOf 108 = .ok (.iaload, 1) := by decide +kernel
theorem dX4_wantedOf_109 : decode cX4_wantedOf 109 = .ok (.ireturn, 1) := by decide +kernel
set_option maxRecDepth 20000 in
theorem ggX4_begin_X4_wantedOf : GoodIn wsX4_begin wsX4_wantedOf := goodIn_r _ [19, 8, 7, 9, 6, 5, 11, 20, 21, 18, 22, 23, 24, 25, 26, 27, 28, 29, 30, 31, 32, 33, 34, 35, 36, 37, 38, 39, 40, 41, 42, 43, 44, 45, 46, 47, 48, 49, 50] (by decide +kernel) (by decide +kernel)
set_option maxRecDepth 20000 in
theorem gX4_begin_X4_wantedOf : GoodIn wsX4_begin (wsV RX4 148 RX4 yX4_wantedOf wsX4_wantedOf) := goodIn_app (goodIn_of _ (by decide +kernel)) ggX4_begin_X4_wantedOf
theorem dX4_begin_0 : decode cX4_begin 0 = .ok (.iconst 0, 1) := by decide +kernel
theorem dX4_begin_1 : decode cX4_begin 1 = .ok (.istore_n 1, 1) := by decide +kernel
theorem dX4_begin_2 : decode cX4_begin 2 = .ok (.aload_n 0, 1) := by decide +kernel
theorem dX4_begin_3 : decode cX4_begin 3 = .ok (.getfield 145, 3) := by decide +kernel
theorem dX4_begin_6 : decode cX4_begin 6 = .ok (.aload_n 0, 1) := by decide +kernel
theorem dX4_begin_7 : decode cX4_begin 7 = .ok (.getfield 88, 3) := by decide +kernel
theorem dX4_begin_10 : decode cX4_begin 10 = .ok (.if_icmp .ge 7, 3) := by decide +kernel
theorem dX4_begin_13 : decode cX4_begin 13 = .ok (.iconst 1, 1) := by decide +kernel
theorem dX4_begin_14 : decode cX4_begin 14 = .ok (.goto 4, 3) := by decide +kernel
theorem dX4_begin_17 : decode cX4_begin 17 = .ok (.iconst 0, 1) := by decide +kernel
theorem dX4_begin_18 : decode cX4_begin 18 = .ok (.istore_n 2, 1) := by decide +kernel
theorem dX4_begin_19 : decode cX4_begin 19 = .ok (.iload_n 2, 1) := by decide +kernel
theorem dX4_begin_20 : decode cX4_begin 20 = .ok (.ifCond .eq 161, 3) := by decide +kernel
theorem dX4_begin_23 : decode cX4_begin 23 = .ok (.aload_n 0, 1) := by decide +kernel
theorem dX4_begin_24 : decode cX4_begin 24 = .ok (.getfield 145, 3) := by decide +kernel
theorem dX4_begin_27 : decode cX4_begin 27 = .ok (.istore_n 3, 1) := by decide +kernel
theorem dX4_begin_28 : decode cX4_begin 28 = .ok (.iconst 0, 1) := by decide +kernel
theorem dX4_begin_29 : decode cX4_begin 29 = .ok (.istore 4, 2) := by decide +kernel
theorem dX4_begin_31 : decode cX4_begin 31 = .ok (.iload 4, 2) := by decide +kernel
theorem dX4_begin_33 : decode cX4_begin 33 = .ok (.aload_n 0, 1) := by decide +kernel
theorem dX4_begin_34 : decode cX4_begin 34 = .ok (.getfield 78, 3) := by decide +kernel
theorem dX4_begin_37 : decode cX4_begin 37 = .ok (.if_icmp .ge 94, 3) := by decide +kernel
theorem dX4_begin_40 : decode cX4_begin 40 = .ok (.aload_n 0, 1) := by decide +kernel
theorem dX4_begin_41 : decode cX4_begin 41 = .ok (.getfield 68, 3) := by decide +kernel
theorem dX4_begin_44 : decode cX4_begin 44 = .ok (.bipush 10, 2) := by decide +kernel
theorem dX4_begin_46 : decode cX4_begin 46 = .ok (.iload_n 3, 1) := by decide +kernel
theorem dX4_begin_47 : decode cX4_begin 47 = .ok (.imul, 1) := by decide +kernel
theorem dX4_begin_48 : decode cX4_begin 48 = .ok (.iload 4, 2) := by decide +kernel
theorem dX4_begin_50 : decode cX4_begin 50 = .ok (.iadd, 1) := by decide +kernel
theorem dX4_begin_51 : decode cX4_begin 51 = .ok (.iaload, 1) := by decide +kernel
theorem dX4_begin_52 : decode cX4_begin 52 = .ok (.iconst (-1), 1) := by decide +kernel
theorem dX4_begin_53 : decode cX4_begin 53 = .ok (.if_icmp .eq 72, 3) := by decide +kernel
theorem dX4_begin_56 : decode cX4_begin 56 = .ok (.aload_n 0, 1) := by decide +kernel
theorem dX4_begin_57 : decode cX4_begin 57 = .ok (.getfield 44, 3) := by decide +kernel
theorem dX4_begin_60 : decode cX4_begin 60 = .ok (.iload 4, 2) := by decide +kernel
theorem dX4_begin_62 : decode cX4_begin 62 = .ok (.aload_n 0, 1) := by decide +kernel
theorem dX4_begin_63 : decode cX4_begin 63 = .ok (.iload 4, 2) := by decide +kernel
theorem dX4_begin_65 : decode cX4_begin 65 = .ok (.invokevirtual 148, 3) := by decide +kernel
theorem dX4_begin_68 : decode cX4_begin 68 = .ok (.iastore, 1) := by decide +kernel
theorem dX4_begin_69 : decode cX4_begin 69 = .ok (.aload_n 0, 1) := by decide +kernel
theorem dX4_begin_70 : decode cX4_begin 70 = .ok (.getfield 47, 3) := by decide +kernel
theorem dX4_begin_73 : decode cX4_begin 73 = .ok (.iload 4, 2) := by decide +kernel
theorem dX4_begin_75 : decode cX4_begin 75 = .ok (.aload_n 0, 1) := by decide +kernel
theorem dX4_begin_76 : decode cX4_begin 76 = .ok (.getfield 68, 3) := by decide +kernel
theorem dX4_begin_79 : decode cX4_begin 79 = .ok (.bipush 10, 2) := by decide +kernel
theorem dX4_begin_81 : decode cX4_begin 81 = .ok (.iload_n 3, 1) := by decide +kernel
theorem dX4_begin_82 : decode cX4_begin 82 = .ok (.imul, 1) := by decide +kernel
theorem dX4_begin_83 : decode cX4_begin 83 = .ok (.iload 4, 2) := by decide +kernel
theorem dX4_begin_85 : decode cX4_begin 85 = .ok (.iadd, 1) := by decide +kernel
theorem dX4_begin_86 : decode cX4_begin 86 = .ok (.iaload, 1) := by decide +kernel
theorem dX4_begin_87 : decode cX4_begin 87 = .ok (.iastore, 1) := by decide +kernel
theorem dX4_begin_88 : decode cX4_begin 88 = .ok (.aload_n 0, 1) := by decide +kernel
theorem dX4_begin_89 : decode cX4_begin 89 = .ok (.getfield 50, 3) := by decide +kernel
theorem dX4_begin_92 : decode cX4_begin 92 = .ok (.iload 4, 2) := by decide +kernel
theorem dX4_begin_94 : decode cX4_begin 94 = .ok (.aload_n 0, 1) := by decide +kernel
theorem dX4_begin_95 : decode cX4_begin 95 = .ok (.getfield 139, 3) := by decide +kernel
theorem dX4_begin_98 : decode cX4_begin 98 = .ok (.iastore, 1) := by decide +kernel
theorem dX4_begin_99 : decode cX4_begin 99 = .ok (.aload_n 0, 1) := by decide +kernel
theorem dX4_begin_100 : decode cX4_begin 100 = .ok (.getfield 53, 3) := by decide +kernel
theorem dX4_begin_103 : decode cX4_begin 103 = .ok (.iload 4, 2) := by decide +kernel
theorem dX4_begin_105 : decode cX4_begin 105 = .ok (.aload_n 0, 1) := by decide +kernel
theorem dX4_begin_106 : decode cX4_begin 106 = .ok (.getfield 59, 3) := by decide +kernel
theorem dX4_begin_109 : decode cX4_begin 109 = .ok (.iload_n 3, 1) := by decide +kernel
theorem dX4_begin_110 : decode cX4_begin 110 = .ok (.iaload, 1) := by decide +kernel
theorem dX4_begin_111 : decode cX4_begin 111 = .ok (.iastore, 1) := by decide +kernel
theorem dX4_begin_112 : decode cX4_begin 112 = .ok (.aload_n 0, 1) := by decide +kernel
theorem dX4_begin_113 : decode cX4_begin 113 = .ok (.getfield 56, 3) := by decide +kernel
theorem dX4_begin_116 : decode cX4_begin 116 = .ok (.iload 4, 2) := by decide +kernel
theorem dX4_begin_118 : decode cX4_begin 118 = .ok (.aload_n 0, 1) := by decide +kernel
theorem dX4_begin_119 : decode cX4_begin 119 = .ok (.getfield 62, 3) := by decide +kernel
theorem dX4_begin_122 : decode cX4_begin 122 = .ok (.iload_n 3, 1) := by decide +kernel
theorem dX4_begin_123 : decode cX4_begin 123 = .ok (.iaload, 1) := by decide +kernel
theorem dX4_begin_124 : decode cX4_begin 124 = .ok (.iastore, 1) := by decide +kernel
theorem dX4_begin_125 : decode cX4_begin 125 = .ok (.iinc 4 1, 3) := by decide +kernel
theorem dX4_begin_128 : decode cX4_begin 128 = .ok (.goto (-97), 3) := by decide +kernel
theorem dX4_begin_131 : decode cX4_begin 131 = .ok (.aload_n 0, 1) := by decide +kernel
theorem dX4_begin_132 : decode cX4_begin 132 = .ok (.dup, 1) := by decide +kernel
theorem dX4_begin_133 : decode cX4_begin 133 = .ok (.getfield 145, 3) := by decide +kernel
theorem dX4_begin_136 : decode cX4_begin 136 = .ok (.iconst 1, 1) := by decide +kernel
theorem dX4_begin_137 : decode cX4_begin 137 = .ok (.iadd, 1) := by decide +kernel
theorem dX4_begin_138 : decode cX4_begin 138 = .ok (.putfield 145, 3) := by decide +kernel
theorem dX4_begin_141 : decode cX4_begin 141 = .ok (.aload_n 0, 1) := by decide +kernel
theorem dX4_begin_142 : decode cX4_begin 142 = .ok (.aload_n 0, 1) := by decide +kernel
theorem dX4_begin_143 : decode cX4_begin 143 = .ok (.getfield 139, 3) := by decide +kernel
theorem dX4_begin_146 : decode cX4_begin 146 = .ok (.putfield 151, 3) := by decide +kernel
theorem dX4_begin_149 : decode cX4_begin 149 = .ok (.iinc 1 1, 3) := by decide +kernel
theorem dX4_begin_152 : decode cX4_begin 152 = .ok (.aload_n 0, 1) := by decide +kernel
theorem dX4_begin_153 : decode cX4_begin 153 = .ok (.getfield 65, 3) := by decide +kernel
theorem dX4_begin_156 : decode cX4_begin 156 = .ok (.iload_n 3, 1) := by decide +kernel
theorem dX4_begin_157 : decode cX4_begin 157 = .ok (.iaload, 1) := by decide +kernel
theorem dX4_begin_158 : decode cX4_begin 158 = .ok (.ifCond .ne 18, 3) := by decide +kernel
theorem dX4_begin_161 : decode cX4_begin 161 = .ok (.aload_n 0, 1) := by decide +kernel
theorem dX4_begin_162 : decode cX4_begin 162 = .ok (.getfield 145, 3) := by decide +kernel
theorem dX4_begin_165 : decode cX4_begin 165 = .ok (.aload_n 0, 1) := by decide +kernel
theorem dX4_begin_166 : decode cX4_begin 166 = .ok (.getfield 88, 3) := by decide +kernel
theorem dX4_begin_169 : decode cX4_begin 169 = .ok (.if_icmp .ge 7, 3) := by decide +kernel
theorem dX4_begin_172 : decode cX4_begin 172 = .ok (.iconst 1, 1) := by decide +kernel
theorem dX4_begin_173 : decode cX4_begin 173 = .ok (.goto 4, 3) := by decide +kernel
theorem dX4_begin_176 : decode cX4_begin 176 = .ok (.iconst 0, 1) := by decide +kernel
theorem dX4_begin_177 : decode cX4_begin 177 = .ok (.istore_n 2, 1) := by decide +kernel
theorem dX4_begin_178 : decode cX4_begin 178 = .ok (.goto (-159), 3) := by decide +kernel
theorem dX4_begin_181 : decode cX4_begin 181 = .ok (.iload_n 1, 1) := by decide +kernel
theorem dX4_begin_182 : decode cX4_begin 182 = .ok (.ireturn, 1) := by decide +kernel
set_option maxRecDepth 20000 in
theorem ggX4_go_X4_may : GoodIn wsX4_go wsX4_may := goodIn_r _ [7, 8, 32, 33, 34, 35, 36, 37, 38, 39, 40, 41, 42, 43, 44, 45, 46, 47, 48, 49, 50, 51, 52, 53, 54, 55, 56, 57, 58, 59] (by decide +kernel) (by decide +kernel)
set_option maxRecDepth 20000 in
theorem gX4_go_X4_may : GoodIn wsX4_go (wsV RX4 117 RX4 yX4_may wsX4_may) := goodIn_app (goodIn_of _ (by decide +kernel)) ggX4_go_X4_may
set_option maxRecDepth 20000 in
theorem ggX4_go_X4_begin : GoodIn wsX4_go wsX4_begin := goodIn_r _ [12, 1, 2, 13, 14, 15, 16, 17, 18, 19, 20, 21, 22, 23, 24, 25, 26, 27, 6, 28, 29, 30, 31, 32, 33, 34, 35, 36, 37, 38, 39, 40, 41, 42, 43, 44, 45, 46, 47, 48, 49, 50, 51, 52, 53, 54, 55, 56, 57, 58, 59] (by decide +kernel) (by decide +kernel)
set_option maxRecDepth 20000 in
theorem gX4_go_X4_begin : GoodIn wsX4_go (wsV RX4 154 RX4 yX4_begin wsX4_begin) := goodIn_app (goodIn_of _ (by decide +kernel)) ggX4_go_X4_begin
theorem dX4_go_0 : decode cX4_go 0 = .ok (.aload_n 0, 1) := by decide +kernel
theorem dX4_go_1 : decode cX4_go 1 = .ok (.aload_n 0, 1) := by decide +kernel
theorem dX4_go_2 : decode cX4_go 2 = .ok (.getfield 145, 3) := by decide +kernel
theorem dX4_go_5 : decode cX4_go 5 = .ok (.aload_n 0, 1) := by decide +kernel
theorem dX4_go_6 : decode cX4_go 6 = .ok (.getfield 88, 3) := by decide +kernel
theorem dX4_go_9 : decode cX4_go 9 = .ok (.if_icmp .ge 7, 3) := by decide +kernel
theorem dX4_go_12 : decode cX4_go 12 = .ok (.iconst 1, 1) := by decide +kernel
theorem dX4_go_13 : decode cX4_go 13 = .ok (.goto 4, 3) := by decide +kernel
theorem dX4_go_16 : decode cX4_go 16 = .ok (.iconst 0, 1) := by decide +kernel
theorem dX4_go_17 : decode cX4_go 17 = .ok (.invokevirtual 117, 3) := by decide +kernel
theorem dX4_go_20 : decode cX4_go 20 = .ok (.ifCond .ne 5, 3) := by decide +kernel
theorem dX4_go_23 : decode cX4_go 23 = .ok (.iconst 0, 1) := by decide +kernel
theorem dX4_go_24 : decode cX4_go 24 = .ok (.ireturn, 1) := by decide +kernel
theorem dX4_go_25 : decode cX4_go 25 = .ok (.aload_n 0, 1) := by decide +kernel
theorem dX4_go_26 : decode cX4_go 26 = .ok (.invokevirtual 154, 3) := by decide +kernel
theorem dX4_go_29 : decode cX4_go 29 = .ok (.pop, 1) := by decide +kernel
theorem dX4_go_30 : decode cX4_go 30 = .ok (.aload_n 0, 1) := by decide +kernel
theorem dX4_go_31 : decode cX4_go 31 = .ok (.getfield 145, 3) := by decide +kernel
theorem dX4_go_34 : decode cX4_go 34 = .ok (.iconst 1, 1) := by decide +kernel
theorem dX4_go_35 : decode cX4_go 35 = .ok (.isub, 1) := by decide +kernel
theorem dX4_go_36 : decode cX4_go 36 = .ok (.ireturn, 1) := by decide +kernel
set_option maxRecDepth 20000 in
theorem ggX4_tick_X4_isIn : GoodIn wsX4_tick wsX4_isIn := goodIn_r _ [10] (by decide +kernel) (by decide +kernel)
set_option maxRecDepth 20000 in
theorem gX4_tick_X4_isIn : GoodIn wsX4_tick (va_wsS RX4 81 yX4_isIn wsX4_isIn) := goodIn_app (goodIn_of _ (by decide +kernel)) ggX4_tick_X4_isIn
set_option maxRecDepth 20000 in
theorem ggX4_tick_X4_may : GoodIn wsX4_tick wsX4_may := goodIn_r _ [14, 15, 42, 43, 44, 45, 46, 47, 48, 49, 50, 51, 52, 53, 54, 55, 56, 57, 58, 59, 60, 61, 62, 63, 64, 65, 66, 67, 68, 69] (by decide +kernel) (by decide +kernel)
set_option maxRecDepth 20000 in
theorem gX4_tick_X4_may : GoodIn wsX4_tick (wsV RX4 117 RX4 yX4_may wsX4_may) := goodIn_app (goodIn_of _ (by decide +kernel)) ggX4_tick_X4_may
set_option maxRecDepth 20000 in
theorem ggX4_tick_X4_begin : GoodIn wsX4_tick wsX4_begin := goodIn_r _ [19, 2, 20, 5, 21, 22, 23, 24, 1, 25, 26, 27, 28, 4, 3, 29, 30, 31, 9, 32, 33, 34, 35, 42, 43, 44, 45, 46, 47, 48, 49, 50, 51, 52, 53, 54, 55, 56, 57, 58, 59, 60, 61, 62, 63, 64, 65, 66, 67, 68, 69] (by decide +kernel) (by decide +kernel)
set_option maxRecDepth 20000 in
theorem gX4_tick_X4_begin : GoodIn wsX4_tick (wsV RX4 154 RX4 yX4_begin wsX4_begin) := goodIn_app (goodIn_of _ (by decide +kernel)) ggX4_tick_X4_begin
set_option maxRecDepth 20000 in
theorem ggX4_tick_X4_levelOf : GoodIn wsX4_tick wsX4_levelOf := goodIn_r _ [39, 40, 41, 29, 30, 31, 9, 32, 1, 24, 25, 23, 22, 27, 33, 34, 35, 42, 43, 44, 45, 46, 47, 48, 49, 50, 51, 52, 53, 54, 55, 56, 57, 58, 59, 60, 61, 62, 63, 64, 65, 66, 67, 68, 69] (by decide +kernel) (by decide +kernel)
set_option maxRecDepth 20000 in
theorem gX4_tick_X4_levelOf : GoodIn wsX4_tick (wsV RX4 133 RX4 yX4_levelOf wsX4_levelOf) := goodIn_app (goodIn_of _ (by decide +kernel)) ggX4_tick_X4_levelOf
theorem dX4_tick_0 : decode cX4_tick 0 = .ok (.aload_n 0, 1) := by decide +kernel
theorem dX4_tick_1 : decode cX4_tick 1 = .ok (.iload_n 1, 1) := by decide +kernel
theorem dX4_tick_2 : decode cX4_tick 2 = .ok (.iconst 1, 1) := by decide +kernel
theorem dX4_tick_3 : decode cX4_tick 3 = .ok (.bipush 50, 2) := by decide +kernel
theorem dX4_tick_5 : decode cX4_tick 5 = .ok (.invokestatic 81, 3) := by decide +kernel
theorem dX4_tick_8 : decode cX4_tick 8 = .ok (.invokevirtual 117, 3) := by decide +kernel
theorem dX4_tick_11 : decode cX4_tick 11 = .ok (.ifCond .ne 5, 3) := by decide +kernel
theorem dX4_tick_14 : decode cX4_tick 14 = .ok (.iconst 0, 1) := by decide +kernel
theorem dX4_tick_15 : decode cX4_tick 15 = .ok (.ireturn, 1) := by decide +kernel
theorem dX4_tick_16 : decode cX4_tick 16 = .ok (.iconst 0, 1) := by decide +kernel
theorem dX4_tick_17 : decode cX4_tick 17 = .ok (.istore_n 2, 1) := by decide +kernel
theorem dX4_tick_18 : decode cX4_tick 18 = .ok (.iconst 0, 1) := by decide +kernel
theorem dX4_tick_19 : decode cX4_tick 19 = .ok (.istore_n 3, 1) := by decide +kernel
theorem dX4_tick_20 : decode cX4_tick 20 = .ok (.iload_n 3, 1) := by decide +kernel
theorem dX4_tick_21 : decode cX4_tick 21 = .ok (.iload_n 1, 1) := by decide +kernel
theorem dX4_tick_22 : decode cX4_tick 22 = .ok (.if_icmp .ge 114, 3) := by decide +kernel
theorem dX4_tick_25 : decode cX4_tick 25 = .ok (.aload_n 0, 1) := by decide +kernel
theorem dX4_tick_26 : decode cX4_tick 26 = .ok (.dup, 1) := by decide +kernel
theorem dX4_tick_27 : decode cX4_tick 27 = .ok (.getfield 139, 3) := by decide +kernel
theorem dX4_tick_30 : decode cX4_tick 30 = .ok (.iconst 1, 1) := by decide +kernel
theorem dX4_tick_31 : decode cX4_tick 31 = .ok (.iadd, 1) := by decide +kernel
theorem dX4_tick_32 : decode cX4_tick 32 = .ok (.putfield 139, 3) := by decide +kernel
theorem dX4_tick_35 : decode cX4_tick 35 = .ok (.aload_n 0, 1) := by decide +kernel
theorem dX4_tick_36 : decode cX4_tick 36 = .ok (.getfield 145, 3) := by decide +kernel
theorem dX4_tick_39 : decode cX4_tick 39 = .ok (.ifCond .le 47, 3) := by decide +kernel
theorem dX4_tick_42 : decode cX4_tick 42 = .ok (.aload_n 0, 1) := by decide +kernel
theorem dX4_tick_43 : decode cX4_tick 43 = .ok (.getfield 65, 3) := by decide +kernel
theorem dX4_tick_46 : decode cX4_tick 46 = .ok (.aload_n 0, 1) := by decide +kernel
theorem dX4_tick_47 : decode cX4_tick 47 = .ok (.getfield 145, 3) := by decide +kernel
theorem dX4_tick_50 : decode cX4_tick 50 = .ok (.iconst 1, 1) := by decide +kernel
theorem dX4_tick_51 : decode cX4_tick 51 = .ok (.isub, 1) := by decide +kernel
theorem dX4_tick_52 : decode cX4_tick 52 = .ok (.iaload, 1) := by decide +kernel
theorem dX4_tick_53 : decode cX4_tick 53 = .ok (.ifCond .le 33, 3) := by decide +kernel
theorem dX4_tick_56 : decode cX4_tick 56 = .ok (.aload_n 0, 1) := by decide +kernel
theorem dX4_tick_57 : decode cX4_tick 57 = .ok (.getfield 139, 3) := by decide +kernel
theorem dX4_tick_60 : decode cX4_tick 60 = .ok (.aload_n 0, 1) := by decide +kernel
theorem dX4_tick_61 : decode cX4_tick 61 = .ok (.getfield 151, 3) := by decide +kernel
theorem dX4_tick_64 : decode cX4_tick 64 = .ok (.isub, 1) := by decide +kernel
theorem dX4_tick_65 : decode cX4_tick 65 = .ok (.aload_n 0, 1) := by decide +kernel
theorem dX4_tick_66 : decode cX4_tick 66 = .ok (.getfield 65, 3) := by decide +kernel
theorem dX4_tick_69 : decode cX4_tick 69 = .ok (.aload_n 0, 1) := by decide +kernel
theorem dX4_tick_70 : decode cX4_tick 70 = .ok (.getfield 145, 3) := by decide +kernel
theorem dX4_tick_73 : decode cX4_tick 73 = .ok (.iconst 1, 1) := by decide +kernel
theorem dX4_tick_74 : decode cX4_tick 74 = .ok (.isub, 1) := by decide +kernel
theorem dX4_tick_75 : decode cX4_tick 75 = .ok (.iaload, 1) := by decide +kernel
theorem dX4_tick_76 : decode cX4_tick 76 = .ok (.if_icmp .ne 10, 3) := by decide +kernel
theorem dX4_tick_79 : decode cX4_tick 79 = .ok (.iload_n 2, 1) := by decide +kernel
theorem dX4_tick_80 : decode cX4_tick 80 = .ok (.aload_n 0, 1) := by decide +kernel
theorem dX4_tick_81 : decode cX4_tick 81 = .ok (.invokevirtual 154, 3) := by decide +kernel
theorem dX4_tick_84 : decode cX4_tick 84 = .ok (.iadd, 1) := by decide +kernel
theorem dX4_tick_85 : decode cX4_tick 85 = .ok (.istore_n 2, 1) := by decide +kernel
theorem dX4_tick_86 : decode cX4_tick 86 = .ok (.iconst 0, 1) := by decide +kernel
theorem dX4_tick_87 : decode cX4_tick 87 = .ok (.istore 4, 2) := by decide +kernel
theorem dX4_tick_89 : decode cX4_tick 89 = .ok (.iload 4, 2) := by decide +kernel
theorem dX4_tick_91 : decode cX4_tick 91 = .ok (.aload_n 0, 1) := by decide +kernel
theorem dX4_tick_92 : decode cX4_tick 92 = .ok (.getfield 78, 3) := by decide +kernel
theorem dX4_tick_95 : decode cX4_tick 95 = .ok (.if_icmp .ge 35, 3) := by decide +kernel
theorem dX4_tick_98 : decode cX4_tick 98 = .ok (.aload_n 0, 1) := by decide +kernel
theorem dX4_tick_99 : decode cX4_tick 99 = .ok (.getfield 41, 3) := by decide +kernel
theorem dX4_tick_102 : decode cX4_tick 102 = .ok (.iload 4, 2) := by decide +kernel
theorem dX4_tick_104 : decode cX4_tick 104 = .ok (.dup2, 1) := by decide +kernel
theorem dX4_tick_105 : decode cX4_tick 105 = .ok (.iaload, 1) := by decide +kernel
theorem dX4_tick_106 : decode cX4_tick 106 = .ok (.aload_n 0, 1) := by decide +kernel
theorem dX4_tick_107 : decode cX4_tick 107 = .ok (.iload 4, 2) := by decide +kernel
theorem dX4_tick_109 : decode cX4_tick 109 = .ok (.invokevirtual 133, 3) := by decide +kernel
theorem dX4_tick_112 : decode cX4_tick 112 = .ok (.bipush 80, 2) := by decide +kernel
theorem dX4_tick_114 : decode cX4_tick 114 = .ok (.if_icmp .le 7, 3) := by decide +kernel
theorem dX4_tick_117 : decode cX4_tick 117 = .ok (.iconst 1, 1) := by decide +kernel
theorem dX4_tick_118 : decode cX4_tick 118 = .ok (.goto 4, 3) := by decide +kernel
theorem dX4_tick_121 : decode cX4_tick 121 = .ok (.iconst 0, 1) := by decide +kernel
theorem dX4_tick_122 : decode cX4_tick 122 = .ok (.iadd, 1) := by decide +kernel
theorem dX4_tick_123 : decode cX4_tick 123 = .ok (.iastore, 1) := by decide +kernel
theorem dX4_tick_124 : decode cX4_tick 124 = .ok (.iinc 4 1, 3) := by decide +kernel
theorem dX4_tick_127 : decode cX4_tick 127 = .ok (.goto (-38), 3) := by decide +kernel
theorem dX4_tick_130 : decode cX4_tick 130 = .ok (.iinc 3 1, 3) := by decide +kernel
theorem dX4_tick_133 : decode cX4_tick 133 = .ok (.goto (-113), 3) := by decide +kernel
theorem dX4_tick_136 : decode cX4_tick 136 = .ok (.iload_n 2, 1) := by decide +kernel
theorem dX4_tick_137 : decode cX4_tick 137 = .ok (.ireturn, 1) := by decide +kernel
theorem dX4_rewind_0 : decode cX4_rewind 0 = .ok (.aload_n 0, 1) := by decide +kernel
theorem dX4_rewind_1 : decode cX4_rewind 1 = .ok (.iconst 0, 1) := by decide +kernel
theorem dX4_rewind_2 : decode cX4_rewind 2 = .ok (.putfield 74, 3) := by decide +kernel
theorem dX4_rewind_5 : decode cX4_rewind 5 = .ok (.aload_n 0, 1) := by decide +kernel
theorem dX4_rewind_6 : decode cX4_rewind 6 = .ok (.getfield 145, 3) := by decide +kernel
theorem dX4_rewind_9 : decode cX4_rewind 9 = .ok (.istore_n 1, 1) := by decide +kernel
theorem dX4_rewind_10 : decode cX4_rewind 10 = .ok (.aload_n 0, 1) := by decide +kernel
theorem dX4_rewind_11 : decode cX4_rewind 11 = .ok (.iconst 0, 1) := by decide +kernel
theorem dX4_rewind_12 : decode cX4_rewind 12 = .ok (.putfield 145, 3) := by decide +kernel
theorem dX4_rewind_15 : decode cX4_rewind 15 = .ok (.iconst 0, 1) := by decide +kernel
theorem dX4_rewind_16 : decode cX4_rewind 16 = .ok (.istore_n 2, 1) := by decide +kernel
theorem dX4_rewind_17 : decode cX4_rewind 17 = .ok (.iload_n 2, 1) := by decide +kernel
theorem dX4_rewind_18 : decode cX4_rewind 18 = .ok (.aload_n 0, 1) := by decide +kernel
theorem dX4_rewind_19 : decode cX4_rewind 19 = .ok (.getfield 78, 3) := by decide +kernel
theorem dX4_rewind_22 : decode cX4_rewind 22 = .ok (.if_icmp .ge 30, 3) := by decide +kernel
theorem dX4_rewind_25 : decode cX4_rewind 25 = .ok (.aload_n 0, 1) := by decide +kernel
theorem dX4_rewind_26 : decode cX4_rewind 26 = .ok (.getfield 44, 3) := by decide +kernel
theorem dX4_rewind_29 : decode cX4_rewind 29 = .ok (.iload_n 2, 1) := by decide +kernel
theorem dX4_rewind_30 : decode cX4_rewind 30 = .ok (.iconst 0, 1) := by decide +kernel
theorem dX4_rewind_31 : decode cX4_rewind 31 = .ok (.iastore, 1) := by decide +kernel
theorem dX4_rewind_32 : decode cX4_rewind 32 = .ok (.aload_n 0, 1) := by decide +kernel
theorem dX4_rewind_33 : decode cX4_rewind 33 = .ok (.getfield 47, 3) := by decide +kernel
theorem dX4_rewind_36 : decode cX4_rewind 36 = .ok (.iload_n 2, 1) := by decide +kernel
theorem dX4_rewind_37 : decode cX4_rewind 37 = .ok (.iconst 0, 1) := by decide +kernel
theorem dX4_rewind_38 : decode cX4_rewind 38 = .ok (.iastore, 1) := by decide +kernel
theorem dX4_rewind_39 : decode cX4_rewind 39 = .ok (.aload_n 0, 1) := by decide +kernel
theorem dX4_rewind_40 : decode cX4_rewind 40 = .ok (.getfield 53, 3) := by decide +kernel
theorem dX4_rewind_43 : decode cX4_rewind 43 = .ok (.iload_n 2, 1) := by decide +kernel
theorem dX4_rewind_44 : decode cX4_rewind 44 = .ok (.iconst 0, 1) := by decide +kernel
theorem dX4_rewind_45 : decode cX4_rewind 45 = .ok (.iastore, 1) := by decide +kernel
theorem dX4_rewind_46 : decode cX4_rewind 46 = .ok (.iinc 2 1, 3) := by decide +kernel
theorem dX4_rewind_49 : decode cX4_rewind 49 = .ok (.goto (-32), 3) := by decide +kernel
theorem dX4_rewind_52 : decode cX4_rewind 52 = .ok (.iload_n 1, 1) := by decide +kernel
theorem dX4_rewind_53 : decode cX4_rewind 53 = .ok (.ireturn, 1) := by decide +kernel
set_option maxRecDepth 20000 in
theorem ggX4_levelOf_X4_wantedOf : GoodIn wsX4_levelOf wsX4_wantedOf := goodIn_r _ [7, 8, 9, 10, 11, 12, 13, 14, 15, 6, 16, 17, 18, 19, 20, 21, 22, 23, 24, 25, 26, 27, 28, 29, 30, 31, 32, 33, 34, 35, 36, 37, 38, 39, 40, 41, 42, 43, 44] (by decide +kernel) (by decide +kernel)
set_option maxRecDepth 20000 in
theorem gX4_levelOf_X4_wantedOf : GoodIn wsX4_levelOf (wsV RX4 148 RX4 yX4_wantedOf wsX4_wantedOf) := goodIn_app (goodIn_of _ (by decide +kernel)) ggX4_levelOf_X4_wantedOf
theorem dX4_levelOf_0 : decode cX4_levelOf 0 = .ok (.aload_n 0, 1) := by decide +kernel
theorem dX4_levelOf_1 : decode cX4_levelOf 1 = .ok (.getfield 25, 3) := by decide +kernel
theorem dX4_levelOf_4 : decode cX4_levelOf 4 = .ok (.iload_n 1, 1) := by decide +kernel
theorem dX4_levelOf_5 : decode cX4_levelOf 5 = .ok (.iaload, 1) := by decide +kernel
theorem dX4_levelOf_6 : decode cX4_levelOf 6 = .ok (.iconst (-1), 1) := by decide +kernel
theorem dX4_levelOf_7 : decode cX4_levelOf 7 = .ok (.if_icmp .eq 20, 3) := by decide +kernel
theorem dX4_levelOf_10 : decode cX4_levelOf 10 = .ok (.aload_n 0, 1) := by decide +kernel
theorem dX4_levelOf_11 : decode cX4_levelOf 11 = .ok (.getfield 37, 3) := by decide +kernel
theorem dX4_levelOf_14 : decode cX4_levelOf 14 = .ok (.iload_n 1, 1) := by decide +kernel
theorem dX4_levelOf_15 : decode cX4_levelOf 15 = .ok (.baload, 1) := by decide +kernel
theorem dX4_levelOf_16 : decode cX4_levelOf 16 = .ok (.ifCond .ne 11, 3) := by decide +kernel
theorem dX4_levelOf_19 : decode cX4_levelOf 19 = .ok (.aload_n 0, 1) := by decide +kernel
theorem dX4_levelOf_20 : decode cX4_levelOf 20 = .ok (.iload_n 1, 1) := by decide +kernel
theorem dX4_levelOf_21 : decode cX4_levelOf 21 = .ok (.invokevirtual 148, 3) := by decide +kernel
theorem dX4_levelOf_24 : decode cX4_levelOf 24 = .ok (.goto 4, 3) := by decide +kernel
theorem dX4_levelOf_27 : decode cX4_levelOf 27 = .ok (.iconst 0, 1) := by decide +kernel
theorem dX4_levelOf_28 : decode cX4_levelOf 28 = .ok (.ireturn, 1) := by decide +kernel
set_option maxRecDepth 20000 in
theorem ggX4_level_X4_isLamp : GoodIn wsX4_level wsX4_isLamp := goodIn_r _ [5, 6, 7, 8, 4, 9, 34, 35, 36, 37, 38, 39, 40, 41, 42, 43, 44, 45, 46, 47, 48, 49, 50, 51, 52, 53, 54, 55, 56, 57, 58, 59, 60, 61] (by decide +kernel) (by decide +kernel)
set_option maxRecDepth 20000 in
theorem gX4_level_X4_isLamp : GoodIn wsX4_level (wsV RX4 107 RX4 yX4_isLamp wsX4_isLamp) := goodIn_app (goodIn_of _ (by decide +kernel)) ggX4_level_X4_isLamp
set_option maxRecDepth 20000 in
theorem ggX4_level_X4_may : GoodIn wsX4_level wsX4_may := goodIn_r _ [13, 14, 34, 35, 36, 37, 38, 39, 40, 41, 42, 43, 44, 45, 46, 47, 48, 49, 50, 51, 52, 53, 54, 55, 56, 57, 58, 59, 60, 61] (by decide +kernel) (by decide +kernel)
set_option maxRecDepth 20000 in
theorem gX4_level_X4_may : GoodIn wsX4_level (wsV RX4 117 RX4 yX4_may wsX4_may) := goodIn_app (goodIn_of _ (by decide +kernel)) ggX4_level_X4_may
set_option maxRecDepth 20000 in
theorem ggX4_level_X4_levelOf : GoodIn wsX4_level wsX4_levelOf := goodIn_r _ [18, 19, 20, 21, 22, 23, 4, 24, 25, 26, 27, 28, 29, 30, 31, 32, 33, 34, 35, 36, 37, 38, 39, 40, 41, 42, 43, 44, 45, 46, 47, 48, 49, 50, 51, 52, 53, 54, 55, 56, 57, 58, 59, 60, 61] (by decide +kernel) (by decide +kernel)
set_option maxRecDepth 20000 in
theorem gX4_level_X4_levelOf : GoodIn wsX4_level (wsV RX4 133 RX4 yX4_levelOf wsX4_levelOf) := goodIn_app (goodIn_of _ (by decide +kernel)) ggX4_level_X4_levelOf
theorem dX4_level_0 : decode cX4_level 0 = .ok (.aload_n 0, 1) := by decide +kernel
theorem dX4_level_1 : decode cX4_level 1 = .ok (.aload_n 0, 1) := by decide +kernel
theorem dX4_level_2 : decode cX4_level 2 = .ok (.iload_n 1, 1) := by decide +kernel
theorem dX4_level_3 : decode cX4_level 3 = .ok (.invokevirtual 107, 3) := by decide +kernel
theorem dX4_level_6 : decode cX4_level 6 = .ok (.invokevirtual 117, 3) := by decide +kernel
theorem dX4_level_9 : decode cX4_level 9 = .ok (.ifCond .eq 11, 3) := by decide +kernel
theorem dX4_level_12 : decode cX4_level 12 = .ok (.aload_n 0, 1) := by decide +kernel
theorem dX4_level_13 : decode cX4_level 13 = .ok (.iload_n 1, 1) := by decide +kernel
theorem dX4_level_14 : decode cX4_level 14 = .ok (.invokevirtual 133, 3) := by decide +kernel
theorem dX4_level_17 : decode cX4_level 17 = .ok (.goto 4, 3) := by decide +kernel
theorem dX4_level_20 : decode cX4_level 20 = .ok (.iconst 0, 1) := by decide +kernel
theorem dX4_level_21 : decode cX4_level 21 = .ok (.ireturn, 1) := by decide +kernel
set_option maxRecDepth 20000 in
theorem ggX4_wanted_X4_isLamp : GoodIn wsX4_wanted wsX4_isLamp := goodIn_r _ [5, 6, 7, 8, 4, 9, 28, 29, 30, 31, 32, 33, 34, 35, 36, 37, 38, 39, 40, 41, 42, 43, 44, 45, 46, 47, 48, 49, 50, 51, 52, 53, 54, 55] (by decide +kernel) (by decide +kernel)
set_option maxRecDepth 20000 in
theorem gX4_wanted_X4_isLamp : GoodIn wsX4_wanted (wsV RX4 107 RX4 yX4_isLamp wsX4_isLamp) := goodIn_app (goodIn_of _ (by decide +kernel)) ggX4_wanted_X4_isLamp
set_option maxRecDepth 20000 in
theorem ggX4_wanted_X4_may : GoodIn wsX4_wanted wsX4_may := goodIn_r _ [13, 14, 28, 29, 30, 31, 32, 33, 34, 35, 36, 37, 38, 39, 40, 41, 42, 43, 44, 45, 46, 47, 48, 49, 50, 51, 52, 53, 54, 55] (by decide +kernel) (by decide +kernel)
set_option maxRecDepth 20000 in
theorem gX4_wanted_X4_may : GoodIn wsX4_wanted (wsV RX4 117 RX4 yX4_may wsX4_may) := goodIn_app (goodIn_of _ (by decide +kernel)) ggX4_wanted_X4_may
set_option maxRecDepth 20000 in
theorem ggX4_wanted_X4_wantedOf : GoodIn wsX4_wanted wsX4_wantedOf := goodIn_r _ [18, 19, 20, 21, 22, 23, 24, 25, 26, 4, 27, 28, 29, 30, 31, 32, 33, 34, 35, 36, 37, 38, 39, 40, 41, 42, 43, 44, 45, 46, 47, 48, 49, 50, 51, 52, 53, 54, 55] (by decide +kernel) (by decide +kernel)
set_option maxRecDepth 20000 in
theorem gX4_wanted_X4_wantedOf : GoodIn wsX4_wanted (wsV RX4 148 RX4 yX4_wantedOf wsX4_wantedOf) := goodIn_app (goodIn_of _ (by decide +kernel)) ggX4_wanted_X4_wantedOf
theorem dX4_wanted_0 : decode cX4_wanted 0 = .ok (.aload_n 0, 1) := by decide +kernel
theorem dX4_wanted_1 : decode cX4_wanted 1 = .ok (.aload_n 0, 1) := by decide +kernel
theorem dX4_wanted_2 : decode cX4_wanted 2 = .ok (.iload_n 1, 1) := by decide +kernel
theorem dX4_wanted_3 : decode cX4_wanted 3 = .ok (.invokevirtual 107, 3) := by decide +kernel
theorem dX4_wanted_6 : decode cX4_wanted 6 = .ok (.invokevirtual 117, 3) := by decide +kernel
theorem dX4_wanted_9 : decode cX4_wanted 9 = .ok (.ifCond .eq 11, 3) := by decide +kernel
theorem dX4_wanted_12 : decode cX4_wanted 12 = .ok (.aload_n 0, 1) := by decide +kernel
theorem dX4_wanted_13 : decode cX4_wanted 13 = .ok (.iload_n 1, 1) := by decide +kernel
theorem dX4_wanted_14 : decode cX4_wanted 14 = .ok (.invokevirtual 148, 3) := by decide +kernel
theorem dX4_wanted_17 : decode cX4_wanted 17 = .ok (.goto 4, 3) := by decide +kernel
theorem dX4_wanted_20 : decode cX4_wanted 20 = .ok (.iconst 0, 1) := by decide +kernel
theorem dX4_wanted_21 : decode cX4_wanted 21 = .ok (.ireturn, 1) := by decide +kernel
set_option maxRecDepth 20000 in
theorem ggX4_wantedByCues_X4_isLamp : GoodIn wsX4_wantedByCues wsX4_isLamp := goodIn_r _ [5, 6, 7, 8, 4, 9, 28, 29, 30, 31, 32, 33, 34, 35, 36, 37, 38, 39, 40, 41, 42, 43, 44, 45, 46, 47, 48, 49, 50, 51, 52, 53, 54, 55] (by decide +kernel) (by decide +kernel)
set_option maxRecDepth 20000 in
theorem gX4_wantedByCues_X4_isLamp : GoodIn wsX4_wantedByCues (wsV RX4 107 RX4 yX4_isLamp wsX4_isLamp) := goodIn_app (goodIn_of _ (by decide +kernel)) ggX4_wantedByCues_X4_isLamp
set_option maxRecDepth 20000 in
theorem ggX4_wantedByCues_X4_may : GoodIn wsX4_wantedByCues wsX4_may := goodIn_r _ [13, 14, 28, 29, 30, 31, 32, 33, 34, 35, 36, 37, 38, 39, 40, 41, 42, 43, 44, 45, 46, 47, 48, 49, 50, 51, 52, 53, 54, 55] (by decide +kernel) (by decide +kernel)
set_option maxRecDepth 20000 in
theorem gX4_wantedByCues_X4_may : GoodIn wsX4_wantedByCues (wsV RX4 117 RX4 yX4_may wsX4_may) := goodIn_app (goodIn_of _ (by decide +kernel)) ggX4_wantedByCues_X4_may
set_option maxRecDepth 20000 in
theorem ggX4_wantedByCues_X4_wantedOf : GoodIn wsX4_wantedByCues wsX4_wantedOf := goodIn_r _ [18, 19, 20, 21, 22, 23, 24, 25, 26, 4, 27, 28, 29, 30, 31, 32, 33, 34, 35, 36, 37, 38, 39, 40, 41, 42, 43, 44, 45, 46, 47, 48, 49, 50, 51, 52, 53, 54, 55] (by decide +kernel) (by decide +kernel)
set_option maxRecDepth 20000 in
theorem gX4_wantedByCues_X4_wantedOf : GoodIn wsX4_wantedByCues (wsV RX4 148 RX4 yX4_wantedOf wsX4_wantedOf) := goodIn_app (goodIn_of _ (by decide +kernel)) ggX4_wantedByCues_X4_wantedOf
theorem dX4_wantedByCues_0 : decode cX4_wantedByCues 0 = .ok (.aload_n 0, 1) := by decide +kernel
theorem dX4_wantedByCues_1 : decode cX4_wantedByCues 1 = .ok (.aload_n 0, 1) := by decide +kernel
theorem dX4_wantedByCues_2 : decode cX4_wantedByCues 2 = .ok (.iload_n 1, 1) := by decide +kernel
theorem dX4_wantedByCues_3 : decode cX4_wantedByCues 3 = .ok (.invokevirtual 107, 3) := by decide +kernel
theorem dX4_wantedByCues_6 : decode cX4_wantedByCues 6 = .ok (.invokevirtual 117, 3) := by decide +kernel
theorem dX4_wantedByCues_9 : decode cX4_wantedByCues 9 = .ok (.ifCond .eq 11, 3) := by decide +kernel
theorem dX4_wantedByCues_12 : decode cX4_wantedByCues 12 = .ok (.aload_n 0, 1) := by decide +kernel
theorem dX4_wantedByCues_13 : decode cX4_wantedByCues 13 = .ok (.iload_n 1, 1) := by decide +kernel
theorem dX4_wantedByCues_14 : decode cX4_wantedByCues 14 = .ok (.invokevirtual 148, 3) := by decide +kernel
theorem dX4_wantedByCues_17 : decode cX4_wantedByCues 17 = .ok (.goto 4, 3) := by decide +kernel
theorem dX4_wantedByCues_20 : decode cX4_wantedByCues 20 = .ok (.iconst 0, 1) := by decide +kernel
theorem dX4_wantedByCues_21 : decode cX4_wantedByCues 21 = .ok (.ireturn, 1) := by decide +kernel
set_option maxRecDepth 20000 in
theorem ggX4_bulb_X4_isLamp : GoodIn wsX4_bulb wsX4_isLamp := goodIn_r _ [6, 7, 8, 9, 5, 10, 16, 17, 18, 19, 20, 21, 22, 23, 24, 25, 26, 27, 28, 29, 30, 31, 32, 33, 34, 35, 36, 37, 38, 39, 40, 41, 42, 43] (by decide +kernel) (by decide +kernel)
set_option maxRecDepth 20000 in
theorem gX4_bulb_X4_isLamp : GoodIn wsX4_bulb (wsV RX4 107 RX4 yX4_isLamp wsX4_isLamp) := goodIn_app (goodIn_of _ (by decide +kernel)) ggX4_bulb_X4_isLamp
set_option maxRecDepth 20000 in
theorem ggX4_bulb_X4_may : GoodIn wsX4_bulb wsX4_may := goodIn_r _ [14, 15, 16, 17, 18, 19, 20, 21, 22, 23, 24, 25, 26, 27, 28, 29, 30, 31, 32, 33, 34, 35, 36, 37, 38, 39, 40, 41, 42, 43] (by decide +kernel) (by decide +kernel)
set_option maxRecDepth 20000 in
theorem gX4_bulb_X4_may : GoodIn wsX4_bulb (wsV RX4 117 RX4 yX4_may wsX4_may) := goodIn_app (goodIn_of _ (by decide +kernel)) ggX4_bulb_X4_may
theorem dX4_bulb_0 : decode cX4_bulb 0 = .ok (.aload_n 0, 1) := by decide +kernel
theorem dX4_bulb_1 : decode cX4_bulb 1 = .ok (.aload_n 0, 1) := by decide +kernel
theorem dX4_bulb_2 : decode cX4_bulb 2 = .ok (.iload_n 1, 1) := by decide +kernel
theorem dX4_bulb_3 : decode cX4_bulb 3 = .ok (.invokevirtual 107, 3) := by decide +kernel
theorem dX4_bulb_6 : decode cX4_bulb 6 = .ok (.invokevirtual 117, 3) := by decide +kernel
theorem dX4_bulb_9 : decode cX4_bulb 9 = .ok (.ifCond .ne 5, 3) := by decide +kernel
theorem dX4_bulb_12 : decode cX4_bulb 12 = .ok (.iconst 0, 1) := by decide +kernel
theorem dX4_bulb_13 : decode cX4_bulb 13 = .ok (.ireturn, 1) := by decide +kernel
theorem dX4_bulb_14 : decode cX4_bulb 14 = .ok (.aload_n 0, 1) := by decide +kernel
theorem dX4_bulb_15 : decode cX4_bulb 15 = .ok (.getfield 37, 3) := by decide +kernel
theorem dX4_bulb_18 : decode cX4_bulb 18 = .ok (.iload_n 1, 1) := by decide +kernel
theorem dX4_bulb_19 : decode cX4_bulb 19 = .ok (.aload_n 0, 1) := by decide +kernel
theorem dX4_bulb_20 : decode cX4_bulb 20 = .ok (.getfield 37, 3) := by decide +kernel
theorem dX4_bulb_23 : decode cX4_bulb 23 = .ok (.iload_n 1, 1) := by decide +kernel
theorem dX4_bulb_24 : decode cX4_bulb 24 = .ok (.baload, 1) := by decide +kernel
theorem dX4_bulb_25 : decode cX4_bulb 25 = .ok (.ifCond .ne 7, 3) := by decide +kernel
theorem dX4_bulb_28 : decode cX4_bulb 28 = .ok (.iconst 1, 1) := by decide +kernel
theorem dX4_bulb_29 : decode cX4_bulb 29 = .ok (.goto 4, 3) := by decide +kernel
theorem dX4_bulb_32 : decode cX4_bulb 32 = .ok (.iconst 0, 1) := by decide +kernel
theorem dX4_bulb_33 : decode cX4_bulb 33 = .ok (.bastore, 1) := by decide +kernel
theorem dX4_bulb_34 : decode cX4_bulb 34 = .ok (.aload_n 0, 1) := by decide +kernel
theorem dX4_bulb_35 : decode cX4_bulb 35 = .ok (.getfield 37, 3) := by decide +kernel
theorem dX4_bulb_38 : decode cX4_bulb 38 = .ok (.iload_n 1, 1) := by decide +kernel
theorem dX4_bulb_39 : decode cX4_bulb 39 = .ok (.baload, 1) := by decide +kernel
theorem dX4_bulb_40 : decode cX4_bulb 40 = .ok (.ifCond .ne 7, 3) := by decide +kernel
theorem dX4_bulb_43 : decode cX4_bulb 43 = .ok (.iconst 1, 1) := by decide +kernel
theorem dX4_bulb_44 : decode cX4_bulb 44 = .ok (.goto 4, 3) := by decide +kernel
theorem dX4_bulb_47 : decode cX4_bulb 47 = .ok (.iconst 0, 1) := by decide +kernel
theorem dX4_bulb_48 : decode cX4_bulb 48 = .ok (.ireturn, 1) := by decide +kernel
set_option maxRecDepth 20000 in
theorem ggX4_standIn_X4_isLamp : GoodIn wsX4_standIn wsX4_isLamp := goodIn_r _ [8, 9, 10, 11, 7, 12, 18, 19, 20, 21, 22, 23, 24, 25, 26, 27, 28, 29, 30, 31, 32, 33, 34, 35, 36, 37, 38, 39, 40, 41, 42, 43, 44, 45] (by decide +kernel) (by decide +kernel)
set_option maxRecDepth 20000 in
theorem gX4_standIn_X4_isLamp : GoodIn wsX4_standIn (wsV RX4 107 RX4 yX4_isLamp wsX4_isLamp) := goodIn_app (goodIn_of _ (by decide +kernel)) ggX4_standIn_X4_isLamp
set_option maxRecDepth 20000 in
theorem ggX4_standIn_X4_mayAll : GoodIn wsX4_standIn wsX4_mayAll := goodIn_r _ [16, 17, 18, 19, 20, 21, 22, 23, 24, 25, 26, 27, 28, 29, 30, 31, 32, 33, 34, 35, 36, 37, 38, 39, 40, 41, 42, 43, 44, 45] (by decide +kernel) (by decide +kernel)
set_option maxRecDepth 20000 in
theorem gX4_standIn_X4_mayAll : GoodIn wsX4_standIn (wsV RX4 91 RX4 yX4_mayAll wsX4_mayAll) := goodIn_app (goodIn_of _ (by decide +kernel)) ggX4_standIn_X4_mayAll
theorem dX4_standIn_0 : decode cX4_standIn 0 = .ok (.aload_n 0, 1) := by decide +kernel
theorem dX4_standIn_1 : decode cX4_standIn 1 = .ok (.iload_n 1, 1) := by decide +kernel
theorem dX4_standIn_2 : decode cX4_standIn 2 = .ok (.invokevirtual 107, 3) := by decide +kernel
theorem dX4_standIn_5 : decode cX4_standIn 5 = .ok (.ifCond .eq 15, 3) := by decide +kernel
theorem dX4_standIn_8 : decode cX4_standIn 8 = .ok (.aload_n 0, 1) := by decide +kernel
theorem dX4_standIn_9 : decode cX4_standIn 9 = .ok (.iload_n 2, 1) := by decide +kernel
theorem dX4_standIn_10 : decode cX4_standIn 10 = .ok (.invokevirtual 107, 3) := by decide +kernel
theorem dX4_standIn_13 : decode cX4_standIn 13 = .ok (.ifCond .eq 7, 3) := by decide +kernel
theorem dX4_standIn_16 : decode cX4_standIn 16 = .ok (.iconst 1, 1) := by decide +kernel
theorem dX4_standIn_17 : decode cX4_standIn 17 = .ok (.goto 4, 3) := by decide +kernel
theorem dX4_standIn_20 : decode cX4_standIn 20 = .ok (.iconst 0, 1) := by decide +kernel
theorem dX4_standIn_21 : decode cX4_standIn 21 = .ok (.istore_n 3, 1) := by decide +kernel
theorem dX4_standIn_22 : decode cX4_standIn 22 = .ok (.aload_n 0, 1) := by decide +kernel
theorem dX4_standIn_23 : decode cX4_standIn 23 = .ok (.iload_n 3, 1) := by decide +kernel
theorem dX4_standIn_24 : decode cX4_standIn 24 = .ok (.iload_n 1, 1) := by decide +kernel
theorem dX4_standIn_25 : decode cX4_standIn 25 = .ok (.iload_n 2, 1) := by decide +kernel
theorem dX4_standIn_26 : decode cX4_standIn 26 = .ok (.if_icmp .eq 7, 3) := by decide +kernel
theorem dX4_standIn_29 : decode cX4_standIn 29 = .ok (.iconst 1, 1) := by decide +kernel
theorem dX4_standIn_30 : decode cX4_standIn 30 = .ok (.goto 4, 3) := by decide +kernel
theorem dX4_standIn_33 : decode cX4_standIn 33 = .ok (.iconst 0, 1) := by decide +kernel
theorem dX4_standIn_34 : decode cX4_standIn 34 = .ok (.iload_n 3, 1) := by decide +kernel
theorem dX4_standIn_35 : decode cX4_standIn 35 = .ok (.ifCond .eq 25, 3) := by decide +kernel
theorem dX4_standIn_38 : decode cX4_standIn 38 = .ok (.aload_n 0, 1) := by decide +kernel
theorem dX4_standIn_39 : decode cX4_standIn 39 = .ok (.getfield 37, 3) := by decide +kernel
theorem dX4_standIn_42 : decode cX4_standIn 42 = .ok (.iload_n 1, 1) := by decide +kernel
theorem dX4_standIn_43 : decode cX4_standIn 43 = .ok (.baload, 1) := by decide +kernel
theorem dX4_standIn_44 : decode cX4_standIn 44 = .ok (.ifCond .eq 16, 3) := by decide +kernel
theorem dX4_standIn_47 : decode cX4_standIn 47 = .ok (.aload_n 0, 1) := by decide +kernel
theorem dX4_standIn_48 : decode cX4_standIn 48 = .ok (.getfield 37, 3) := by decide +kernel
theorem dX4_standIn_51 : decode cX4_standIn 51 = .ok (.iload_n 2, 1) := by decide +kernel
theorem dX4_standIn_52 : decode cX4_standIn 52 = .ok (.baload, 1) := by decide +kernel
theorem dX4_standIn_53 : decode cX4_standIn 53 = .ok (.ifCond .ne 7, 3) := by decide +kernel
theorem dX4_standIn_56 : decode cX4_standIn 56 = .ok (.iconst 1, 1) := by decide +kernel
theorem dX4_standIn_57 : decode cX4_standIn 57 = .ok (.goto 4, 3) := by decide +kernel
theorem dX4_standIn_60 : decode cX4_standIn 60 = .ok (.iconst 0, 1) := by decide +kernel
theorem dX4_standIn_61 : decode cX4_standIn 61 = .ok (.invokevirtual 91, 3) := by decide +kernel
theorem dX4_standIn_64 : decode cX4_standIn 64 = .ok (.ifCond .ne 5, 3) := by decide +kernel
theorem dX4_standIn_67 : decode cX4_standIn 67 = .ok (.iconst 0, 1) := by decide +kernel
theorem dX4_standIn_68 : decode cX4_standIn 68 = .ok (.ireturn, 1) := by decide +kernel
theorem dX4_standIn_69 : decode cX4_standIn 69 = .ok (.iconst 0, 1) := by decide +kernel
theorem dX4_standIn_70 : decode cX4_standIn 70 = .ok (.istore 4, 2) := by decide +kernel
theorem dX4_standIn_72 : decode cX4_standIn 72 = .ok (.iconst 0, 1) := by decide +kernel
theorem dX4_standIn_73 : decode cX4_standIn 73 = .ok (.istore 5, 2) := by decide +kernel
theorem dX4_standIn_75 : decode cX4_standIn 75 = .ok (.iload 5, 2) := by decide +kernel
theorem dX4_standIn_77 : decode cX4_standIn 77 = .ok (.aload_n 0, 1) := by decide +kernel
theorem dX4_standIn_78 : decode cX4_standIn 78 = .ok (.getfield 88, 3) := by decide +kernel
theorem dX4_standIn_81 : decode cX4_standIn 81 = .ok (.if_icmp .ge 65, 3) := by decide +kernel
theorem dX4_standIn_84 : decode cX4_standIn 84 = .ok (.aload_n 0, 1) := by decide +kernel
theorem dX4_standIn_85 : decode cX4_standIn 85 = .ok (.getfield 68, 3) := by decide +kernel
theorem dX4_standIn_88 : decode cX4_standIn 88 = .ok (.bipush 10, 2) := by decide +kernel
theorem dX4_standIn_90 : decode cX4_standIn 90 = .ok (.iload 5, 2) := by decide +kernel
theorem dX4_standIn_92 : decode cX4_standIn 92 = .ok (.imul, 1) := by decide +kernel
theorem dX4_standIn_93 : decode cX4_standIn 93 = .ok (.iload_n 1, 1) := by decide +kernel
theorem dX4_standIn_94 : decode cX4_standIn 94 = .ok (.iadd, 1) := by decide +kernel
theorem dX4_standIn_95 : decode cX4_standIn 95 = .ok (.iaload, 1) := by decide +kernel
theorem dX4_standIn_96 : decode cX4_standIn 96 = .ok (.iconst (-1), 1) := by decide +kernel
theorem dX4_standIn_97 : decode cX4_standIn 97 = .ok (.if_icmp .eq 43, 3) := by decide +kernel
theorem dX4_standIn_100 : decode cX4_standIn 100 = .ok (.aload_n 0, 1) := by decide +kernel
theorem dX4_standIn_101 : decode cX4_standIn 101 = .ok (.getfield 68, 3) := by decide +kernel
theorem dX4_standIn_104 : decode cX4_standIn 104 = .ok (.bipush 10, 2) := by decide +kernel
theorem dX4_standIn_106 : decode cX4_standIn 106 = .ok (.iload 5, 2) := by decide +kernel
theorem dX4_standIn_108 : decode cX4_standIn 108 = .ok (.imul, 1) := by decide +kernel
theorem dX4_standIn_109 : decode cX4_standIn 109 = .ok (.iload_n 2, 1) := by decide +kernel
theorem dX4_standIn_110 : decode cX4_standIn 110 = .ok (.iadd, 1) := by decide +kernel
theorem dX4_standIn_111 : decode cX4_standIn 111 = .ok (.aload_n 0, 1) := by decide +kernel
theorem dX4_standIn_112 : decode cX4_standIn 112 = .ok (.getfield 68, 3) := by decide +kernel
theorem dX4_standIn_115 : decode cX4_standIn 115 = .ok (.bipush 10, 2) := by decide +kernel
theorem dX4_standIn_117 : decode cX4_standIn 117 = .ok (.iload 5, 2) := by decide +kernel
theorem dX4_standIn_119 : decode cX4_standIn 119 = .ok (.imul, 1) := by decide +kernel
theorem dX4_standIn_120 : decode cX4_standIn 120 = .ok (.iload_n 1, 1) := by decide +kernel
theorem dX4_standIn_121 : decode cX4_standIn 121 = .ok (.iadd, 1) := by decide +kernel
theorem dX4_standIn_122 : decode cX4_standIn 122 = .ok (.iaload, 1) := by decide +kernel
theorem dX4_standIn_123 : decode cX4_standIn 123 = .ok (.iastore, 1) := by decide +kernel
theorem dX4_standIn_124 : decode cX4_standIn 124 = .ok (.aload_n 0, 1) := by decide +kernel
theorem dX4_standIn_125 : decode cX4_standIn 125 = .ok (.getfield 68, 3) := by decide +kernel
theorem dX4_standIn_128 : decode cX4_standIn 128 = .ok (.bipush 10, 2) := by decide +kernel
theorem dX4_standIn_130 : decode cX4_standIn 130 = .ok (.iload 5, 2) := by decide +kernel
theorem dX4_standIn_132 : decode cX4_standIn 132 = .ok (.imul, 1) := by decide +kernel
theorem dX4_standIn_133 : decode cX4_standIn 133 = .ok (.iload_n 1, 1) := by decide +kernel
theorem dX4_standIn_134 : decode cX4_standIn 134 = .ok (.iadd, 1) := by decide +kernel
theorem dX4_standIn_135 : decode cX4_standIn 135 = .ok (.iconst (-1), 1) := by decide +kernel
theorem dX4_standIn_136 : decode cX4_standIn 136 = .ok (.iastore, 1) := by decide +kernel
theorem dX4_standIn_137 : decode cX4_standIn 137 = .ok (.iinc 4 1, 3) := by decide +kernel
theorem dX4_standIn_140 : decode cX4_standIn 140 = .ok (.iinc 5 1, 3) := by decide +kernel
theorem dX4_standIn_143 : decode cX4_standIn 143 = .ok (.goto (-68), 3) := by decide +kernel
theorem dX4_standIn_146 : decode cX4_standIn 146 = .ok (.iload 4, 2) := by decide +kernel
theorem dX4_standIn_148 : decode cX4_standIn 148 = .ok (.ireturn, 1) := by decide +kernel
set_option maxRecDepth 20000 in
theorem ggX4_colour_X4_isLamp : GoodIn wsX4_colour wsX4_isLamp := goodIn_r _ [7, 8, 9, 10, 6, 11, 17, 18, 19, 20, 21, 22, 23, 24, 25, 26, 27, 28, 29, 30, 31, 32, 33, 34, 35, 36, 37, 38, 39, 40, 41, 42, 43, 44] (by decide +kernel) (by decide +kernel)
set_option maxRecDepth 20000 in
theorem gX4_colour_X4_isLamp : GoodIn wsX4_colour (wsV RX4 107 RX4 yX4_isLamp wsX4_isLamp) := goodIn_app (goodIn_of _ (by decide +kernel)) ggX4_colour_X4_isLamp
set_option maxRecDepth 20000 in
theorem ggX4_colour_X4_isIn : GoodIn wsX4_colour wsX4_isIn := goodIn_r _ [11] (by decide +kernel) (by decide +kernel)
set_option maxRecDepth 20000 in
theorem gX4_colour_X4_isIn : GoodIn wsX4_colour (va_wsS RX4 81 yX4_isIn wsX4_isIn) := goodIn_app (goodIn_of _ (by decide +kernel)) ggX4_colour_X4_isIn
set_option maxRecDepth 20000 in
theorem ggX4_colour_X4_mayBoth : GoodIn wsX4_colour wsX4_mayBoth := goodIn_r _ [15, 16, 17, 18, 19, 20, 21, 22, 23, 24, 25, 26, 27, 28, 29, 30, 31, 32, 33, 34, 35, 36, 37, 38, 39, 40, 41, 42, 43, 44] (by decide +kernel) (by decide +kernel)
set_option maxRecDepth 20000 in
theorem gX4_colour_X4_mayBoth : GoodIn wsX4_colour (wsV RX4 95 RX4 yX4_mayBoth wsX4_mayBoth) := goodIn_app (goodIn_of _ (by decide +kernel)) ggX4_colour_X4_mayBoth
theorem dX4_colour_0 : decode cX4_colour 0 = .ok (.aload_n 0, 1) := by decide +kernel
theorem dX4_colour_1 : decode cX4_colour 1 = .ok (.aload_n 0, 1) := by decide +kernel
theorem dX4_colour_2 : decode cX4_colour 2 = .ok (.iload_n 1, 1) := by decide +kernel
theorem dX4_colour_3 : decode cX4_colour 3 = .ok (.invokevirtual 107, 3) := by decide +kernel
theorem dX4_colour_6 : decode cX4_colour 6 = .ok (.iload_n 2, 1) := by decide +kernel
theorem dX4_colour_7 : decode cX4_colour 7 = .ok (.iconst 0, 1) := by decide +kernel
theorem dX4_colour_8 : decode cX4_colour 8 = .ok (.bipush 20, 2) := by decide +kernel
theorem dX4_colour_10 : decode cX4_colour 10 = .ok (.invokestatic 81, 3) := by decide +kernel
theorem dX4_colour_13 : decode cX4_colour 13 = .ok (.invokevirtual 95, 3) := by decide +kernel
theorem dX4_colour_16 : decode cX4_colour 16 = .ok (.ifCond .ne 5, 3) := by decide +kernel
theorem dX4_colour_19 : decode cX4_colour 19 = .ok (.iconst 0, 1) := by decide +kernel
theorem dX4_colour_20 : decode cX4_colour 20 = .ok (.ireturn, 1) := by decide +kernel
theorem dX4_colour_21 : decode cX4_colour 21 = .ok (.aload_n 0, 1) := by decide +kernel
theorem dX4_colour_22 : decode cX4_colour 22 = .ok (.getfield 22, 3) := by decide +kernel
theorem dX4_colour_25 : decode cX4_colour 25 = .ok (.iload_n 1, 1) := by decide +kernel
theorem dX4_colour_26 : decode cX4_colour 26 = .ok (.iaload, 1) := by decide +kernel
theorem dX4_colour_27 : decode cX4_colour 27 = .ok (.istore_n 3, 1) := by decide +kernel
theorem dX4_colour_28 : decode cX4_colour 28 = .ok (.aload_n 0, 1) := by decide +kernel
theorem dX4_colour_29 : decode cX4_colour 29 = .ok (.getfield 22, 3) := by decide +kernel
theorem dX4_colour_32 : decode cX4_colour 32 = .ok (.iload_n 1, 1) := by decide +kernel
theorem dX4_colour_33 : decode cX4_colour 33 = .ok (.iload_n 2, 1) := by decide +kernel
theorem dX4_colour_34 : decode cX4_colour 34 = .ok (.iastore, 1) := by decide +kernel
theorem dX4_colour_35 : decode cX4_colour 35 = .ok (.aload_n 0, 1) := by decide +kernel
theorem dX4_colour_36 : decode cX4_colour 36 = .ok (.getfield 41, 3) := by decide +kernel
theorem dX4_colour_39 : decode cX4_colour 39 = .ok (.iload_n 1, 1) := by decide +kernel
theorem dX4_colour_40 : decode cX4_colour 40 = .ok (.iconst 0, 1) := by decide +kernel
theorem dX4_colour_41 : decode cX4_colour 41 = .ok (.iastore, 1) := by decide +kernel
theorem dX4_colour_42 : decode cX4_colour 42 = .ok (.iload_n 3, 1) := by decide +kernel
theorem dX4_colour_43 : decode cX4_colour 43 = .ok (.ireturn, 1) := by decide +kernel
theorem dX4_burnt_0 : decode cX4_burnt 0 = .ok (.aload_n 0, 1) := by decide +kernel
theorem dX4_burnt_1 : decode cX4_burnt 1 = .ok (.iconst 0, 1) := by decide +kernel
theorem dX4_burnt_2 : decode cX4_burnt 2 = .ok (.putfield 74, 3) := by decide +kernel
theorem dX4_burnt_5 : decode cX4_burnt 5 = .ok (.iconst 0, 1) := by decide +kernel
theorem dX4_burnt_6 : decode cX4_burnt 6 = .ok (.istore_n 1, 1) := by decide +kernel
theorem dX4_burnt_7 : decode cX4_burnt 7 = .ok (.iconst 0, 1) := by decide +kernel
theorem dX4_burnt_8 : decode cX4_burnt 8 = .ok (.istore_n 2, 1) := by decide +kernel
theorem dX4_burnt_9 : decode cX4_burnt 9 = .ok (.iload_n 2, 1) := by decide +kernel
theorem dX4_burnt_10 : decode cX4_burnt 10 = .ok (.aload_n 0, 1) := by decide +kernel
theorem dX4_burnt_11 : decode cX4_burnt 11 = .ok (.getfield 78, 3) := by decide +kernel
theorem dX4_burnt_14 : decode cX4_burnt 14 = .ok (.if_icmp .ge 30, 3) := by decide +kernel
theorem dX4_burnt_17 : decode cX4_burnt 17 = .ok (.iload_n 1, 1) := by decide +kernel
theorem dX4_burnt_18 : decode cX4_burnt 18 = .ok (.aload_n 0, 1) := by decide +kernel
theorem dX4_burnt_19 : decode cX4_burnt 19 = .ok (.getfield 41, 3) := by decide +kernel
theorem dX4_burnt_22 : decode cX4_burnt 22 = .ok (.iload_n 2, 1) := by decide +kernel
theorem dX4_burnt_23 : decode cX4_burnt 23 = .ok (.iaload, 1) := by decide +kernel
theorem dX4_burnt_24 : decode cX4_burnt 24 = .ok (.bipush 30, 2) := by decide +kernel
theorem dX4_burnt_26 : decode cX4_burnt 26 = .ok (.if_icmp .lt 9, 3) := by decide +kernel
theorem dX4_burnt_29 : decode cX4_burnt 29 = .ok (.iconst 1, 1) := by decide +kernel
theorem dX4_burnt_30 : decode cX4_burnt 30 = .ok (.iload_n 2, 1) := by decide +kernel
theorem dX4_burnt_31 : decode cX4_burnt 31 = .ok (.ishl, 1) := by decide +kernel
theorem dX4_burnt_32 : decode cX4_burnt 32 = .ok (.goto 4, 3) := by decide +kernel
theorem dX4_burnt_35 : decode cX4_burnt 35 = .ok (.iconst 0, 1) := by decide +kernel
theorem dX4_burnt_36 : decode cX4_burnt 36 = .ok (.ior, 1) := by decide +kernel
theorem dX4_burnt_37 : decode cX4_burnt 37 = .ok (.istore_n 1, 1) := by decide +kernel
theorem dX4_burnt_38 : decode cX4_burnt 38 = .ok (.iinc 2 1, 3) := by decide +kernel
theorem dX4_burnt_41 : decode cX4_burnt 41 = .ok (.goto (-32), 3) := by decide +kernel
theorem dX4_burnt_44 : decode cX4_burnt 44 = .ok (.iload_n 1, 1) := by decide +kernel
theorem dX4_burnt_45 : decode cX4_burnt 45 = .ok (.ireturn, 1) := by decide +kernel
theorem dJ9_floorDiv_7cf53_0 : decode cJ9_floorDiv_7cf53 0 = .ok (.iload_n 0, 1) := by decide +kernel
theorem dJ9_floorDiv_7cf53_1 : decode cJ9_floorDiv_7cf53 1 = .ok (.iload_n 1, 1) := by decide +kernel
theorem dJ9_floorDiv_7cf53_2 : decode cJ9_floorDiv_7cf53 2 = .ok (.idiv, 1) := by decide +kernel
theorem dJ9_floorDiv_7cf53_3 : decode cJ9_floorDiv_7cf53 3 = .ok (.istore_n 2, 1) := by decide +kernel
theorem dJ9_floorDiv_7cf53_4 : decode cJ9_floorDiv_7cf53 4 = .ok (.iload_n 0, 1) := by decide +kernel
theorem dJ9_floorDiv_7cf53_5 : decode cJ9_floorDiv_7cf53 5 = .ok (.iload_n 1, 1) := by decide +kernel
theorem dJ9_floorDiv_7cf53_6 : decode cJ9_floorDiv_7cf53 6 = .ok (.ixor, 1) := by decide +kernel
theorem dJ9_floorDiv_7cf53_7 : decode cJ9_floorDiv_7cf53 7 = .ok (.ifCond .ge 14, 3) := by decide +kernel
theorem dJ9_floorDiv_7cf53_10 : decode cJ9_floorDiv_7cf53 10 = .ok (.iload_n 2, 1) := by decide +kernel
theorem dJ9_floorDiv_7cf53_11 : decode cJ9_floorDiv_7cf53 11 = .ok (.iload_n 1, 1) := by decide +kernel
theorem dJ9_floorDiv_7cf53_12 : decode cJ9_floorDiv_7cf53 12 = .ok (.imul, 1) := by decide +kernel
theorem dJ9_floorDiv_7cf53_13 : decode cJ9_floorDiv_7cf53 13 = .ok (.iload_n 0, 1) := by decide +kernel
theorem dJ9_floorDiv_7cf53_14 : decode cJ9_floorDiv_7cf53 14 = .ok (.if_icmp .eq 7, 3) := by decide +kernel
theorem dJ9_floorDiv_7cf53_17 : decode cJ9_floorDiv_7cf53 17 = .ok (.iload_n 2, 1) := by decide +kernel
theorem dJ9_floorDiv_7cf53_18 : decode cJ9_floorDiv_7cf53 18 = .ok (.iconst 1, 1) := by decide +kernel
theorem dJ9_floorDiv_7cf53_19 : decode cJ9_floorDiv_7cf53 19 = .ok (.isub, 1) := by decide +kernel
theorem dJ9_floorDiv_7cf53_20 : decode cJ9_floorDiv_7cf53 20 = .ok (.ireturn, 1) := by decide +kernel
theorem dJ9_floorDiv_7cf53_21 : decode cJ9_floorDiv_7cf53 21 = .ok (.iload_n 2, 1) := by decide +kernel
theorem dJ9_floorDiv_7cf53_22 : decode cJ9_floorDiv_7cf53 22 = .ok (.ireturn, 1) := by decide +kernel
theorem dJ9_abs_0f7a4_0 : decode cJ9_abs_0f7a4 0 = .ok (.iload_n 0, 1) := by decide +kernel
theorem dJ9_abs_0f7a4_1 : decode cJ9_abs_0f7a4 1 = .ok (.ifCond .ge 8, 3) := by decide +kernel
theorem dJ9_abs_0f7a4_4 : decode cJ9_abs_0f7a4 4 = .ok (.iload_n 0, 1) := by decide +kernel
theorem dJ9_abs_0f7a4_5 : decode cJ9_abs_0f7a4 5 = .ok (.ineg, 1) := by decide +kernel
theorem dJ9_abs_0f7a4_6 : decode cJ9_abs_0f7a4 6 = .ok (.goto 4, 3) := by decide +kernel
theorem dJ9_abs_0f7a4_9 : decode cJ9_abs_0f7a4 9 = .ok (.iload_n 0, 1) := by decide +kernel
theorem dJ9_abs_0f7a4_10 : decode cJ9_abs_0f7a4 10 = .ok (.ireturn, 1) := by decide +kernel
theorem dJ7_fill_53178_0 : decode cJ7_fill_53178 0 = .ok (.iconst 0, 1) := by decide +kernel
theorem dJ7_fill_53178_1 : decode cJ7_fill_53178 1 = .ok (.istore_n 2, 1) := by decide +kernel
theorem dJ7_fill_53178_2 : decode cJ7_fill_53178 2 = .ok (.aload_n 0, 1) := by decide +kernel
theorem dJ7_fill_53178_3 : decode cJ7_fill_53178 3 = .ok (.arraylength, 1) := by decide +kernel
theorem dJ7_fill_53178_4 : decode cJ7_fill_53178 4 = .ok (.istore_n 3, 1) := by decide +kernel
theorem dJ7_fill_53178_5 : decode cJ7_fill_53178 5 = .ok (.iload_n 2, 1) := by decide +kernel
theorem dJ7_fill_53178_6 : decode cJ7_fill_53178 6 = .ok (.iload_n 3, 1) := by decide +kernel
theorem dJ7_fill_53178_7 : decode cJ7_fill_53178 7 = .ok (.if_icmp .ge 13, 3) := by decide +kernel
theorem dJ7_fill_53178_10 : decode cJ7_fill_53178 10 = .ok (.aload_n 0, 1) := by decide +kernel
theorem dJ7_fill_53178_11 : decode cJ7_fill_53178 11 = .ok (.iload_n 2, 1) := by decide +kernel
theorem dJ7_fill_53178_12 : decode cJ7_fill_53178 12 = .ok (.iload_n 1, 1) := by decide +kernel
theorem dJ7_fill_53178_13 : decode cJ7_fill_53178 13 = .ok (.iastore, 1) := by decide +kernel
theorem dJ7_fill_53178_14 : decode cJ7_fill_53178 14 = .ok (.iinc 2 1, 3) := by decide +kernel
theorem dJ7_fill_53178_17 : decode cJ7_fill_53178 17 = .ok (.goto (-12), 3) := by decide +kernel
theorem dJ7_fill_53178_20 : decode cJ7_fill_53178 20 = .ok (.return_, 1) := by decide +kernel
