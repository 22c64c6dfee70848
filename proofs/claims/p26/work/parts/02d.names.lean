theorem dX1_nearestPlace_70 : decode cX1_nearestPlace 70 = .ok (.iinc 4 1, 3) := by decide +kernel
theorem dX1_nearestPlace_73 : decode cX1_nearestPlace 73 = .ok (.goto (-70), 3) := by decide +kernel
theorem dX1_nearestPlace_76 : decode cX1_nearestPlace 76 = .ok (.iconst (-1), 1) := by decide +kernel
theorem dX1_nearestPlace_77 : decode cX1_nearestPlace 77 = .ok (.ireturn, 1) := by decide +kernel
set_option maxRecDepth 20000 in
theorem ggX2_init_J7_fill_53178 : GoodIn wsX2_init wsJ7_fill_53178 := goodIn_r _ [19] (by decide +kernel) (by decide +kernel)
set_option maxRecDepth 20000 in
theorem gX2_init_J7_fill_53178 : GoodIn wsX2_init (va_wsS RX2 28 yJ7_fill_53178 wsJ7_fill_53178) := goodIn_app (goodIn_of _ (by decide +kernel)) ggX2_init_J7_fill_53178
theorem dX2_init_0 : decode cX2_init 0 = .ok (.aload_n 0, 1) := by decide +kernel
theorem dX2_init_1 : decode cX2_init 1 = .ok (.invokespecial 3, 3) := by decide +kernel
theorem dX2_init_4 : decode cX2_init 4 = .ok (.aload_n 0, 1) := by decide +kernel
theorem dX2_init_5 : decode cX2_init 5 = .ok (.iconst 0, 1) := by decide +kernel
theorem dX2_init_6 : decode cX2_init 6 = .ok (.putfield 9, 3) := by decide +kernel
theorem dX2_init_9 : decode cX2_init 9 = .ok (.aload_n 0, 1) := by decide +kernel
theorem dX2_init_10 : decode cX2_init 10 = .ok (.bipush 8, 2) := by decide +kernel
theorem dX2_init_12 : decode cX2_init 12 = .ok (.newarray .int, 2) := by decide +kernel
theorem dX2_init_14 : decode cX2_init 14 = .ok (.putfield 15, 3) := by decide +kernel
theorem dX2_init_17 : decode cX2_init 17 = .ok (.aload_n 0, 1) := by decide +kernel
theorem dX2_init_18 : decode cX2_init 18 = .ok (.bipush 8, 2) := by decide +kernel
theorem dX2_init_20 : decode cX2_init 20 = .ok (.newarray .int, 2) := by decide +kernel
theorem dX2_init_22 : decode cX2_init 22 = .ok (.putfield 19, 3) := by decide +kernel
theorem dX2_init_25 : decode cX2_init 25 = .ok (.aload_n 0, 1) := by decide +kernel
theorem dX2_init_26 : decode cX2_init 26 = .ok (.bipush 8, 2) := by decide +kernel
theorem dX2_init_28 : decode cX2_init 28 = .ok (.newarray .int, 2) := by decide +kernel
theorem dX2_init_30 : decode cX2_init 30 = .ok (.putfield 22, 3) := by decide +kernel
theorem dX2_init_33 : decode cX2_init 33 = .ok (.aload_n 0, 1) := by decide +kernel
theorem dX2_init_34 : decode cX2_init 34 = .ok (.bipush 80, 2) := by decide +kernel
theorem dX2_init_36 : decode cX2_init 36 = .ok (.newarray .int, 2) := by decide +kernel
theorem dX2_init_38 : decode cX2_init 38 = .ok (.putfield 25, 3) := by decide +kernel
theorem dX2_init_41 : decode cX2_init 41 = .ok (.aload_n 0, 1) := by decide +kernel
theorem dX2_init_42 : decode cX2_init 42 = .ok (.getfield 25, 3) := by decide +kernel
theorem dX2_init_45 : decode cX2_init 45 = .ok (.iconst (-1), 1) := by decide +kernel
theorem dX2_init_46 : decode cX2_init 46 = .ok (.invokestatic 28, 3) := by decide +kernel
theorem dX2_init_49 : decode cX2_init 49 = .ok (.aload_n 0, 1) := by decide +kernel
theorem dX2_init_50 : decode cX2_init 50 = .ok (.iconst 0, 1) := by decide +kernel
theorem dX2_init_51 : decode cX2_init 51 = .ok (.putfield 34, 3) := by decide +kernel
theorem dX2_init_54 : decode cX2_init 54 = .ok (.aload_n 0, 1) := by decide +kernel
theorem dX2_init_55 : decode cX2_init 55 = .ok (.iconst (-1), 1) := by decide +kernel
theorem dX2_init_56 : decode cX2_init 56 = .ok (.putfield 37, 3) := by decide +kernel
theorem dX2_init_59 : decode cX2_init 59 = .ok (.aload_n 0, 1) := by decide +kernel
theorem dX2_init_60 : decode cX2_init 60 = .ok (.bipush 8, 2) := by decide +kernel
theorem dX2_init_62 : decode cX2_init 62 = .ok (.newarray .int, 2) := by decide +kernel
theorem dX2_init_64 : decode cX2_init 64 = .ok (.putfield 40, 3) := by decide +kernel
theorem dX2_init_67 : decode cX2_init 67 = .ok (.aload_n 0, 1) := by decide +kernel
theorem dX2_init_68 : decode cX2_init 68 = .ok (.bipush 10, 2) := by decide +kernel
theorem dX2_init_70 : decode cX2_init 70 = .ok (.newarray .int, 2) := by decide +kernel
theorem dX2_init_72 : decode cX2_init 72 = .ok (.putfield 43, 3) := by decide +kernel
theorem dX2_init_75 : decode cX2_init 75 = .ok (.aload_n 0, 1) := by decide +kernel
theorem dX2_init_76 : decode cX2_init 76 = .ok (.getfield 43, 3) := by decide +kernel
theorem dX2_init_79 : decode cX2_init 79 = .ok (.iconst (-1), 1) := by decide +kernel
theorem dX2_init_80 : decode cX2_init 80 = .ok (.invokestatic 28, 3) := by decide +kernel
theorem dX2_init_83 : decode cX2_init 83 = .ok (.aload_n 0, 1) := by decide +kernel
theorem dX2_init_84 : decode cX2_init 84 = .ok (.bipush 10, 2) := by decide +kernel
theorem dX2_init_86 : decode cX2_init 86 = .ok (.newarray .int, 2) := by decide +kernel
theorem dX2_init_88 : decode cX2_init 88 = .ok (.putfield 46, 3) := by decide +kernel
theorem dX2_init_91 : decode cX2_init 91 = .ok (.aload_n 0, 1) := by decide +kernel
theorem dX2_init_92 : decode cX2_init 92 = .ok (.bipush 10, 2) := by decide +kernel
theorem dX2_init_94 : decode cX2_init 94 = .ok (.newarray .int, 2) := by decide +kernel
theorem dX2_init_96 : decode cX2_init 96 = .ok (.putfield 49, 3) := by decide +kernel
theorem dX2_init_99 : decode cX2_init 99 = .ok (.return_, 1) := by decide +kernel
theorem dX2_cell_0 : decode cX2_cell 0 = .ok (.iload_n 0, 1) := by decide +kernel
theorem dX2_cell_1 : decode cX2_cell 1 = .ok (.bipush 10, 2) := by decide +kernel
theorem dX2_cell_3 : decode cX2_cell 3 = .ok (.imul, 1) := by decide +kernel
theorem dX2_cell_4 : decode cX2_cell 4 = .ok (.iload_n 1, 1) := by decide +kernel
theorem dX2_cell_5 : decode cX2_cell 5 = .ok (.iadd, 1) := by decide +kernel
theorem dX2_cell_6 : decode cX2_cell 6 = .ok (.ireturn, 1) := by decide +kernel
theorem dX2_addCue_0 : decode cX2_addCue 0 = .ok (.aload_n 0, 1) := by decide +kernel
theorem dX2_addCue_1 : decode cX2_addCue 1 = .ok (.getfield 9, 3) := by decide +kernel
theorem dX2_addCue_4 : decode cX2_addCue 4 = .ok (.istore 4, 2) := by decide +kernel
theorem dX2_addCue_6 : decode cX2_addCue 6 = .ok (.aload_n 0, 1) := by decide +kernel
theorem dX2_addCue_7 : decode cX2_addCue 7 = .ok (.dup, 1) := by decide +kernel
theorem dX2_addCue_8 : decode cX2_addCue 8 = .ok (.getfield 9, 3) := by decide +kernel
theorem dX2_addCue_11 : decode cX2_addCue 11 = .ok (.iconst 1, 1) := by decide +kernel
theorem dX2_addCue_12 : decode cX2_addCue 12 = .ok (.iadd, 1) := by decide +kernel
theorem dX2_addCue_13 : decode cX2_addCue 13 = .ok (.putfield 9, 3) := by decide +kernel
theorem dX2_addCue_16 : decode cX2_addCue 16 = .ok (.aload_n 0, 1) := by decide +kernel
theorem dX2_addCue_17 : decode cX2_addCue 17 = .ok (.getfield 15, 3) := by decide +kernel
theorem dX2_addCue_20 : decode cX2_addCue 20 = .ok (.iload 4, 2) := by decide +kernel
theorem dX2_addCue_22 : decode cX2_addCue 22 = .ok (.iload_n 1, 1) := by decide +kernel
theorem dX2_addCue_23 : decode cX2_addCue 23 = .ok (.iastore, 1) := by decide +kernel
theorem dX2_addCue_24 : decode cX2_addCue 24 = .ok (.aload_n 0, 1) := by decide +kernel
theorem dX2_addCue_25 : decode cX2_addCue 25 = .ok (.getfield 19, 3) := by decide +kernel
theorem dX2_addCue_28 : decode cX2_addCue 28 = .ok (.iload 4, 2) := by decide +kernel
theorem dX2_addCue_30 : decode cX2_addCue 30 = .ok (.iload_n 2, 1) := by decide +kernel
theorem dX2_addCue_31 : decode cX2_addCue 31 = .ok (.iastore, 1) := by decide +kernel
theorem dX2_addCue_32 : decode cX2_addCue 32 = .ok (.aload_n 0, 1) := by decide +kernel
theorem dX2_addCue_33 : decode cX2_addCue 33 = .ok (.getfield 22, 3) := by decide +kernel
theorem dX2_addCue_36 : decode cX2_addCue 36 = .ok (.iload 4, 2) := by decide +kernel
theorem dX2_addCue_38 : decode cX2_addCue 38 = .ok (.iload_n 3, 1) := by decide +kernel
theorem dX2_addCue_39 : decode cX2_addCue 39 = .ok (.iastore, 1) := by decide +kernel
theorem dX2_addCue_40 : decode cX2_addCue 40 = .ok (.iload 4, 2) := by decide +kernel
theorem dX2_addCue_42 : decode cX2_addCue 42 = .ok (.ireturn, 1) := by decide +kernel
set_option maxRecDepth 20000 in
theorem ggX2_beginNext_X2_begin : GoodIn wsX2_beginNext wsX2_begin := goodIn_r _ [8, 9, 10, 11, 12, 13, 14, 1, 15, 16, 7, 17, 18, 19, 20, 21, 2, 22, 23, 24, 25, 26, 27, 28, 29, 30, 31, 32, 33, 34, 35, 36, 37, 38, 39, 40, 41] (by decide +kernel) (by decide +kernel)
set_option maxRecDepth 20000 in
theorem gX2_beginNext_X2_begin : GoodIn wsX2_beginNext (wsV RX2 52 RX2 yX2_begin wsX2_begin) := goodIn_app (goodIn_of _ (by decide +kernel)) ggX2_beginNext_X2_begin
theorem dX2_beginNext_0 : decode cX2_beginNext 0 = .ok (.aload_n 0, 1) := by decide +kernel
theorem dX2_beginNext_1 : decode cX2_beginNext 1 = .ok (.getfield 37, 3) := by decide +kernel
theorem dX2_beginNext_4 : decode cX2_beginNext 4 = .ok (.istore_n 1, 1) := by decide +kernel
theorem dX2_beginNext_5 : decode cX2_beginNext 5 = .ok (.iload_n 1, 1) := by decide +kernel
theorem dX2_beginNext_6 : decode cX2_beginNext 6 = .ok (.iconst 1, 1) := by decide +kernel
theorem dX2_beginNext_7 : decode cX2_beginNext 7 = .ok (.iadd, 1) := by decide +kernel
theorem dX2_beginNext_8 : decode cX2_beginNext 8 = .ok (.istore_n 2, 1) := by decide +kernel
theorem dX2_beginNext_9 : decode cX2_beginNext 9 = .ok (.iload_n 2, 1) := by decide +kernel
theorem dX2_beginNext_10 : decode cX2_beginNext 10 = .ok (.aload_n 0, 1) := by decide +kernel
theorem dX2_beginNext_11 : decode cX2_beginNext 11 = .ok (.getfield 9, 3) := by decide +kernel
theorem dX2_beginNext_14 : decode cX2_beginNext 14 = .ok (.if_icmp .ge 26, 3) := by decide +kernel
theorem dX2_beginNext_17 : decode cX2_beginNext 17 = .ok (.aload_n 0, 1) := by decide +kernel
theorem dX2_beginNext_18 : decode cX2_beginNext 18 = .ok (.iload_n 2, 1) := by decide +kernel
theorem dX2_beginNext_19 : decode cX2_beginNext 19 = .ok (.invokevirtual 52, 3) := by decide +kernel
theorem dX2_beginNext_22 : decode cX2_beginNext 22 = .ok (.aload_n 0, 1) := by decide +kernel
theorem dX2_beginNext_23 : decode cX2_beginNext 23 = .ok (.getfield 22, 3) := by decide +kernel
theorem dX2_beginNext_26 : decode cX2_beginNext 26 = .ok (.iload_n 2, 1) := by decide +kernel
theorem dX2_beginNext_27 : decode cX2_beginNext 27 = .ok (.iaload, 1) := by decide +kernel
theorem dX2_beginNext_28 : decode cX2_beginNext 28 = .ok (.ifCond .eq 6, 3) := by decide +kernel
theorem dX2_beginNext_31 : decode cX2_beginNext 31 = .ok (.goto 9, 3) := by decide +kernel
theorem dX2_beginNext_34 : decode cX2_beginNext 34 = .ok (.iinc 2 1, 3) := by decide +kernel
theorem dX2_beginNext_37 : decode cX2_beginNext 37 = .ok (.goto (-28), 3) := by decide +kernel
theorem dX2_beginNext_40 : decode cX2_beginNext 40 = .ok (.aload_n 0, 1) := by decide +kernel
theorem dX2_beginNext_41 : decode cX2_beginNext 41 = .ok (.getfield 37, 3) := by decide +kernel
theorem dX2_beginNext_44 : decode cX2_beginNext 44 = .ok (.iload_n 1, 1) := by decide +kernel
theorem dX2_beginNext_45 : decode cX2_beginNext 45 = .ok (.isub, 1) := by decide +kernel
theorem dX2_beginNext_46 : decode cX2_beginNext 46 = .ok (.ireturn, 1) := by decide +kernel
set_option maxRecDepth 20000 in
theorem ggX2_begin_X2_cell : GoodIn wsX2_begin wsX2_cell := goodIn_r _ [11] (by decide +kernel) (by decide +kernel)
set_option maxRecDepth 20000 in
theorem gX2_begin_X2_cell : GoodIn wsX2_begin (va_wsS RX2 56 yX2_cell wsX2_cell) := goodIn_app (goodIn_of _ (by decide +kernel)) ggX2_begin_X2_cell
set_option maxRecDepth 20000 in
theorem ggX2_begin_X2_wantedLevel : GoodIn wsX2_begin wsX2_wantedLevel := goodIn_r _ [15, 4, 16, 6, 5, 17, 3, 2, 18, 19, 20, 10, 21, 22, 23, 24, 25, 26, 27, 28, 29, 30, 31, 32, 33, 34, 35, 36] (by decide +kernel) (by decide +kernel)
set_option maxRecDepth 20000 in
theorem gX2_begin_X2_wantedLevel : GoodIn wsX2_begin (wsV RX2 60 RX2 yX2_wantedLevel wsX2_wantedLevel) := goodIn_app (goodIn_of _ (by decide +kernel)) ggX2_begin_X2_wantedLevel
theorem dX2_begin_0 : decode cX2_begin 0 = .ok (.iconst 0, 1) := by decide +kernel
theorem dX2_begin_1 : decode cX2_begin 1 = .ok (.istore_n 2, 1) := by decide +kernel
theorem dX2_begin_2 : decode cX2_begin 2 = .ok (.iload_n 2, 1) := by decide +kernel
theorem dX2_begin_3 : decode cX2_begin 3 = .ok (.bipush 10, 2) := by decide +kernel
theorem dX2_begin_5 : decode cX2_begin 5 = .ok (.if_icmp .ge 50, 3) := by decide +kernel
theorem dX2_begin_8 : decode cX2_begin 8 = .ok (.aload_n 0, 1) := by decide +kernel
theorem dX2_begin_9 : decode cX2_begin 9 = .ok (.getfield 25, 3) := by decide +kernel
theorem dX2_begin_12 : decode cX2_begin 12 = .ok (.iload_n 1, 1) := by decide +kernel
theorem dX2_begin_13 : decode cX2_begin 13 = .ok (.iload_n 2, 1) := by decide +kernel
theorem dX2_begin_14 : decode cX2_begin 14 = .ok (.invokestatic 56, 3) := by decide +kernel
theorem dX2_begin_17 : decode cX2_begin 17 = .ok (.iaload, 1) := by decide +kernel
theorem dX2_begin_18 : decode cX2_begin 18 = .ok (.istore_n 3, 1) := by decide +kernel
theorem dX2_begin_19 : decode cX2_begin 19 = .ok (.iload_n 3, 1) := by decide +kernel
theorem dX2_begin_20 : decode cX2_begin 20 = .ok (.iconst (-1), 1) := by decide +kernel
theorem dX2_begin_21 : decode cX2_begin 21 = .ok (.if_icmp .eq 28, 3) := by decide +kernel
theorem dX2_begin_24 : decode cX2_begin 24 = .ok (.aload_n 0, 1) := by decide +kernel
theorem dX2_begin_25 : decode cX2_begin 25 = .ok (.getfield 46, 3) := by decide +kernel
theorem dX2_begin_28 : decode cX2_begin 28 = .ok (.iload_n 2, 1) := by decide +kernel
theorem dX2_begin_29 : decode cX2_begin 29 = .ok (.aload_n 0, 1) := by decide +kernel
theorem dX2_begin_30 : decode cX2_begin 30 = .ok (.iload_n 2, 1) := by decide +kernel
theorem dX2_begin_31 : decode cX2_begin 31 = .ok (.invokevirtual 60, 3) := by decide +kernel
theorem dX2_begin_34 : decode cX2_begin 34 = .ok (.iastore, 1) := by decide +kernel
theorem dX2_begin_35 : decode cX2_begin 35 = .ok (.aload_n 0, 1) := by decide +kernel
theorem dX2_begin_36 : decode cX2_begin 36 = .ok (.getfield 49, 3) := by decide +kernel
theorem dX2_begin_39 : decode cX2_begin 39 = .ok (.iload_n 2, 1) := by decide +kernel
theorem dX2_begin_40 : decode cX2_begin 40 = .ok (.iload_n 3, 1) := by decide +kernel
theorem dX2_begin_41 : decode cX2_begin 41 = .ok (.iastore, 1) := by decide +kernel
theorem dX2_begin_42 : decode cX2_begin 42 = .ok (.aload_n 0, 1) := by decide +kernel
theorem dX2_begin_43 : decode cX2_begin 43 = .ok (.getfield 43, 3) := by decide +kernel
theorem dX2_begin_46 : decode cX2_begin 46 = .ok (.iload_n 2, 1) := by decide +kernel
theorem dX2_begin_47 : decode cX2_begin 47 = .ok (.iload_n 1, 1) := by decide +kernel
theorem dX2_begin_48 : decode cX2_begin 48 = .ok (.iastore, 1) := by decide +kernel
theorem dX2_begin_49 : decode cX2_begin 49 = .ok (.iinc 2 1, 3) := by decide +kernel
theorem dX2_begin_52 : decode cX2_begin 52 = .ok (.goto (-50), 3) := by decide +kernel
theorem dX2_begin_55 : decode cX2_begin 55 = .ok (.aload_n 0, 1) := by decide +kernel
theorem dX2_begin_56 : decode cX2_begin 56 = .ok (.getfield 40, 3) := by decide +kernel
theorem dX2_begin_59 : decode cX2_begin 59 = .ok (.iload_n 1, 1) := by decide +kernel
theorem dX2_begin_60 : decode cX2_begin 60 = .ok (.aload_n 0, 1) := by decide +kernel
theorem dX2_begin_61 : decode cX2_begin 61 = .ok (.getfield 34, 3) := by decide +kernel
theorem dX2_begin_64 : decode cX2_begin 64 = .ok (.iastore, 1) := by decide +kernel
theorem dX2_begin_65 : decode cX2_begin 65 = .ok (.aload_n 0, 1) := by decide +kernel
theorem dX2_begin_66 : decode cX2_begin 66 = .ok (.iload_n 1, 1) := by decide +kernel
theorem dX2_begin_67 : decode cX2_begin 67 = .ok (.putfield 37, 3) := by decide +kernel
theorem dX2_begin_70 : decode cX2_begin 70 = .ok (.return_, 1) := by decide +kernel
set_option maxRecDepth 20000 in
theorem ggX2_advance_X2_beginNext : GoodIn wsX2_advance wsX2_beginNext := goodIn_r _ [10, 2, 3, 4, 11, 12, 13, 9, 14, 15, 16, 17, 18, 5, 1, 19, 20, 21, 22, 23, 24, 25, 26, 27, 28, 29, 30, 31, 32, 33, 34, 35, 36, 37, 38, 39, 40, 41, 42, 43, 44, 45] (by decide +kernel) (by decide +kernel)
set_option maxRecDepth 20000 in
theorem gX2_advance_X2_beginNext : GoodIn wsX2_advance (wsV RX2 64 RX2 yX2_beginNext wsX2_beginNext) := goodIn_app (goodIn_of _ (by decide +kernel)) ggX2_advance_X2_beginNext
theorem dX2_advance_0 : decode cX2_advance 0 = .ok (.aload_n 0, 1) := by decide +kernel
theorem dX2_advance_1 : decode cX2_advance 1 = .ok (.dup, 1) := by decide +kernel
theorem dX2_advance_2 : decode cX2_advance 2 = .ok (.getfield 34, 3) := by decide +kernel
theorem dX2_advance_5 : decode cX2_advance 5 = .ok (.iconst 1, 1) := by decide +kernel
theorem dX2_advance_6 : decode cX2_advance 6 = .ok (.iadd, 1) := by decide +kernel
theorem dX2_advance_7 : decode cX2_advance 7 = .ok (.putfield 34, 3) := by decide +kernel
theorem dX2_advance_10 : decode cX2_advance 10 = .ok (.aload_n 0, 1) := by decide +kernel
theorem dX2_advance_11 : decode cX2_advance 11 = .ok (.getfield 37, 3) := by decide +kernel
theorem dX2_advance_14 : decode cX2_advance 14 = .ok (.ifCond .lt 26, 3) := by decide +kernel
theorem dX2_advance_17 : decode cX2_advance 17 = .ok (.aload_n 0, 1) := by decide +kernel
theorem dX2_advance_18 : decode cX2_advance 18 = .ok (.getfield 37, 3) := by decide +kernel
theorem dX2_advance_21 : decode cX2_advance 21 = .ok (.aload_n 0, 1) := by decide +kernel
theorem dX2_advance_22 : decode cX2_advance 22 = .ok (.getfield 9, 3) := by decide +kernel
theorem dX2_advance_25 : decode cX2_advance 25 = .ok (.if_icmp .ge 15, 3) := by decide +kernel
theorem dX2_advance_28 : decode cX2_advance 28 = .ok (.aload_n 0, 1) := by decide +kernel
theorem dX2_advance_29 : decode cX2_advance 29 = .ok (.getfield 22, 3) := by decide +kernel
theorem dX2_advance_32 : decode cX2_advance 32 = .ok (.aload_n 0, 1) := by decide +kernel
theorem dX2_advance_33 : decode cX2_advance 33 = .ok (.getfield 37, 3) := by decide +kernel
theorem dX2_advance_36 : decode cX2_advance 36 = .ok (.iaload, 1) := by decide +kernel
theorem dX2_advance_37 : decode cX2_advance 37 = .ok (.ifCond .gt 5, 3) := by decide +kernel
theorem dX2_advance_40 : decode cX2_advance 40 = .ok (.iconst 0, 1) := by decide +kernel
theorem dX2_advance_41 : decode cX2_advance 41 = .ok (.ireturn, 1) := by decide +kernel
theorem dX2_advance_42 : decode cX2_advance 42 = .ok (.aload_n 0, 1) := by decide +kernel
theorem dX2_advance_43 : decode cX2_advance 43 = .ok (.getfield 34, 3) := by decide +kernel
theorem dX2_advance_46 : decode cX2_advance 46 = .ok (.aload_n 0, 1) := by decide +kernel
theorem dX2_advance_47 : decode cX2_advance 47 = .ok (.getfield 40, 3) := by decide +kernel
theorem dX2_advance_50 : decode cX2_advance 50 = .ok (.aload_n 0, 1) := by decide +kernel
theorem dX2_advance_51 : decode cX2_advance 51 = .ok (.getfield 37, 3) := by decide +kernel
theorem dX2_advance_54 : decode cX2_advance 54 = .ok (.iaload, 1) := by decide +kernel
theorem dX2_advance_55 : decode cX2_advance 55 = .ok (.isub, 1) := by decide +kernel
theorem dX2_advance_56 : decode cX2_advance 56 = .ok (.aload_n 0, 1) := by decide +kernel
theorem dX2_advance_57 : decode cX2_advance 57 = .ok (.getfield 22, 3) := by decide +kernel
theorem dX2_advance_60 : decode cX2_advance 60 = .ok (.aload_n 0, 1) := by decide +kernel
theorem dX2_advance_61 : decode cX2_advance 61 = .ok (.getfield 37, 3) := by decide +kernel
theorem dX2_advance_64 : decode cX2_advance 64 = .ok (.iaload, 1) := by decide +kernel
theorem dX2_advance_65 : decode cX2_advance 65 = .ok (.if_icmp .ne 10, 3) := by decide +kernel
theorem dX2_advance_68 : decode cX2_advance 68 = .ok (.aload_n 0, 1) := by decide +kernel
theorem dX2_advance_69 : decode cX2_advance 69 = .ok (.invokevirtual 64, 3) := by decide +kernel
theorem dX2_advance_72 : decode cX2_advance 72 = .ok (.goto 4, 3) := by decide +kernel
theorem dX2_advance_75 : decode cX2_advance 75 = .ok (.iconst 0, 1) := by decide +kernel
theorem dX2_advance_76 : decode cX2_advance 76 = .ok (.ireturn, 1) := by decide +kernel
set_option maxRecDepth 20000 in
theorem ggX2_reset_J7_fill_53178 : GoodIn wsX2_reset wsJ7_fill_53178 := goodIn_r _ [6] (by decide +kernel) (by decide +kernel)
set_option maxRecDepth 20000 in
theorem gX2_reset_J7_fill_53178 : GoodIn wsX2_reset (va_wsS RX2 28 yJ7_fill_53178 wsJ7_fill_53178) := goodIn_app (goodIn_of _ (by decide +kernel)) ggX2_reset_J7_fill_53178
theorem dX2_reset_0 : decode cX2_reset 0 = .ok (.aload_n 0, 1) := by decide +kernel
theorem dX2_reset_1 : decode cX2_reset 1 = .ok (.getfield 37, 3) := by decide +kernel
theorem dX2_reset_4 : decode cX2_reset 4 = .ok (.iconst 1, 1) := by decide +kernel
theorem dX2_reset_5 : decode cX2_reset 5 = .ok (.iadd, 1) := by decide +kernel
theorem dX2_reset_6 : decode cX2_reset 6 = .ok (.istore_n 1, 1) := by decide +kernel
theorem dX2_reset_7 : decode cX2_reset 7 = .ok (.aload_n 0, 1) := by decide +kernel
theorem dX2_reset_8 : decode cX2_reset 8 = .ok (.iconst (-1), 1) := by decide +kernel
theorem dX2_reset_9 : decode cX2_reset 9 = .ok (.putfield 37, 3) := by decide +kernel
theorem dX2_reset_12 : decode cX2_reset 12 = .ok (.aload_n 0, 1) := by decide +kernel
theorem dX2_reset_13 : decode cX2_reset 13 = .ok (.getfield 43, 3) := by decide +kernel
theorem dX2_reset_16 : decode cX2_reset 16 = .ok (.iconst (-1), 1) := by decide +kernel
theorem dX2_reset_17 : decode cX2_reset 17 = .ok (.invokestatic 28, 3) := by decide +kernel
theorem dX2_reset_20 : decode cX2_reset 20 = .ok (.iload_n 1, 1) := by decide +kernel
theorem dX2_reset_21 : decode cX2_reset 21 = .ok (.ireturn, 1) := by decide +kernel
set_option maxRecDepth 20000 in
theorem ggX2_wantedLevel_X2_gained : GoodIn wsX2_wantedLevel wsX2_gained := goodIn_r _ [12, 13, 14, 15, 16] (by decide +kernel) (by decide +kernel)
set_option maxRecDepth 20000 in
theorem gX2_wantedLevel_X2_gained : GoodIn wsX2_wantedLevel (va_wsS RX2 68 yX2_gained wsX2_gained) := goodIn_app (goodIn_of _ (by decide +kernel)) ggX2_wantedLevel_X2_gained
theorem dX2_wantedLevel_0 : decode cX2_wantedLevel 0 = .ok (.aload_n 0, 1) := by decide +kernel
theorem dX2_wantedLevel_1 : decode cX2_wantedLevel 1 = .ok (.getfield 43, 3) := by decide +kernel
theorem dX2_wantedLevel_4 : decode cX2_wantedLevel 4 = .ok (.iload_n 1, 1) := by decide +kernel
theorem dX2_wantedLevel_5 : decode cX2_wantedLevel 5 = .ok (.iaload, 1) := by decide +kernel
theorem dX2_wantedLevel_6 : decode cX2_wantedLevel 6 = .ok (.istore_n 2, 1) := by decide +kernel
theorem dX2_wantedLevel_7 : decode cX2_wantedLevel 7 = .ok (.iload_n 2, 1) := by decide +kernel
theorem dX2_wantedLevel_8 : decode cX2_wantedLevel 8 = .ok (.ifCond .lt 11, 3) := by decide +kernel
theorem dX2_wantedLevel_11 : decode cX2_wantedLevel 11 = .ok (.iload_n 2, 1) := by decide +kernel
theorem dX2_wantedLevel_12 : decode cX2_wantedLevel 12 = .ok (.aload_n 0, 1) := by decide +kernel
theorem dX2_wantedLevel_13 : decode cX2_wantedLevel 13 = .ok (.getfield 9, 3) := by decide +kernel
theorem dX2_wantedLevel_16 : decode cX2_wantedLevel 16 = .ok (.if_icmp .lt 5, 3) := by decide +kernel
theorem dX2_wantedLevel_19 : decode cX2_wantedLevel 19 = .ok (.iconst 0, 1) := by decide +kernel
theorem dX2_wantedLevel_20 : decode cX2_wantedLevel 20 = .ok (.ireturn, 1) := by decide +kernel
theorem dX2_wantedLevel_21 : decode cX2_wantedLevel 21 = .ok (.aload_n 0, 1) := by decide +kernel
theorem dX2_wantedLevel_22 : decode cX2_wantedLevel 22 = .ok (.getfield 34, 3) := by decide +kernel
theorem dX2_wantedLevel_25 : decode cX2_wantedLevel 25 = .ok (.aload_n 0, 1) := by decide +kernel
theorem dX2_wantedLevel_26 : decode cX2_wantedLevel 26 = .ok (.getfield 40, 3) := by decide +kernel
theorem dX2_wantedLevel_29 : decode cX2_wantedLevel 29 = .ok (.iload_n 2, 1) := by decide +kernel
theorem dX2_wantedLevel_30 : decode cX2_wantedLevel 30 = .ok (.iaload, 1) := by decide +kernel
theorem dX2_wantedLevel_31 : decode cX2_wantedLevel 31 = .ok (.isub, 1) := by decide +kernel
theorem dX2_wantedLevel_32 : decode cX2_wantedLevel 32 = .ok (.istore_n 3, 1) := by decide +kernel
theorem dX2_wantedLevel_33 : decode cX2_wantedLevel 33 = .ok (.aload_n 0, 1) := by decide +kernel
theorem dX2_wantedLevel_34 : decode cX2_wantedLevel 34 = .ok (.getfield 15, 3) := by decide +kernel
theorem dX2_wantedLevel_37 : decode cX2_wantedLevel 37 = .ok (.iload_n 2, 1) := by decide +kernel
theorem dX2_wantedLevel_38 : decode cX2_wantedLevel 38 = .ok (.iaload, 1) := by decide +kernel
theorem dX2_wantedLevel_39 : decode cX2_wantedLevel 39 = .ok (.istore 4, 2) := by decide +kernel
theorem dX2_wantedLevel_41 : decode cX2_wantedLevel 41 = .ok (.iload 4, 2) := by decide +kernel
theorem dX2_wantedLevel_43 : decode cX2_wantedLevel 43 = .ok (.ifCond .le 9, 3) := by decide +kernel
theorem dX2_wantedLevel_46 : decode cX2_wantedLevel 46 = .ok (.iload_n 3, 1) := by decide +kernel
theorem dX2_wantedLevel_47 : decode cX2_wantedLevel 47 = .ok (.iload 4, 2) := by decide +kernel
theorem dX2_wantedLevel_49 : decode cX2_wantedLevel 49 = .ok (.if_icmp .lt 10, 3) := by decide +kernel
theorem dX2_wantedLevel_52 : decode cX2_wantedLevel 52 = .ok (.aload_n 0, 1) := by decide +kernel
theorem dX2_wantedLevel_53 : decode cX2_wantedLevel 53 = .ok (.getfield 49, 3) := by decide +kernel
theorem dX2_wantedLevel_56 : decode cX2_wantedLevel 56 = .ok (.iload_n 1, 1) := by decide +kernel
theorem dX2_wantedLevel_57 : decode cX2_wantedLevel 57 = .ok (.iaload, 1) := by decide +kernel
theorem dX2_wantedLevel_58 : decode cX2_wantedLevel 58 = .ok (.ireturn, 1) := by decide +kernel
theorem dX2_wantedLevel_59 : decode cX2_wantedLevel 59 = .ok (.aload_n 0, 1) := by decide +kernel
theorem dX2_wantedLevel_60 : decode cX2_wantedLevel 60 = .ok (.getfield 46, 3) := by decide +kernel
theorem dX2_wantedLevel_63 : decode cX2_wantedLevel 63 = .ok (.iload_n 1, 1) := by decide +kernel
theorem dX2_wantedLevel_64 : decode cX2_wantedLevel 64 = .ok (.iaload, 1) := by decide +kernel
theorem dX2_wantedLevel_65 : decode cX2_wantedLevel 65 = .ok (.aload_n 0, 1) := by decide +kernel
theorem dX2_wantedLevel_66 : decode cX2_wantedLevel 66 = .ok (.getfield 49, 3) := by decide +kernel
theorem dX2_wantedLevel_69 : decode cX2_wantedLevel 69 = .ok (.iload_n 1, 1) := by decide +kernel
theorem dX2_wantedLevel_70 : decode cX2_wantedLevel 70 = .ok (.iaload, 1) := by decide +kernel
theorem dX2_wantedLevel_71 : decode cX2_wantedLevel 71 = .ok (.aload_n 0, 1) := by decide +kernel
theorem dX2_wantedLevel_72 : decode cX2_wantedLevel 72 = .ok (.getfield 46, 3) := by decide +kernel
theorem dX2_wantedLevel_75 : decode cX2_wantedLevel 75 = .ok (.iload_n 1, 1) := by decide +kernel
theorem dX2_wantedLevel_76 : decode cX2_wantedLevel 76 = .ok (.iaload, 1) := by decide +kernel
theorem dX2_wantedLevel_77 : decode cX2_wantedLevel 77 = .ok (.isub, 1) := by decide +kernel
theorem dX2_wantedLevel_78 : decode cX2_wantedLevel 78 = .ok (.iload_n 3, 1) := by decide +kernel
theorem dX2_wantedLevel_79 : decode cX2_wantedLevel 79 = .ok (.iload 4, 2) := by decide +kernel
theorem dX2_wantedLevel_81 : decode cX2_wantedLevel 81 = .ok (.aload_n 0, 1) := by decide +kernel
theorem dX2_wantedLevel_82 : decode cX2_wantedLevel 82 = .ok (.getfield 19, 3) := by decide +kernel
theorem dX2_wantedLevel_85 : decode cX2_wantedLevel 85 = .ok (.iload_n 2, 1) := by decide +kernel
theorem dX2_wantedLevel_86 : decode cX2_wantedLevel 86 = .ok (.iaload, 1) := by decide +kernel
theorem dX2_wantedLevel_87 : decode cX2_wantedLevel 87 = .ok (.invokestatic 68, 3) := by decide +kernel
theorem dX2_wantedLevel_90 : decode cX2_wantedLevel 90 = .ok (.iadd, 1) := by decide +kernel
theorem dX2_wantedLevel_91 : decode cX2_wantedLevel 91 = .ok (.ireturn, 1) := by decide +kernel
set_option maxRecDepth 20000 in
theorem ggX2_gained_J9_floorDiv_7cf53 : GoodIn wsX2_gained wsJ9_floorDiv_7cf53 := goodIn_r _ [4] (by decide +kernel) (by decide +kernel)
set_option maxRecDepth 20000 in
theorem gX2_gained_J9_floorDiv_7cf53 : GoodIn wsX2_gained (va_wsS RX2 72 yJ9_floorDiv_7cf53 wsJ9_floorDiv_7cf53) := goodIn_app (goodIn_of _ (by decide +kernel)) ggX2_gained_J9_floorDiv_7cf53
theorem dX2_gained_0 : decode cX2_gained 0 = .ok (.iload_n 3, 1) := by decide +kernel
theorem dX2_gained_1 : decode cX2_gained 1 = .ok (.iconst 2, 1) := by decide +kernel
theorem dX2_gained_2 : decode cX2_gained 2 = .ok (.if_icmp .eq 7, 3) := by decide +kernel
theorem dX2_gained_5 : decode cX2_gained 5 = .ok (.iload_n 2, 1) := by decide +kernel
theorem dX2_gained_6 : decode cX2_gained 6 = .ok (.ifCond .gt 5, 3) := by decide +kernel
theorem dX2_gained_9 : decode cX2_gained 9 = .ok (.iconst 0, 1) := by decide +kernel
theorem dX2_gained_10 : decode cX2_gained 10 = .ok (.ireturn, 1) := by decide +kernel
theorem dX2_gained_11 : decode cX2_gained 11 = .ok (.iload_n 3, 1) := by decide +kernel
theorem dX2_gained_12 : decode cX2_gained 12 = .ok (.iconst 1, 1) := by decide +kernel
theorem dX2_gained_13 : decode cX2_gained 13 = .ok (.if_icmp .ne 15, 3) := by decide +kernel
theorem dX2_gained_16 : decode cX2_gained 16 = .ok (.iload_n 0, 1) := by decide +kernel
theorem dX2_gained_17 : decode cX2_gained 17 = .ok (.iload_n 1, 1) := by decide +kernel
theorem dX2_gained_18 : decode cX2_gained 18 = .ok (.imul, 1) := by decide +kernel
theorem dX2_gained_19 : decode cX2_gained 19 = .ok (.iload_n 1, 1) := by decide +kernel
theorem dX2_gained_20 : decode cX2_gained 20 = .ok (.imul, 1) := by decide +kernel
theorem dX2_gained_21 : decode cX2_gained 21 = .ok (.iload_n 2, 1) := by decide +kernel
theorem dX2_gained_22 : decode cX2_gained 22 = .ok (.iload_n 2, 1) := by decide +kernel
theorem dX2_gained_23 : decode cX2_gained 23 = .ok (.imul, 1) := by decide +kernel
theorem dX2_gained_24 : decode cX2_gained 24 = .ok (.invokestatic 72, 3) := by decide +kernel
theorem dX2_gained_27 : decode cX2_gained 27 = .ok (.ireturn, 1) := by decide +kernel
theorem dX2_gained_28 : decode cX2_gained 28 = .ok (.iload_n 0, 1) := by decide +kernel
theorem dX2_gained_29 : decode cX2_gained 29 = .ok (.iload_n 1, 1) := by decide +kernel
theorem dX2_gained_30 : decode cX2_gained 30 = .ok (.imul, 1) := by decide +kernel
theorem dX2_gained_31 : decode cX2_gained 31 = .ok (.iload_n 2, 1) := by decide +kernel
theorem dX2_gained_32 : decode cX2_gained 32 = .ok (.invokestatic 72, 3) := by decide +kernel
theorem dX2_gained_35 : decode cX2_gained 35 = .ok (.ireturn, 1) := by decide +kernel
set_option maxRecDepth 20000 in
theorem ggX2_handOver_X2_cell : GoodIn wsX2_handOver wsX2_cell := goodIn_r _ [6] (by decide +kernel) (by decide +kernel)
set_option maxRecDepth 20000 in
theorem gX2_handOver_X2_cell : GoodIn wsX2_handOver (va_wsS RX2 56 yX2_cell wsX2_cell) := goodIn_app (goodIn_of _ (by decide +kernel)) ggX2_handOver_X2_cell
theorem dX2_handOver_0 : decode cX2_handOver 0 = .ok (.iconst 0, 1) := by decide +kernel
theorem dX2_handOver_1 : decode cX2_handOver 1 = .ok (.istore_n 3, 1) := by decide +kernel
theorem dX2_handOver_2 : decode cX2_handOver 2 = .ok (.iconst 0, 1) := by decide +kernel
theorem dX2_handOver_3 : decode cX2_handOver 3 = .ok (.istore 4, 2) := by decide +kernel
theorem dX2_handOver_5 : decode cX2_handOver 5 = .ok (.iload 4, 2) := by decide +kernel
theorem dX2_handOver_7 : decode cX2_handOver 7 = .ok (.aload_n 0, 1) := by decide +kernel
theorem dX2_handOver_8 : decode cX2_handOver 8 = .ok (.getfield 9, 3) := by decide +kernel
theorem dX2_handOver_11 : decode cX2_handOver 11 = .ok (.if_icmp .ge 56, 3) := by decide +kernel
theorem dX2_handOver_14 : decode cX2_handOver 14 = .ok (.aload_n 0, 1) := by decide +kernel
theorem dX2_handOver_15 : decode cX2_handOver 15 = .ok (.getfield 25, 3) := by decide +kernel
theorem dX2_handOver_18 : decode cX2_handOver 18 = .ok (.iload 4, 2) := by decide +kernel
theorem dX2_handOver_20 : decode cX2_handOver 20 = .ok (.iload_n 1, 1) := by decide +kernel
theorem dX2_handOver_21 : decode cX2_handOver 21 = .ok (.invokestatic 56, 3) := by decide +kernel
theorem dX2_handOver_24 : decode cX2_handOver 24 = .ok (.iaload, 1) := by decide +kernel
theorem dX2_handOver_25 : decode cX2_handOver 25 = .ok (.istore 5, 2) := by decide +kernel
theorem dX2_handOver_27 : decode cX2_handOver 27 = .ok (.iload 5, 2) := by decide +kernel
theorem dX2_handOver_29 : decode cX2_handOver 29 = .ok (.iconst (-1), 1) := by decide +kernel
theorem dX2_handOver_30 : decode cX2_handOver 30 = .ok (.if_icmp .eq 31, 3) := by decide +kernel
theorem dX2_handOver_33 : decode cX2_handOver 33 = .ok (.aload_n 0, 1) := by decide +kernel
theorem dX2_handOver_34 : decode cX2_handOver 34 = .ok (.getfield 25, 3) := by decide +kernel
theorem dX2_handOver_37 : decode cX2_handOver 37 = .ok (.iload 4, 2) := by decide +kernel
theorem dX2_handOver_39 : decode cX2_handOver 39 = .ok (.iload_n 2, 1) := by decide +kernel
theorem dX2_handOver_40 : decode cX2_handOver 40 = .ok (.invokestatic 56, 3) := by decide +kernel
theorem dX2_handOver_43 : decode cX2_handOver 43 = .ok (.iload 5, 2) := by decide +kernel
theorem dX2_handOver_45 : decode cX2_handOver 45 = .ok (.iastore, 1) := by decide +kernel
theorem dX2_handOver_46 : decode cX2_handOver 46 = .ok (.aload_n 0, 1) := by decide +kernel
theorem dX2_handOver_47 : decode cX2_handOver 47 = .ok (.getfield 25, 3) := by decide +kernel
theorem dX2_handOver_50 : decode cX2_handOver 50 = .ok (.iload 4, 2) := by decide +kernel
theorem dX2_handOver_52 : decode cX2_handOver 52 = .ok (.iload_n 1, 1) := by decide +kernel
theorem dX2_handOver_53 : decode cX2_handOver 53 = .ok (.invokestatic 56, 3) := by decide +kernel
theorem dX2_handOver_56 : decode cX2_handOver 56 = .ok (.iconst (-1), 1) := by decide +kernel
theorem dX2_handOver_57 : decode cX2_handOver 57 = .ok (.iastore, 1) := by decide +kernel
theorem dX2_handOver_58 : decode cX2_handOver 58 = .ok (.iinc 3 1, 3) := by decide +kernel
theorem dX2_handOver_61 : decode cX2_handOver 61 = .ok (.iinc 4 1, 3) := by decide +kernel
theorem dX2_handOver_64 : decode cX2_handOver 64 = .ok (.goto (-59), 3) := by decide +kernel
theorem dX2_handOver_67 : decode cX2_handOver 67 = .ok (.iload_n 3, 1) := by decide +kernel
theorem dX2_handOver_68 : decode cX2_handOver 68 = .ok (.ireturn, 1) := by decide +kernel
set_option maxRecDepth 20000 in
theorem ggX3_init_X1_init : GoodIn wsX3_init wsX1_init := goodIn_r _ [23, 24, 2, 3, 25, 5, 26, 27, 28, 29, 30, 31, 32, 33, 34, 35, 36, 67, 68, 69, 70, 71, 72, 73, 74] (by decide +kernel) (by decide +kernel)
set_option maxRecDepth 20000 in
theorem gX3_init_X1_init_n26 : GoodIn wsX3_init (wsX1_init) := ggX3_init_X1_init
set_option maxRecDepth 20000 in
theorem ggX3_init_X0_init : GoodIn wsX3_init wsX0_init := goodIn_r _ [38, 39, 2, 3, 5, 40, 41, 42, 43, 44, 34, 35, 36, 75, 76, 77, 78] (by decide +kernel) (by decide +kernel)
set_option maxRecDepth 20000 in
theorem gX3_init_X0_init_n33 : GoodIn wsX3_init (wsX0_init) := ggX3_init_X0_init
set_option maxRecDepth 20000 in
theorem ggX3_init_X2_init : GoodIn wsX3_init wsX2_init := goodIn_r _ [46, 47, 2, 3, 48, 5, 49, 50, 51, 52, 53, 54, 55, 56, 57, 58, 59, 34, 35, 36, 79, 80, 81, 82, 83, 84, 85, 86, 87, 88, 89] (by decide +kernel) (by decide +kernel)
set_option maxRecDepth 20000 in
theorem gX3_init_X2_init_n40 : GoodIn wsX3_init (wsX2_init) := ggX3_init_X2_init
theorem dX3_init_0 : decode cX3_init 0 = .ok (.aload_n 0, 1) := by decide +kernel
theorem dX3_init_1 : decode cX3_init 1 = .ok (.invokespecial 1, 3) := by decide +kernel
theorem dX3_init_4 : decode cX3_init 4 = .ok (.aload_n 0, 1) := by decide +kernel
theorem dX3_init_5 : decode cX3_init 5 = .ok (.iconst 0, 1) := by decide +kernel
theorem dX3_init_6 : decode cX3_init 6 = .ok (.putfield 7, 3) := by decide +kernel
theorem dX3_init_9 : decode cX3_init 9 = .ok (.aload_n 0, 1) := by decide +kernel
theorem dX3_init_10 : decode cX3_init 10 = .ok (.bipush 10, 2) := by decide +kernel
theorem dX3_init_12 : decode cX3_init 12 = .ok (.newarray .int, 2) := by decide +kernel
theorem dX3_init_14 : decode cX3_init 14 = .ok (.putfield 13, 3) := by decide +kernel
theorem dX3_init_17 : decode cX3_init 17 = .ok (.aload_n 0, 1) := by decide +kernel
theorem dX3_init_18 : decode cX3_init 18 = .ok (.bipush 10, 2) := by decide +kernel
theorem dX3_init_20 : decode cX3_init 20 = .ok (.newarray .int, 2) := by decide +kernel
theorem dX3_init_22 : decode cX3_init 22 = .ok (.putfield 17, 3) := by decide +kernel
theorem dX3_init_25 : decode cX3_init 25 = .ok (.aload_n 0, 1) := by decide +kernel
theorem dX3_init_26 : decode cX3_init 26 = .ok (.bipush 10, 2) := by decide +kernel
theorem dX3_init_28 : decode cX3_init 28 = .ok (.newarray .boolean, 2) := by decide +kernel
theorem dX3_init_30 : decode cX3_init 30 = .ok (.putfield 20, 3) := by decide +kernel
theorem dX3_init_33 : decode cX3_init 33 = .ok (.aload_n 0, 1) := by decide +kernel
theorem dX3_init_34 : decode cX3_init 34 = .ok (.new 24, 3) := by decide +kernel
theorem dX3_init_37 : decode cX3_init 37 = .ok (.dup, 1) := by decide +kernel
theorem dX3_init_38 : decode cX3_init 38 = .ok (.invokespecial 26, 3) := by decide +kernel
theorem dX3_init_41 : decode cX3_init 41 = .ok (.putfield 27, 3) := by decide +kernel
theorem dX3_init_44 : decode cX3_init 44 = .ok (.aload_n 0, 1) := by decide +kernel
theorem dX3_init_45 : decode cX3_init 45 = .ok (.new 31, 3) := by decide +kernel
theorem dX3_init_48 : decode cX3_init 48 = .ok (.dup, 1) := by decide +kernel
theorem dX3_init_49 : decode cX3_init 49 = .ok (.invokespecial 33, 3) := by decide +kernel
theorem dX3_init_52 : decode cX3_init 52 = .ok (.putfield 34, 3) := by decide +kernel
theorem dX3_init_55 : decode cX3_init 55 = .ok (.aload_n 0, 1) := by decide +kernel
theorem dX3_init_56 : decode cX3_init 56 = .ok (.new 38, 3) := by decide +kernel
theorem dX3_init_59 : decode cX3_init 59 = .ok (.dup, 1) := by decide +kernel
theorem dX3_init_60 : decode cX3_init 60 = .ok (.invokespecial 40, 3) := by decide +kernel
theorem dX3_init_63 : decode cX3_init 63 = .ok (.putfield 41, 3) := by decide +kernel
theorem dX3_init_66 : decode cX3_init 66 = .ok (.return_, 1) := by decide +kernel
set_option maxRecDepth 20000 in
theorem ggX3_bar_X3_checkRange : GoodIn wsX3_bar wsX3_checkRange := goodIn_ca (goodIn_r _ [9, 10, 11] (by decide +kernel) (by decide +kernel)) (goodIn_sub (fun _ h => List.mem_cons_of_mem _ (List.mem_append_right _ h)) (by decide +kernel))
set_option maxRecDepth 20000 in
theorem gX3_bar_X3_checkRange : GoodIn wsX3_bar (va_wsS RX3 52 yX3_checkRange wsX3_checkRange) := goodIn_app (goodIn_of _ (by decide +kernel)) ggX3_bar_X3_checkRange
set_option maxRecDepth 20000 in
theorem ggX3_bar_X1_addBar : GoodIn wsX3_bar wsX1_addBar := goodIn_r _ [15, 16, 17, 18, 19, 20, 13, 21, 29, 30, 31, 32, 33, 34, 35, 36] (by decide +kernel) (by decide +kernel)
set_option maxRecDepth 20000 in
theorem gX3_bar_X1_addBar_n64 : GoodIn wsX3_bar (wsX1_addBar) := ggX3_bar_X1_addBar
theorem dX3_bar_0 : decode cX3_bar 0 = .ok (.iload_n 1, 1) := by decide +kernel
theorem dX3_bar_1 : decode cX3_bar 1 = .ok (.ifCond .lt 8, 3) := by decide +kernel
theorem dX3_bar_4 : decode cX3_bar 4 = .ok (.iload_n 1, 1) := by decide +kernel
theorem dX3_bar_5 : decode cX3_bar 5 = .ok (.iconst 2, 1) := by decide +kernel
theorem dX3_bar_6 : decode cX3_bar 6 = .ok (.if_icmp .lt 13, 3) := by decide +kernel
theorem dX3_bar_9 : decode cX3_bar 9 = .ok (.new 45, 3) := by decide +kernel
theorem dX3_bar_12 : decode cX3_bar 12 = .ok (.dup, 1) := by decide +kernel
theorem dX3_bar_13 : decode cX3_bar 13 = .ok (.ldc 47, 2) := by decide +kernel
theorem dX3_bar_15 : decode cX3_bar 15 = .ok (.invokespecial 49, 3) := by decide +kernel
theorem dX3_bar_18 : decode cX3_bar 18 = .ok (.athrow, 1) := by decide +kernel
theorem dX3_bar_19 : decode cX3_bar 19 = .ok (.iload_n 2, 1) := by decide +kernel
theorem dX3_bar_20 : decode cX3_bar 20 = .ok (.iconst 0, 1) := by decide +kernel
theorem dX3_bar_21 : decode cX3_bar 21 = .ok (.bipush 100, 2) := by decide +kernel
theorem dX3_bar_23 : decode cX3_bar 23 = .ok (.invokestatic 52, 3) := by decide +kernel
theorem dX3_bar_26 : decode cX3_bar 26 = .ok (.iload_n 3, 1) := by decide +kernel
theorem dX3_bar_27 : decode cX3_bar 27 = .ok (.iconst 1, 1) := by decide +kernel
theorem dX3_bar_28 : decode cX3_bar 28 = .ok (.sipush 500, 3) := by decide +kernel
theorem dX3_bar_31 : decode cX3_bar 31 = .ok (.invokestatic 52, 3) := by decide +kernel
theorem dX3_bar_34 : decode cX3_bar 34 = .ok (.aload_n 0, 1) := by decide +kernel
theorem dX3_bar_35 : decode cX3_bar 35 = .ok (.getfield 27, 3) := by decide +kernel
theorem dX3_bar_38 : decode cX3_bar 38 = .ok (.getfield 56, 3) := by decide +kernel
theorem dX3_bar_41 : decode cX3_bar 41 = .ok (.iload_n 1, 1) := by decide +kernel
theorem dX3_bar_42 : decode cX3_bar 42 = .ok (.iaload, 1) := by decide +kernel
theorem dX3_bar_43 : decode cX3_bar 43 = .ok (.iconst 4, 1) := by decide +kernel
theorem dX3_bar_44 : decode cX3_bar 44 = .ok (.if_icmp .lt 13, 3) := by decide +kernel
theorem dX3_bar_47 : decode cX3_bar 47 = .ok (.new 59, 3) := by decide +kernel
theorem dX3_bar_50 : decode cX3_bar 50 = .ok (.dup, 1) := by decide +kernel
theorem dX3_bar_51 : decode cX3_bar 51 = .ok (.ldc 61, 2) := by decide +kernel
theorem dX3_bar_53 : decode cX3_bar 53 = .ok (.invokespecial 63, 3) := by decide +kernel
theorem dX3_bar_56 : decode cX3_bar 56 = .ok (.athrow, 1) := by decide +kernel
theorem dX3_bar_57 : decode cX3_bar 57 = .ok (.aload_n 0, 1) := by decide +kernel
theorem dX3_bar_58 : decode cX3_bar 58 = .ok (.getfield 27, 3) := by decide +kernel
theorem dX3_bar_61 : decode cX3_bar 61 = .ok (.iload_n 1, 1) := by decide +kernel
theorem dX3_bar_62 : decode cX3_bar 62 = .ok (.iload_n 2, 1) := by decide +kernel
theorem dX3_bar_63 : decode cX3_bar 63 = .ok (.iload_n 3, 1) := by decide +kernel
theorem dX3_bar_64 : decode cX3_bar 64 = .ok (.invokevirtual 64, 3) := by decide +kernel
theorem dX3_bar_67 : decode cX3_bar 67 = .ok (.ireturn, 1) := by decide +kernel
set_option maxRecDepth 20000 in
theorem ggX3_lamp_X3_checkRange : GoodIn wsX3_lamp wsX3_checkRange := goodIn_ca (goodIn_r _ [10, 11, 12] (by decide +kernel) (by decide +kernel)) (goodIn_sub (fun _ h => List.mem_cons_of_mem _ (List.mem_append_right _ h)) (by decide +kernel))
set_option maxRecDepth 20000 in
theorem gX3_lamp_X3_checkRange : GoodIn wsX3_lamp (va_wsS RX3 52 yX3_checkRange wsX3_checkRange) := goodIn_app (goodIn_of _ (by decide +kernel)) ggX3_lamp_X3_checkRange
set_option maxRecDepth 20000 in
theorem ggX3_lamp_X3_weightOfKind : GoodIn wsX3_lamp wsX3_weightOfKind := goodIn_r _ [15] (by decide +kernel) (by decide +kernel)
set_option maxRecDepth 20000 in
theorem gX3_lamp_X3_weightOfKind : GoodIn wsX3_lamp (va_wsS RX3 73 yX3_weightOfKind wsX3_weightOfKind) := goodIn_app (goodIn_of _ (by decide +kernel)) ggX3_lamp_X3_weightOfKind
set_option maxRecDepth 20000 in
theorem ggX3_lamp_X3_widthOfKind : GoodIn wsX3_lamp wsX3_widthOfKind := goodIn_r _ [18] (by decide +kernel) (by decide +kernel)
set_option maxRecDepth 20000 in
theorem gX3_lamp_X3_widthOfKind : GoodIn wsX3_lamp (va_wsS RX3 80 yX3_widthOfKind wsX3_widthOfKind) := goodIn_app (goodIn_of _ (by decide +kernel)) ggX3_lamp_X3_widthOfKind
set_option maxRecDepth 20000 in
theorem ggX3_lamp_X3_wattsOfKind : GoodIn wsX3_lamp wsX3_wattsOfKind := goodIn_r _ [21] (by decide +kernel) (by decide +kernel)
set_option maxRecDepth 20000 in
theorem gX3_lamp_X3_wattsOfKind : GoodIn wsX3_lamp (va_wsS RX3 86 yX3_wattsOfKind wsX3_wattsOfKind) := goodIn_app (goodIn_of _ (by decide +kernel)) ggX3_lamp_X3_wattsOfKind
theorem dX3_lamp_0 : decode cX3_lamp 0 = .ok (.iload_n 1, 1) := by decide +kernel
theorem dX3_lamp_1 : decode cX3_lamp 1 = .ok (.iconst 0, 1) := by decide +kernel
theorem dX3_lamp_2 : decode cX3_lamp 2 = .ok (.iconst 3, 1) := by decide +kernel
theorem dX3_lamp_3 : decode cX3_lamp 3 = .ok (.invokestatic 52, 3) := by decide +kernel
theorem dX3_lamp_6 : decode cX3_lamp 6 = .ok (.iload_n 2, 1) := by decide +kernel
theorem dX3_lamp_7 : decode cX3_lamp 7 = .ok (.iconst 0, 1) := by decide +kernel
theorem dX3_lamp_8 : decode cX3_lamp 8 = .ok (.bipush 20, 2) := by decide +kernel
theorem dX3_lamp_10 : decode cX3_lamp 10 = .ok (.invokestatic 52, 3) := by decide +kernel
theorem dX3_lamp_13 : decode cX3_lamp 13 = .ok (.aload_n 0, 1) := by decide +kernel
theorem dX3_lamp_14 : decode cX3_lamp 14 = .ok (.getfield 7, 3) := by decide +kernel
theorem dX3_lamp_17 : decode cX3_lamp 17 = .ok (.bipush 10, 2) := by decide +kernel
theorem dX3_lamp_19 : decode cX3_lamp 19 = .ok (.if_icmp .lt 13, 3) := by decide +kernel
theorem dX3_lamp_22 : decode cX3_lamp 22 = .ok (.new 59, 3) := by decide +kernel
theorem dX3_lamp_25 : decode cX3_lamp 25 = .ok (.dup, 1) := by decide +kernel
theorem dX3_lamp_26 : decode cX3_lamp 26 = .ok (.ldc 68, 2) := by decide +kernel
theorem dX3_lamp_28 : decode cX3_lamp 28 = .ok (.invokespecial 63, 3) := by decide +kernel
theorem dX3_lamp_31 : decode cX3_lamp 31 = .ok (.athrow, 1) := by decide +kernel
theorem dX3_lamp_32 : decode cX3_lamp 32 = .ok (.aload_n 0, 1) := by decide +kernel
theorem dX3_lamp_33 : decode cX3_lamp 33 = .ok (.getfield 7, 3) := by decide +kernel
theorem dX3_lamp_36 : decode cX3_lamp 36 = .ok (.istore_n 3, 1) := by decide +kernel
theorem dX3_lamp_37 : decode cX3_lamp 37 = .ok (.aload_n 0, 1) := by decide +kernel
theorem dX3_lamp_38 : decode cX3_lamp 38 = .ok (.dup, 1) := by decide +kernel
theorem dX3_lamp_39 : decode cX3_lamp 39 = .ok (.getfield 7, 3) := by decide +kernel
theorem dX3_lamp_42 : decode cX3_lamp 42 = .ok (.iconst 1, 1) := by decide +kernel
theorem dX3_lamp_43 : decode cX3_lamp 43 = .ok (.iadd, 1) := by decide +kernel
theorem dX3_lamp_44 : decode cX3_lamp 44 = .ok (.putfield 7, 3) := by decide +kernel
theorem dX3_lamp_47 : decode cX3_lamp 47 = .ok (.aload_n 0, 1) := by decide +kernel
theorem dX3_lamp_48 : decode cX3_lamp 48 = .ok (.getfield 13, 3) := by decide +kernel
theorem dX3_lamp_51 : decode cX3_lamp 51 = .ok (.iload_n 3, 1) := by decide +kernel
theorem dX3_lamp_52 : decode cX3_lamp 52 = .ok (.iload_n 2, 1) := by decide +kernel
theorem dX3_lamp_53 : decode cX3_lamp 53 = .ok (.iastore, 1) := by decide +kernel
theorem dX3_lamp_54 : decode cX3_lamp 54 = .ok (.aload_n 0, 1) := by decide +kernel
theorem dX3_lamp_55 : decode cX3_lamp 55 = .ok (.getfield 27, 3) := by decide +kernel
theorem dX3_lamp_58 : decode cX3_lamp 58 = .ok (.getfield 70, 3) := by decide +kernel
theorem dX3_lamp_61 : decode cX3_lamp 61 = .ok (.iload_n 3, 1) := by decide +kernel
theorem dX3_lamp_62 : decode cX3_lamp 62 = .ok (.iload_n 1, 1) := by decide +kernel
theorem dX3_lamp_63 : decode cX3_lamp 63 = .ok (.invokestatic 73, 3) := by decide +kernel
theorem dX3_lamp_66 : decode cX3_lamp 66 = .ok (.iastore, 1) := by decide +kernel
theorem dX3_lamp_67 : decode cX3_lamp 67 = .ok (.aload_n 0, 1) := by decide +kernel
theorem dX3_lamp_68 : decode cX3_lamp 68 = .ok (.getfield 34, 3) := by decide +kernel
theorem dX3_lamp_71 : decode cX3_lamp 71 = .ok (.getfield 77, 3) := by decide +kernel
theorem dX3_lamp_74 : decode cX3_lamp 74 = .ok (.iload_n 3, 1) := by decide +kernel
theorem dX3_lamp_75 : decode cX3_lamp 75 = .ok (.iload_n 1, 1) := by decide +kernel
theorem dX3_lamp_76 : decode cX3_lamp 76 = .ok (.invokestatic 80, 3) := by decide +kernel
theorem dX3_lamp_79 : decode cX3_lamp 79 = .ok (.iastore, 1) := by decide +kernel
theorem dX3_lamp_80 : decode cX3_lamp 80 = .ok (.aload_n 0, 1) := by decide +kernel
theorem dX3_lamp_81 : decode cX3_lamp 81 = .ok (.getfield 34, 3) := by decide +kernel
theorem dX3_lamp_84 : decode cX3_lamp 84 = .ok (.getfield 83, 3) := by decide +kernel
theorem dX3_lamp_87 : decode cX3_lamp 87 = .ok (.iload_n 3, 1) := by decide +kernel
theorem dX3_lamp_88 : decode cX3_lamp 88 = .ok (.iload_n 1, 1) := by decide +kernel
theorem dX3_lamp_89 : decode cX3_lamp 89 = .ok (.invokestatic 86, 3) := by decide +kernel
theorem dX3_lamp_92 : decode cX3_lamp 92 = .ok (.iastore, 1) := by decide +kernel
theorem dX3_lamp_93 : decode cX3_lamp 93 = .ok (.iload_n 3, 1) := by decide +kernel
theorem dX3_lamp_94 : decode cX3_lamp 94 = .ok (.ireturn, 1) := by decide +kernel
set_option maxRecDepth 20000 in
theorem ggX3_hang_X3_checkLamp : GoodIn wsX3_hang wsX3_checkLamp := goodIn_ca (goodIn_r _ [10, 1, 2, 11, 50, 51, 52, 53, 54, 55, 56] (by decide +kernel) (by decide +kernel)) (goodIn_sub (fun _ h => List.mem_cons_of_mem _ (List.mem_append_left _ (List.mem_append_right _ h))) (by decide +kernel))
set_option maxRecDepth 20000 in
theorem gX3_hang_X3_checkLamp : GoodIn wsX3_hang (wsV RX3 89 RX3 yX3_checkLamp wsX3_checkLamp) := goodIn_app (goodIn_of _ (by decide +kernel)) ggX3_hang_X3_checkLamp
set_option maxRecDepth 20000 in
theorem ggX3_hang_X3_checkBar : GoodIn wsX3_hang wsX3_checkBar := goodIn_ca (goodIn_r _ [15, 1, 2, 5, 16, 17, 18, 19, 20, 21, 50, 51, 52, 53, 54, 55, 56, 57, 58, 59, 60, 61, 62, 63, 64] (by decide +kernel) (by decide +kernel)) (goodIn_sub (fun _ h => List.mem_cons_of_mem _ (List.mem_append_left _ (List.mem_append_right _ h))) (by decide +kernel))
set_option maxRecDepth 20000 in
theorem gX3_hang_X3_checkBar : GoodIn wsX3_hang (wsV RX3 93 RX3 yX3_checkBar wsX3_checkBar) := goodIn_app (goodIn_of _ (by decide +kernel)) ggX3_hang_X3_checkBar
set_option maxRecDepth 20000 in
theorem ggX3_hang_X1_hasPlace : GoodIn wsX3_hang wsX1_hasPlace := goodIn_r _ [24, 25, 21, 26, 27, 17, 28, 57, 58, 59, 60, 61, 62, 63, 64] (by decide +kernel) (by decide +kernel)
set_option maxRecDepth 20000 in
theorem gX3_hang_X1_hasPlace_n96 : GoodIn wsX3_hang (wsX1_hasPlace) := ggX3_hang_X1_hasPlace
set_option maxRecDepth 20000 in
theorem ggX3_hang_X1_bears : GoodIn wsX3_hang wsX1_bears := goodIn_r _ [31, 32, 33, 34, 21, 35, 36, 37, 17, 38, 26, 27, 28, 57, 58, 59, 60, 61, 62, 63, 64] (by decide +kernel) (by decide +kernel)
set_option maxRecDepth 20000 in
theorem gX3_hang_X1_bears_n102 : GoodIn wsX3_hang (wsX1_bears) := ggX3_hang_X1_bears
set_option maxRecDepth 20000 in
theorem ggX3_hang_X1_isClear : GoodIn wsX3_hang wsX1_isClear := goodIn_r _ [41, 32, 42, 43, 44, 45, 46, 57, 58, 59, 60, 61, 62, 63, 64] (by decide +kernel) (by decide +kernel)
set_option maxRecDepth 20000 in
theorem gX3_hang_X1_isClear_n105 : GoodIn wsX3_hang (wsX1_isClear) := ggX3_hang_X1_isClear
set_option maxRecDepth 20000 in
theorem ggX3_hang_X1_put : GoodIn wsX3_hang wsX1_put := goodIn_r _ [49, 32, 42, 57, 58, 59, 60, 61, 62, 63, 64] (by decide +kernel) (by decide +kernel)
set_option maxRecDepth 20000 in
theorem gX3_hang_X1_put_n111 : GoodIn wsX3_hang (wsX1_put) := ggX3_hang_X1_put
set_option maxRecDepth 20000 in
theorem ggX3_hang_X1_weightOn : GoodIn wsX3_hang wsX1_weightOn := goodIn_r _ [38, 32, 33, 57, 58, 59, 60, 61, 62, 63, 64] (by decide +kernel) (by decide +kernel)
set_option maxRecDepth 20000 in
theorem gX3_hang_X1_weightOn_n114 : GoodIn wsX3_hang (wsX1_weightOn) := ggX3_hang_X1_weightOn
theorem dX3_hang_0 : decode cX3_hang 0 = .ok (.aload_n 0, 1) := by decide +kernel
theorem dX3_hang_1 : decode cX3_hang 1 = .ok (.iload_n 1, 1) := by decide +kernel
theorem dX3_hang_2 : decode cX3_hang 2 = .ok (.invokevirtual 89, 3) := by decide +kernel
theorem dX3_hang_5 : decode cX3_hang 5 = .ok (.aload_n 0, 1) := by decide +kernel
theorem dX3_hang_6 : decode cX3_hang 6 = .ok (.iload_n 2, 1) := by decide +kernel
theorem dX3_hang_7 : decode cX3_hang 7 = .ok (.invokevirtual 93, 3) := by decide +kernel
theorem dX3_hang_10 : decode cX3_hang 10 = .ok (.aload_n 0, 1) := by decide +kernel
theorem dX3_hang_11 : decode cX3_hang 11 = .ok (.getfield 27, 3) := by decide +kernel
theorem dX3_hang_14 : decode cX3_hang 14 = .ok (.iload_n 2, 1) := by decide +kernel
theorem dX3_hang_15 : decode cX3_hang 15 = .ok (.iload_n 3, 1) := by decide +kernel
theorem dX3_hang_16 : decode cX3_hang 16 = .ok (.invokevirtual 96, 3) := by decide +kernel
theorem dX3_hang_19 : decode cX3_hang 19 = .ok (.ifCond .ne 13, 3) := by decide +kernel
theorem dX3_hang_22 : decode cX3_hang 22 = .ok (.new 45, 3) := by decide +kernel
theorem dX3_hang_25 : decode cX3_hang 25 = .ok (.dup, 1) := by decide +kernel
theorem dX3_hang_26 : decode cX3_hang 26 = .ok (.ldc 100, 2) := by decide +kernel
theorem dX3_hang_28 : decode cX3_hang 28 = .ok (.invokespecial 49, 3) := by decide +kernel
theorem dX3_hang_31 : decode cX3_hang 31 = .ok (.athrow, 1) := by decide +kernel
theorem dX3_hang_32 : decode cX3_hang 32 = .ok (.aload_n 0, 1) := by decide +kernel
theorem dX3_hang_33 : decode cX3_hang 33 = .ok (.getfield 27, 3) := by decide +kernel
theorem dX3_hang_36 : decode cX3_hang 36 = .ok (.iload_n 1, 1) := by decide +kernel
theorem dX3_hang_37 : decode cX3_hang 37 = .ok (.iload_n 2, 1) := by decide +kernel
theorem dX3_hang_38 : decode cX3_hang 38 = .ok (.invokevirtual 102, 3) := by decide +kernel
theorem dX3_hang_41 : decode cX3_hang 41 = .ok (.ifCond .eq 16, 3) := by decide +kernel
theorem dX3_hang_44 : decode cX3_hang 44 = .ok (.aload_n 0, 1) := by decide +kernel
theorem dX3_hang_45 : decode cX3_hang 45 = .ok (.getfield 27, 3) := by decide +kernel
theorem dX3_hang_48 : decode cX3_hang 48 = .ok (.iload_n 1, 1) := by decide +kernel
theorem dX3_hang_49 : decode cX3_hang 49 = .ok (.iload_n 2, 1) := by decide +kernel
theorem dX3_hang_50 : decode cX3_hang 50 = .ok (.iload_n 3, 1) := by decide +kernel
theorem dX3_hang_51 : decode cX3_hang 51 = .ok (.invokevirtual 105, 3) := by decide +kernel
theorem dX3_hang_54 : decode cX3_hang 54 = .ok (.ifCond .ne 13, 3) := by decide +kernel
theorem dX3_hang_57 : decode cX3_hang 57 = .ok (.new 59, 3) := by decide +kernel
theorem dX3_hang_60 : decode cX3_hang 60 = .ok (.dup, 1) := by decide +kernel
theorem dX3_hang_61 : decode cX3_hang 61 = .ok (.ldc 109, 2) := by decide +kernel
theorem dX3_hang_63 : decode cX3_hang 63 = .ok (.invokespecial 63, 3) := by decide +kernel
theorem dX3_hang_66 : decode cX3_hang 66 = .ok (.athrow, 1) := by decide +kernel
theorem dX3_hang_67 : decode cX3_hang 67 = .ok (.aload_n 0, 1) := by decide +kernel
theorem dX3_hang_68 : decode cX3_hang 68 = .ok (.getfield 27, 3) := by decide +kernel
theorem dX3_hang_71 : decode cX3_hang 71 = .ok (.iload_n 1, 1) := by decide +kernel
theorem dX3_hang_72 : decode cX3_hang 72 = .ok (.iload_n 2, 1) := by decide +kernel
theorem dX3_hang_73 : decode cX3_hang 73 = .ok (.iload_n 3, 1) := by decide +kernel
theorem dX3_hang_74 : decode cX3_hang 74 = .ok (.invokevirtual 111, 3) := by decide +kernel
theorem dX3_hang_77 : decode cX3_hang 77 = .ok (.aload_n 0, 1) := by decide +kernel
theorem dX3_hang_78 : decode cX3_hang 78 = .ok (.getfield 27, 3) := by decide +kernel
theorem dX3_hang_81 : decode cX3_hang 81 = .ok (.iload_n 2, 1) := by decide +kernel
theorem dX3_hang_82 : decode cX3_hang 82 = .ok (.invokevirtual 114, 3) := by decide +kernel
theorem dX3_hang_85 : decode cX3_hang 85 = .ok (.ireturn, 1) := by decide +kernel
set_option maxRecDepth 20000 in
theorem ggX3_down_X3_checkLamp : GoodIn wsX3_down wsX3_checkLamp := goodIn_ca (goodIn_r _ [6, 7, 8, 9, 15, 16, 17, 18, 19, 20, 21] (by decide +kernel) (by decide +kernel)) (goodIn_sub (fun _ h => List.mem_cons_of_mem _ (List.mem_append_right _ h)) (by decide +kernel))
set_option maxRecDepth 20000 in
theorem gX3_down_X3_checkLamp : GoodIn wsX3_down (wsV RX3 89 RX3 yX3_checkLamp wsX3_checkLamp) := goodIn_app (goodIn_of _ (by decide +kernel)) ggX3_down_X3_checkLamp
set_option maxRecDepth 20000 in
theorem ggX3_down_X1_hangs : GoodIn wsX3_down wsX1_hangs := goodIn_r _ [13, 14, 22, 23, 24, 25, 26, 27, 28, 29] (by decide +kernel) (by decide +kernel)
set_option maxRecDepth 20000 in
theorem gX3_down_X1_hangs_n117 : GoodIn wsX3_down (wsX1_hangs) := ggX3_down_X1_hangs
theorem dX3_down_0 : decode cX3_down 0 = .ok (.aload_n 0, 1) := by decide +kernel
theorem dX3_down_1 : decode cX3_down 1 = .ok (.iload_n 1, 1) := by decide +kernel
theorem dX3_down_2 : decode cX3_down 2 = .ok (.invokevirtual 89, 3) := by decide +kernel
theorem dX3_down_5 : decode cX3_down 5 = .ok (.aload_n 0, 1) := by decide +kernel
theorem dX3_down_6 : decode cX3_down 6 = .ok (.getfield 27, 3) := by decide +kernel
theorem dX3_down_9 : decode cX3_down 9 = .ok (.iload_n 1, 1) := by decide +kernel
theorem dX3_down_10 : decode cX3_down 10 = .ok (.invokevirtual 117, 3) := by decide +kernel
theorem dX3_down_13 : decode cX3_down 13 = .ok (.istore_n 2, 1) := by decide +kernel
theorem dX3_down_14 : decode cX3_down 14 = .ok (.aload_n 0, 1) := by decide +kernel
theorem dX3_down_15 : decode cX3_down 15 = .ok (.getfield 27, 3) := by decide +kernel
theorem dX3_down_18 : decode cX3_down 18 = .ok (.getfield 121, 3) := by decide +kernel
theorem dX3_down_21 : decode cX3_down 21 = .ok (.iload_n 1, 1) := by decide +kernel
theorem dX3_down_22 : decode cX3_down 22 = .ok (.iconst (-1), 1) := by decide +kernel
theorem dX3_down_23 : decode cX3_down 23 = .ok (.iastore, 1) := by decide +kernel
theorem dX3_down_24 : decode cX3_down 24 = .ok (.iload_n 2, 1) := by decide +kernel
theorem dX3_down_25 : decode cX3_down 25 = .ok (.ireturn, 1) := by decide +kernel
set_option maxRecDepth 20000 in
theorem ggX3_onBar_X3_checkBar : GoodIn wsX3_onBar wsX3_checkBar := goodIn_ca (goodIn_r _ [8, 1, 2, 3, 9, 10, 11, 12, 13, 14, 24, 25, 26, 27, 28, 29, 30, 31, 32, 33, 34, 35, 36, 37, 38] (by decide +kernel) (by decide +kernel)) (goodIn_sub (fun _ h => List.mem_cons_of_mem _ (List.mem_append_right _ h)) (by decide +kernel))
set_option maxRecDepth 20000 in
theorem gX3_onBar_X3_checkBar : GoodIn wsX3_onBar (wsV RX3 93 RX3 yX3_checkBar wsX3_checkBar) := goodIn_app (goodIn_of _ (by decide +kernel)) ggX3_onBar_X3_checkBar
set_option maxRecDepth 20000 in
theorem ggX3_onBar_X1_ranked : GoodIn wsX3_onBar wsX1_ranked := goodIn_r _ [17, 18, 19, 20, 21, 22, 10, 23, 31, 32, 33, 34, 35, 36, 37, 38] (by decide +kernel) (by decide +kernel)
set_option maxRecDepth 20000 in
theorem gX3_onBar_X1_ranked_n124 : GoodIn wsX3_onBar (wsX1_ranked) := ggX3_onBar_X1_ranked
theorem dX3_onBar_0 : decode cX3_onBar 0 = .ok (.aload_n 0, 1) := by decide +kernel
theorem dX3_onBar_1 : decode cX3_onBar 1 = .ok (.iload_n 1, 1) := by decide +kernel
theorem dX3_onBar_2 : decode cX3_onBar 2 = .ok (.invokevirtual 93, 3) := by decide +kernel
theorem dX3_onBar_5 : decode cX3_onBar 5 = .ok (.aload_n 0, 1) := by decide +kernel
theorem dX3_onBar_6 : decode cX3_onBar 6 = .ok (.getfield 27, 3) := by decide +kernel
theorem dX3_onBar_9 : decode cX3_onBar 9 = .ok (.iload_n 1, 1) := by decide +kernel
theorem dX3_onBar_10 : decode cX3_onBar 10 = .ok (.iload_n 2, 1) := by decide +kernel
theorem dX3_onBar_11 : decode cX3_onBar 11 = .ok (.invokevirtual 124, 3) := by decide +kernel
theorem dX3_onBar_14 : decode cX3_onBar 14 = .ok (.istore_n 3, 1) := by decide +kernel
theorem dX3_onBar_15 : decode cX3_onBar 15 = .ok (.iload_n 3, 1) := by decide +kernel
theorem dX3_onBar_16 : decode cX3_onBar 16 = .ok (.iconst (-1), 1) := by decide +kernel
theorem dX3_onBar_17 : decode cX3_onBar 17 = .ok (.if_icmp .ne 13, 3) := by decide +kernel
theorem dX3_onBar_20 : decode cX3_onBar 20 = .ok (.new 45, 3) := by decide +kernel
theorem dX3_onBar_23 : decode cX3_onBar 23 = .ok (.dup, 1) := by decide +kernel
theorem dX3_onBar_24 : decode cX3_onBar 24 = .ok (.ldc 128, 2) := by decide +kernel
theorem dX3_onBar_26 : decode cX3_onBar 26 = .ok (.invokespecial 49, 3) := by decide +kernel
theorem dX3_onBar_29 : decode cX3_onBar 29 = .ok (.athrow, 1) := by decide +kernel
theorem dX3_onBar_30 : decode cX3_onBar 30 = .ok (.iload_n 3, 1) := by decide +kernel
theorem dX3_onBar_31 : decode cX3_onBar 31 = .ok (.ireturn, 1) := by decide +kernel
set_option maxRecDepth 20000 in
theorem ggX3_where_X3_checkLamp : GoodIn wsX3_where wsX3_checkLamp := goodIn_ca (goodIn_r _ [6, 7, 8, 9, 15, 16, 17, 18, 19, 20, 21] (by decide +kernel) (by decide +kernel)) (goodIn_sub (fun _ h => List.mem_cons_of_mem _ (List.mem_append_right _ h)) (by decide +kernel))
set_option maxRecDepth 20000 in
theorem gX3_where_X3_checkLamp : GoodIn wsX3_where (wsV RX3 89 RX3 yX3_checkLamp wsX3_checkLamp) := goodIn_app (goodIn_of _ (by decide +kernel)) ggX3_where_X3_checkLamp
set_option maxRecDepth 20000 in
theorem ggX3_where_X1_hangs : GoodIn wsX3_where wsX1_hangs := goodIn_r _ [13, 14, 22, 23, 24, 25, 26, 27, 28, 29] (by decide +kernel) (by decide +kernel)
set_option maxRecDepth 20000 in
theorem gX3_where_X1_hangs_n117 : GoodIn wsX3_where (wsX1_hangs) := ggX3_where_X1_hangs
theorem dX3_where_0 : decode cX3_where 0 = .ok (.aload_n 0, 1) := by decide +kernel
theorem dX3_where_1 : decode cX3_where 1 = .ok (.iload_n 1, 1) := by decide +kernel
theorem dX3_where_2 : decode cX3_where 2 = .ok (.invokevirtual 89, 3) := by decide +kernel
theorem dX3_where_5 : decode cX3_where 5 = .ok (.aload_n 0, 1) := by decide +kernel
theorem dX3_where_6 : decode cX3_where 6 = .ok (.getfield 27, 3) := by decide +kernel
theorem dX3_where_9 : decode cX3_where 9 = .ok (.iload_n 1, 1) := by decide +kernel
theorem dX3_where_10 : decode cX3_where 10 = .ok (.invokevirtual 117, 3) := by decide +kernel
theorem dX3_where_13 : decode cX3_where 13 = .ok (.ifCond .eq 29, 3) := by decide +kernel
theorem dX3_where_16 : decode cX3_where 16 = .ok (.sipush 1000, 3) := by decide +kernel
theorem dX3_where_19 : decode cX3_where 19 = .ok (.aload_n 0, 1) := by decide +kernel
theorem dX3_where_20 : decode cX3_where 20 = .ok (.getfield 27, 3) := by decide +kernel
theorem dX3_where_23 : decode cX3_where 23 = .ok (.getfield 121, 3) := by decide +kernel
theorem dX3_where_26 : decode cX3_where 26 = .ok (.iload_n 1, 1) := by decide +kernel
theorem dX3_where_27 : decode cX3_where 27 = .ok (.iaload, 1) := by decide +kernel
theorem dX3_where_28 : decode cX3_where 28 = .ok (.imul, 1) := by decide +kernel
theorem dX3_where_29 : decode cX3_where 29 = .ok (.aload_n 0, 1) := by decide +kernel
theorem dX3_where_30 : decode cX3_where 30 = .ok (.getfield 27, 3) := by decide +kernel
theorem dX3_where_33 : decode cX3_where 33 = .ok (.getfield 130, 3) := by decide +kernel
theorem dX3_where_36 : decode cX3_where 36 = .ok (.iload_n 1, 1) := by decide +kernel
theorem dX3_where_37 : decode cX3_where 37 = .ok (.iaload, 1) := by decide +kernel
theorem dX3_where_38 : decode cX3_where 38 = .ok (.iadd, 1) := by decide +kernel
theorem dX3_where_39 : decode cX3_where 39 = .ok (.goto 4, 3) := by decide +kernel
theorem dX3_where_42 : decode cX3_where 42 = .ok (.iconst (-1), 1) := by decide +kernel
theorem dX3_where_43 : decode cX3_where 43 = .ok (.ireturn, 1) := by decide +kernel
set_option maxRecDepth 20000 in
theorem ggX3_tour_X1_changeHouse : GoodIn wsX3_tour wsX1_changeHouse := goodIn_r _ [5, 6, 7, 8, 9, 10, 11, 3, 12, 13, 14, 15, 16, 17, 18, 19, 20, 21, 22, 23, 24, 25, 26, 27, 28, 29, 30, 31, 32, 33, 34, 35, 36, 37, 38, 39, 40, 41, 42, 43, 44, 45, 46, 47, 48, 49, 50, 51, 52, 60, 61, 62, 63, 64, 65, 66, 67] (by decide +kernel) (by decide +kernel)
set_option maxRecDepth 20000 in
theorem gX3_tour_X1_changeHouse_n133 : GoodIn wsX3_tour (wsX1_changeHouse) := ggX3_tour_X1_changeHouse
theorem dX3_tour_0 : decode cX3_tour 0 = .ok (.aload_n 0, 1) := by decide +kernel
theorem dX3_tour_1 : decode cX3_tour 1 = .ok (.getfield 27, 3) := by decide +kernel
theorem dX3_tour_4 : decode cX3_tour 4 = .ok (.invokevirtual 133, 3) := by decide +kernel
theorem dX3_tour_7 : decode cX3_tour 7 = .ok (.ireturn, 1) := by decide +kernel
set_option maxRecDepth 20000 in
theorem ggX3_patch_X3_checkLamp : GoodIn wsX3_patch wsX3_checkLamp := goodIn_ca (goodIn_r _ [6, 7, 8, 9, 25, 26, 27, 28, 29, 30, 31] (by decide +kernel) (by decide +kernel)) (goodIn_sub (fun _ h => List.mem_cons_of_mem _ (List.mem_append_left _ (List.mem_append_right _ h))) (by decide +kernel))
set_option maxRecDepth 20000 in
theorem gX3_patch_X3_checkLamp : GoodIn wsX3_patch (wsV RX3 89 RX3 yX3_checkLamp wsX3_checkLamp) := goodIn_app (goodIn_of _ (by decide +kernel)) ggX3_patch_X3_checkLamp
set_option maxRecDepth 20000 in
theorem ggX3_patch_X3_checkRange : GoodIn wsX3_patch wsX3_checkRange := goodIn_ca (goodIn_r _ [12, 13, 14] (by decide +kernel) (by decide +kernel)) (goodIn_sub (fun _ h => List.mem_cons_of_mem _ (List.mem_append_right _ h)) (by decide +kernel))
set_option maxRecDepth 20000 in
theorem gX3_patch_X3_checkRange : GoodIn wsX3_patch (va_wsS RX3 52 yX3_checkRange wsX3_checkRange) := goodIn_app (goodIn_of _ (by decide +kernel)) ggX3_patch_X3_checkRange
set_option maxRecDepth 20000 in
theorem ggX3_patch_X0_countDoubles : GoodIn wsX3_patch wsX0_countDoubles := goodIn_r _ [18, 19, 20, 21, 16, 22, 23, 24, 32, 33, 34, 35] (by decide +kernel) (by decide +kernel)
set_option maxRecDepth 20000 in
theorem gX3_patch_X0_countDoubles_n140 : GoodIn wsX3_patch (wsX0_countDoubles) := ggX3_patch_X0_countDoubles
theorem dX3_patch_0 : decode cX3_patch 0 = .ok (.aload_n 0, 1) := by decide +kernel
theorem dX3_patch_1 : decode cX3_patch 1 = .ok (.iload_n 1, 1) := by decide +kernel
theorem dX3_patch_2 : decode cX3_patch 2 = .ok (.invokevirtual 89, 3) := by decide +kernel
theorem dX3_patch_5 : decode cX3_patch 5 = .ok (.iload_n 2, 1) := by decide +kernel
theorem dX3_patch_6 : decode cX3_patch 6 = .ok (.iconst (-1), 1) := by decide +kernel
theorem dX3_patch_7 : decode cX3_patch 7 = .ok (.bipush 100, 2) := by decide +kernel
theorem dX3_patch_9 : decode cX3_patch 9 = .ok (.aload_n 0, 1) := by decide +kernel
theorem dX3_patch_10 : decode cX3_patch 10 = .ok (.getfield 34, 3) := by decide +kernel
theorem dX3_patch_13 : decode cX3_patch 13 = .ok (.getfield 77, 3) := by decide +kernel
theorem dX3_patch_16 : decode cX3_patch 16 = .ok (.iload_n 1, 1) := by decide +kernel
theorem dX3_patch_17 : decode cX3_patch 17 = .ok (.iaload, 1) := by decide +kernel
theorem dX3_patch_18 : decode cX3_patch 18 = .ok (.isub, 1) := by decide +kernel
theorem dX3_patch_19 : decode cX3_patch 19 = .ok (.invokestatic 52, 3) := by decide +kernel
theorem dX3_patch_22 : decode cX3_patch 22 = .ok (.aload_n 0, 1) := by decide +kernel
theorem dX3_patch_23 : decode cX3_patch 23 = .ok (.getfield 34, 3) := by decide +kernel
theorem dX3_patch_26 : decode cX3_patch 26 = .ok (.getfield 137, 3) := by decide +kernel
theorem dX3_patch_29 : decode cX3_patch 29 = .ok (.iload_n 1, 1) := by decide +kernel
theorem dX3_patch_30 : decode cX3_patch 30 = .ok (.iload_n 2, 1) := by decide +kernel
theorem dX3_patch_31 : decode cX3_patch 31 = .ok (.iastore, 1) := by decide +kernel
theorem dX3_patch_32 : decode cX3_patch 32 = .ok (.aload_n 0, 1) := by decide +kernel
theorem dX3_patch_33 : decode cX3_patch 33 = .ok (.getfield 34, 3) := by decide +kernel
theorem dX3_patch_36 : decode cX3_patch 36 = .ok (.invokevirtual 140, 3) := by decide +kernel
theorem dX3_patch_39 : decode cX3_patch 39 = .ok (.ireturn, 1) := by decide +kernel
set_option maxRecDepth 20000 in
theorem ggX3_gap_X3_checkRange : GoodIn wsX3_gap wsX3_checkRange := goodIn_ca (goodIn_r _ [5, 6, 7] (by decide +kernel) (by decide +kernel)) (goodIn_sub (fun _ h => List.mem_cons_of_mem _ (List.mem_append_right _ h)) (by decide +kernel))
set_option maxRecDepth 20000 in
theorem gX3_gap_X3_checkRange : GoodIn wsX3_gap (va_wsS RX3 52 yX3_checkRange wsX3_checkRange) := goodIn_app (goodIn_of _ (by decide +kernel)) ggX3_gap_X3_checkRange
set_option maxRecDepth 20000 in
theorem ggX3_gap_X0_lowestGap : GoodIn wsX3_gap wsX0_lowestGap := goodIn_r _ [11, 12, 13, 14, 9, 15, 16, 17, 25, 26, 27, 28] (by decide +kernel) (by decide +kernel)
set_option maxRecDepth 20000 in
theorem gX3_gap_X0_lowestGap_n143 : GoodIn wsX3_gap (wsX0_lowestGap) := ggX3_gap_X0_lowestGap
theorem dX3_gap_0 : decode cX3_gap 0 = .ok (.iload_n 1, 1) := by decide +kernel
theorem dX3_gap_1 : decode cX3_gap 1 = .ok (.iconst 1, 1) := by decide +kernel
theorem dX3_gap_2 : decode cX3_gap 2 = .ok (.bipush 100, 2) := by decide +kernel
theorem dX3_gap_4 : decode cX3_gap 4 = .ok (.invokestatic 52, 3) := by decide +kernel
theorem dX3_gap_7 : decode cX3_gap 7 = .ok (.aload_n 0, 1) := by decide +kernel
theorem dX3_gap_8 : decode cX3_gap 8 = .ok (.getfield 34, 3) := by decide +kernel
theorem dX3_gap_11 : decode cX3_gap 11 = .ok (.iload_n 1, 1) := by decide +kernel
theorem dX3_gap_12 : decode cX3_gap 12 = .ok (.invokevirtual 143, 3) := by decide +kernel
theorem dX3_gap_15 : decode cX3_gap 15 = .ok (.ireturn, 1) := by decide +kernel
set_option maxRecDepth 20000 in
theorem ggX3_plug_X3_checkLamp : GoodIn wsX3_plug wsX3_checkLamp := goodIn_ca (goodIn_r _ [6, 7, 8, 9, 13, 14, 15, 16, 17, 18, 19] (by decide +kernel) (by decide +kernel)) (goodIn_sub (fun _ h => List.mem_cons_of_mem _ (List.mem_append_right _ h)) (by decide +kernel))
set_option maxRecDepth 20000 in
theorem gX3_plug_X3_checkLamp : GoodIn wsX3_plug (wsV RX3 89 RX3 yX3_checkLamp wsX3_checkLamp) := goodIn_app (goodIn_of _ (by decide +kernel)) ggX3_plug_X3_checkLamp
set_option maxRecDepth 20000 in
theorem ggX3_plug_X3_checkCircuit : GoodIn wsX3_plug wsX3_checkCircuit := goodIn_ca (goodIn_r _ [12, 7, 8] (by decide +kernel) (by decide +kernel)) (goodIn_sub (fun _ h => List.mem_cons_of_mem _ (List.mem_append_right _ h)) (by decide +kernel))
set_option maxRecDepth 20000 in
theorem gX3_plug_X3_checkCircuit : GoodIn wsX3_plug (va_wsS RX3 146 yX3_checkCircuit wsX3_checkCircuit) := goodIn_app (goodIn_of _ (by decide +kernel)) ggX3_plug_X3_checkCircuit
theorem dX3_plug_0 : decode cX3_plug 0 = .ok (.aload_n 0, 1) := by decide +kernel
theorem dX3_plug_1 : decode cX3_plug 1 = .ok (.iload_n 1, 1) := by decide +kernel
theorem dX3_plug_2 : decode cX3_plug 2 = .ok (.invokevirtual 89, 3) := by decide +kernel
theorem dX3_plug_5 : decode cX3_plug 5 = .ok (.iload_n 2, 1) := by decide +kernel
theorem dX3_plug_6 : decode cX3_plug 6 = .ok (.iconst (-1), 1) := by decide +kernel
theorem dX3_plug_7 : decode cX3_plug 7 = .ok (.if_icmp .eq 7, 3) := by decide +kernel
theorem dX3_plug_10 : decode cX3_plug 10 = .ok (.iload_n 2, 1) := by decide +kernel
theorem dX3_plug_11 : decode cX3_plug 11 = .ok (.invokestatic 146, 3) := by decide +kernel
theorem dX3_plug_14 : decode cX3_plug 14 = .ok (.aload_n 0, 1) := by decide +kernel
theorem dX3_plug_15 : decode cX3_plug 15 = .ok (.getfield 34, 3) := by decide +kernel
theorem dX3_plug_18 : decode cX3_plug 18 = .ok (.getfield 149, 3) := by decide +kernel
theorem dX3_plug_21 : decode cX3_plug 21 = .ok (.iload_n 1, 1) := by decide +kernel
theorem dX3_plug_22 : decode cX3_plug 22 = .ok (.iaload, 1) := by decide +kernel
theorem dX3_plug_23 : decode cX3_plug 23 = .ok (.istore_n 3, 1) := by decide +kernel
theorem dX3_plug_24 : decode cX3_plug 24 = .ok (.aload_n 0, 1) := by decide +kernel
theorem dX3_plug_25 : decode cX3_plug 25 = .ok (.getfield 34, 3) := by decide +kernel
theorem dX3_plug_28 : decode cX3_plug 28 = .ok (.getfield 149, 3) := by decide +kernel
theorem dX3_plug_31 : decode cX3_plug 31 = .ok (.iload_n 1, 1) := by decide +kernel
theorem dX3_plug_32 : decode cX3_plug 32 = .ok (.iload_n 2, 1) := by decide +kernel
theorem dX3_plug_33 : decode cX3_plug 33 = .ok (.iastore, 1) := by decide +kernel
theorem dX3_plug_34 : decode cX3_plug 34 = .ok (.iload_n 3, 1) := by decide +kernel
theorem dX3_plug_35 : decode cX3_plug 35 = .ok (.ireturn, 1) := by decide +kernel
set_option maxRecDepth 20000 in
theorem ggX3_load_X3_checkCircuit : GoodIn wsX3_load wsX3_checkCircuit := goodIn_ca (goodIn_r _ [6, 7, 8] (by decide +kernel) (by decide +kernel)) (goodIn_sub (fun _ h => List.mem_cons_of_mem _ (List.mem_append_right _ h)) (by decide +kernel))
set_option maxRecDepth 20000 in
theorem gX3_load_X3_checkCircuit : GoodIn wsX3_load (va_wsS RX3 146 yX3_checkCircuit wsX3_checkCircuit) := goodIn_app (goodIn_of _ (by decide +kernel)) ggX3_load_X3_checkCircuit
set_option maxRecDepth 20000 in
theorem ggX3_load_X3_shownLevel : GoodIn wsX3_load wsX3_shownLevel := goodIn_r _ [12, 13, 14, 15, 16, 17, 18, 19, 20, 21, 22, 23, 24, 25, 26, 27, 28, 29, 30, 31, 32, 33, 34, 35, 36, 37, 38, 39, 40, 41, 42, 43, 44, 45, 46, 51, 52, 53, 54, 55, 56, 57, 58, 59, 60, 61, 62, 63, 64, 65, 66, 67, 68, 69] (by decide +kernel) (by decide +kernel)
set_option maxRecDepth 20000 in
theorem gX3_load_X3_shownLevel : GoodIn wsX3_load (wsV RX3 152 RX3 yX3_shownLevel wsX3_shownLevel) := goodIn_app (goodIn_of _ (by decide +kernel)) ggX3_load_X3_shownLevel
theorem dX3_load_0 : decode cX3_load 0 = .ok (.iload_n 1, 1) := by decide +kernel
theorem dX3_load_1 : decode cX3_load 1 = .ok (.invokestatic 146, 3) := by decide +kernel
theorem dX3_load_4 : decode cX3_load 4 = .ok (.iconst 0, 1) := by decide +kernel
theorem dX3_load_5 : decode cX3_load 5 = .ok (.istore_n 2, 1) := by decide +kernel
theorem dX3_load_6 : decode cX3_load 6 = .ok (.iconst 0, 1) := by decide +kernel
theorem dX3_load_7 : decode cX3_load 7 = .ok (.istore_n 3, 1) := by decide +kernel
theorem dX3_load_8 : decode cX3_load 8 = .ok (.iload_n 3, 1) := by decide +kernel
theorem dX3_load_9 : decode cX3_load 9 = .ok (.aload_n 0, 1) := by decide +kernel
theorem dX3_load_10 : decode cX3_load 10 = .ok (.getfield 7, 3) := by decide +kernel
theorem dX3_load_13 : decode cX3_load 13 = .ok (.if_icmp .ge 43, 3) := by decide +kernel
theorem dX3_load_16 : decode cX3_load 16 = .ok (.aload_n 0, 1) := by decide +kernel
theorem dX3_load_17 : decode cX3_load 17 = .ok (.getfield 34, 3) := by decide +kernel
theorem dX3_load_20 : decode cX3_load 20 = .ok (.getfield 149, 3) := by decide +kernel
theorem dX3_load_23 : decode cX3_load 23 = .ok (.iload_n 3, 1) := by decide +kernel
theorem dX3_load_24 : decode cX3_load 24 = .ok (.iaload, 1) := by decide +kernel
theorem dX3_load_25 : decode cX3_load 25 = .ok (.iload_n 1, 1) := by decide +kernel
theorem dX3_load_26 : decode cX3_load 26 = .ok (.if_icmp .ne 24, 3) := by decide +kernel
theorem dX3_load_29 : decode cX3_load 29 = .ok (.iload_n 2, 1) := by decide +kernel
theorem dX3_load_30 : decode cX3_load 30 = .ok (.aload_n 0, 1) := by decide +kernel
theorem dX3_load_31 : decode cX3_load 31 = .ok (.getfield 34, 3) := by decide +kernel
theorem dX3_load_34 : decode cX3_load 34 = .ok (.getfield 83, 3) := by decide +kernel
theorem dX3_load_37 : decode cX3_load 37 = .ok (.iload_n 3, 1) := by decide +kernel
theorem dX3_load_38 : decode cX3_load 38 = .ok (.iaload, 1) := by decide +kernel
theorem dX3_load_39 : decode cX3_load 39 = .ok (.aload_n 0, 1) := by decide +kernel
theorem dX3_load_40 : decode cX3_load 40 = .ok (.iload_n 3, 1) := by decide +kernel
theorem dX3_load_41 : decode cX3_load 41 = .ok (.invokevirtual 152, 3) := by decide +kernel
theorem dX3_load_44 : decode cX3_load 44 = .ok (.imul, 1) := by decide +kernel
theorem dX3_load_45 : decode cX3_load 45 = .ok (.bipush 100, 2) := by decide +kernel
theorem dX3_load_47 : decode cX3_load 47 = .ok (.idiv, 1) := by decide +kernel
theorem dX3_load_48 : decode cX3_load 48 = .ok (.iadd, 1) := by decide +kernel
theorem dX3_load_49 : decode cX3_load 49 = .ok (.istore_n 2, 1) := by decide +kernel
theorem dX3_load_50 : decode cX3_load 50 = .ok (.iinc 3 1, 3) := by decide +kernel
theorem dX3_load_53 : decode cX3_load 53 = .ok (.goto (-45), 3) := by decide +kernel
theorem dX3_load_56 : decode cX3_load 56 = .ok (.iload_n 2, 1) := by decide +kernel
theorem dX3_load_57 : decode cX3_load 57 = .ok (.ireturn, 1) := by decide +kernel
set_option maxRecDepth 20000 in
theorem ggX3_cue_X3_checkRange : GoodIn wsX3_cue wsX3_checkRange := goodIn_ca (goodIn_r _ [7, 8, 9] (by decide +kernel) (by decide +kernel)) (goodIn_sub (fun _ h => List.mem_cons_of_mem _ (List.mem_append_right _ h)) (by decide +kernel))
set_option maxRecDepth 20000 in
theorem gX3_cue_X3_checkRange : GoodIn wsX3_cue (va_wsS RX3 52 yX3_checkRange wsX3_checkRange) := goodIn_app (goodIn_of _ (by decide +kernel)) ggX3_cue_X3_checkRange
set_option maxRecDepth 20000 in
theorem ggX3_cue_X2_addCue : GoodIn wsX3_cue wsX2_addCue := goodIn_r _ [13, 14, 15, 16, 17, 25, 26, 27, 28, 29, 30, 31, 32, 33, 34, 35] (by decide +kernel) (by decide +kernel)
set_option maxRecDepth 20000 in
theorem gX3_cue_X2_addCue_n160 : GoodIn wsX3_cue (wsX2_addCue) := ggX3_cue_X2_addCue
theorem dX3_cue_0 : decode cX3_cue 0 = .ok (.iload_n 1, 1) := by decide +kernel
theorem dX3_cue_1 : decode cX3_cue 1 = .ok (.iconst 0, 1) := by decide +kernel
theorem dX3_cue_2 : decode cX3_cue 2 = .ok (.bipush 50, 2) := by decide +kernel
theorem dX3_cue_4 : decode cX3_cue 4 = .ok (.invokestatic 52, 3) := by decide +kernel
theorem dX3_cue_7 : decode cX3_cue 7 = .ok (.iload_n 2, 1) := by decide +kernel
theorem dX3_cue_8 : decode cX3_cue 8 = .ok (.iconst 0, 1) := by decide +kernel
theorem dX3_cue_9 : decode cX3_cue 9 = .ok (.iconst 2, 1) := by decide +kernel
theorem dX3_cue_10 : decode cX3_cue 10 = .ok (.invokestatic 52, 3) := by decide +kernel
theorem dX3_cue_13 : decode cX3_cue 13 = .ok (.iload_n 3, 1) := by decide +kernel
theorem dX3_cue_14 : decode cX3_cue 14 = .ok (.iconst (-1), 1) := by decide +kernel
theorem dX3_cue_15 : decode cX3_cue 15 = .ok (.bipush 50, 2) := by decide +kernel
theorem dX3_cue_17 : decode cX3_cue 17 = .ok (.invokestatic 52, 3) := by decide +kernel
theorem dX3_cue_20 : decode cX3_cue 20 = .ok (.aload_n 0, 1) := by decide +kernel
theorem dX3_cue_21 : decode cX3_cue 21 = .ok (.getfield 41, 3) := by decide +kernel
theorem dX3_cue_24 : decode cX3_cue 24 = .ok (.getfield 155, 3) := by decide +kernel
theorem dX3_cue_27 : decode cX3_cue 27 = .ok (.bipush 8, 2) := by decide +kernel
theorem dX3_cue_29 : decode cX3_cue 29 = .ok (.if_icmp .lt 13, 3) := by decide +kernel
theorem dX3_cue_32 : decode cX3_cue 32 = .ok (.new 59, 3) := by decide +kernel
theorem dX3_cue_35 : decode cX3_cue 35 = .ok (.dup, 1) := by decide +kernel
theorem dX3_cue_36 : decode cX3_cue 36 = .ok (.ldc 158, 2) := by decide +kernel
theorem dX3_cue_38 : decode cX3_cue 38 = .ok (.invokespecial 63, 3) := by decide +kernel
theorem dX3_cue_41 : decode cX3_cue 41 = .ok (.athrow, 1) := by decide +kernel
theorem dX3_cue_42 : decode cX3_cue 42 = .ok (.aload_n 0, 1) := by decide +kernel
theorem dX3_cue_43 : decode cX3_cue 43 = .ok (.getfield 41, 3) := by decide +kernel
theorem dX3_cue_46 : decode cX3_cue 46 = .ok (.iload_n 1, 1) := by decide +kernel
theorem dX3_cue_47 : decode cX3_cue 47 = .ok (.iload_n 2, 1) := by decide +kernel
theorem dX3_cue_48 : decode cX3_cue 48 = .ok (.iload_n 3, 1) := by decide +kernel
theorem dX3_cue_49 : decode cX3_cue 49 = .ok (.invokevirtual 160, 3) := by decide +kernel
theorem dX3_cue_52 : decode cX3_cue 52 = .ok (.ireturn, 1) := by decide +kernel
set_option maxRecDepth 20000 in
theorem ggX3_name_X3_checkLamp : GoodIn wsX3_name wsX3_checkLamp := goodIn_ca (goodIn_r _ [8, 1, 2, 9, 18, 19, 20, 21, 22, 23, 24] (by decide +kernel) (by decide +kernel)) (goodIn_sub (fun _ h => List.mem_cons_of_mem _ (List.mem_append_left _ (List.mem_append_right _ h))) (by decide +kernel))
set_option maxRecDepth 20000 in
theorem gX3_name_X3_checkLamp : GoodIn wsX3_name (wsV RX3 89 RX3 yX3_checkLamp wsX3_checkLamp) := goodIn_app (goodIn_of _ (by decide +kernel)) ggX3_name_X3_checkLamp
set_option maxRecDepth 20000 in
theorem ggX3_name_X3_checkRange : GoodIn wsX3_name wsX3_checkRange := goodIn_ca (goodIn_r _ [12, 13, 14] (by decide +kernel) (by decide +kernel)) (goodIn_sub (fun _ h => List.mem_cons_of_mem _ (List.mem_append_right _ h)) (by decide +kernel))
set_option maxRecDepth 20000 in
theorem gX3_name_X3_checkRange : GoodIn wsX3_name (va_wsS RX3 52 yX3_checkRange wsX3_checkRange) := goodIn_app (goodIn_of _ (by decide +kernel)) ggX3_name_X3_checkRange
set_option maxRecDepth 20000 in
theorem ggX3_name_X2_cell : GoodIn wsX3_name wsX2_cell := goodIn_r _ [17] (by decide +kernel) (by decide +kernel)
set_option maxRecDepth 20000 in
theorem gX3_name_X2_cell_n165 : GoodIn wsX3_name (wsX2_cell) := ggX3_name_X2_cell
theorem dX3_name_0 : decode cX3_name 0 = .ok (.iload_n 1, 1) := by decide +kernel
theorem dX3_name_1 : decode cX3_name 1 = .ok (.ifCond .lt 14, 3) := by decide +kernel
theorem dX3_name_4 : decode cX3_name 4 = .ok (.iload_n 1, 1) := by decide +kernel
theorem dX3_name_5 : decode cX3_name 5 = .ok (.aload_n 0, 1) := by decide +kernel
theorem dX3_name_6 : decode cX3_name 6 = .ok (.getfield 41, 3) := by decide +kernel
theorem dX3_name_9 : decode cX3_name 9 = .ok (.getfield 155, 3) := by decide +kernel
theorem dX3_name_12 : decode cX3_name 12 = .ok (.if_icmp .lt 13, 3) := by decide +kernel
theorem dX3_name_15 : decode cX3_name 15 = .ok (.new 45, 3) := by decide +kernel
theorem dX3_name_18 : decode cX3_name 18 = .ok (.dup, 1) := by decide +kernel
theorem dX3_name_19 : decode cX3_name 19 = .ok (.ldc 163, 2) := by decide +kernel
theorem dX3_name_21 : decode cX3_name 21 = .ok (.invokespecial 49, 3) := by decide +kernel
theorem dX3_name_24 : decode cX3_name 24 = .ok (.athrow, 1) := by decide +kernel
theorem dX3_name_25 : decode cX3_name 25 = .ok (.aload_n 0, 1) := by decide +kernel
theorem dX3_name_26 : decode cX3_name 26 = .ok (.iload_n 2, 1) := by decide +kernel
theorem dX3_name_27 : decode cX3_name 27 = .ok (.invokevirtual 89, 3) := by decide +kernel
theorem dX3_name_30 : decode cX3_name 30 = .ok (.iload_n 3, 1) := by decide +kernel
theorem dX3_name_31 : decode cX3_name 31 = .ok (.iconst (-1), 1) := by decide +kernel
theorem dX3_name_32 : decode cX3_name 32 = .ok (.bipush 100, 2) := by decide +kernel
theorem dX3_name_34 : decode cX3_name 34 = .ok (.invokestatic 52, 3) := by decide +kernel
theorem dX3_name_37 : decode cX3_name 37 = .ok (.iload_n 1, 1) := by decide +kernel
theorem dX3_name_38 : decode cX3_name 38 = .ok (.iload_n 2, 1) := by decide +kernel
theorem dX3_name_39 : decode cX3_name 39 = .ok (.invokestatic 165, 3) := by decide +kernel
theorem dX3_name_42 : decode cX3_name 42 = .ok (.istore 4, 2) := by decide +kernel
theorem dX3_name_44 : decode cX3_name 44 = .ok (.aload_n 0, 1) := by decide +kernel
theorem dX3_name_45 : decode cX3_name 45 = .ok (.getfield 41, 3) := by decide +kernel
theorem dX3_name_48 : decode cX3_name 48 = .ok (.getfield 168, 3) := by decide +kernel
theorem dX3_name_51 : decode cX3_name 51 = .ok (.iload 4, 2) := by decide +kernel
theorem dX3_name_53 : decode cX3_name 53 = .ok (.iaload, 1) := by decide +kernel
theorem dX3_name_54 : decode cX3_name 54 = .ok (.istore 5, 2) := by decide +kernel
theorem dX3_name_56 : decode cX3_name 56 = .ok (.aload_n 0, 1) := by decide +kernel
theorem dX3_name_57 : decode cX3_name 57 = .ok (.getfield 41, 3) := by decide +kernel
theorem dX3_name_60 : decode cX3_name 60 = .ok (.getfield 168, 3) := by decide +kernel
theorem dX3_name_63 : decode cX3_name 63 = .ok (.iload 4, 2) := by decide +kernel
theorem dX3_name_65 : decode cX3_name 65 = .ok (.iload_n 3, 1) := by decide +kernel
theorem dX3_name_66 : decode cX3_name 66 = .ok (.iastore, 1) := by decide +kernel
theorem dX3_name_67 : decode cX3_name 67 = .ok (.iload 5, 2) := by decide +kernel
theorem dX3_name_69 : decode cX3_name 69 = .ok (.ireturn, 1) := by decide +kernel
set_option maxRecDepth 20000 in
theorem ggX3_go_X2_beginNext : GoodIn wsX3_go wsX2_beginNext := goodIn_r _ [7, 8, 9, 10, 11, 12, 13, 5, 14, 15, 16, 17, 18, 19, 20, 21, 22, 23, 24, 25, 26, 27, 28, 29, 30, 31, 32, 33, 34, 35, 36, 44, 45, 46, 47, 48, 49, 50, 51, 52, 53, 54] (by decide +kernel) (by decide +kernel)
set_option maxRecDepth 20000 in
theorem gX3_go_X2_beginNext_n171 : GoodIn wsX3_go (wsX2_beginNext) := ggX3_go_X2_beginNext
theorem dX3_go_0 : decode cX3_go 0 = .ok (.aload_n 0, 1) := by decide +kernel
theorem dX3_go_1 : decode cX3_go 1 = .ok (.getfield 41, 3) := by decide +kernel
theorem dX3_go_4 : decode cX3_go 4 = .ok (.invokevirtual 171, 3) := by decide +kernel
theorem dX3_go_7 : decode cX3_go 7 = .ok (.ifCond .ne 13, 3) := by decide +kernel
theorem dX3_go_10 : decode cX3_go 10 = .ok (.new 59, 3) := by decide +kernel
theorem dX3_go_13 : decode cX3_go 13 = .ok (.dup, 1) := by decide +kernel
theorem dX3_go_14 : decode cX3_go 14 = .ok (.ldc 174, 2) := by decide +kernel
theorem dX3_go_16 : decode cX3_go 16 = .ok (.invokespecial 63, 3) := by decide +kernel
theorem dX3_go_19 : decode cX3_go 19 = .ok (.athrow, 1) := by decide +kernel
theorem dX3_go_20 : decode cX3_go 20 = .ok (.aload_n 0, 1) := by decide +kernel
theorem dX3_go_21 : decode cX3_go 21 = .ok (.getfield 41, 3) := by decide +kernel
theorem dX3_go_24 : decode cX3_go 24 = .ok (.getfield 176, 3) := by decide +kernel
theorem dX3_go_27 : decode cX3_go 27 = .ok (.ireturn, 1) := by decide +kernel
set_option maxRecDepth 20000 in
theorem ggX3_tick_X3_checkRange : GoodIn wsX3_tick wsX3_checkRange := goodIn_ca (goodIn_r _ [5, 6, 7] (by decide +kernel) (by decide +kernel)) (goodIn_sub (fun _ h => List.mem_cons_of_mem _ (List.mem_append_right _ h)) (by decide +kernel))
set_option maxRecDepth 20000 in
theorem gX3_tick_X3_checkRange : GoodIn wsX3_tick (va_wsS RX3 52 yX3_checkRange wsX3_checkRange) := goodIn_app (goodIn_of _ (by decide +kernel)) ggX3_tick_X3_checkRange
set_option maxRecDepth 20000 in
theorem ggX3_tick_X2_advance : GoodIn wsX3_tick wsX2_advance := goodIn_r _ [11, 12, 13, 14, 15, 16, 17, 18, 19, 9, 20, 21, 22, 23, 24, 25, 26, 27, 28, 29, 30, 31, 32, 33, 34, 35, 36, 37, 38, 39, 40, 41, 42, 43, 44, 69, 70, 71, 72, 73, 74, 75, 76, 77, 78, 79] (by decide +kernel) (by decide +kernel)
set_option maxRecDepth 20000 in
theorem gX3_tick_X2_advance_n179 : GoodIn wsX3_tick (wsX2_advance) := ggX3_tick_X2_advance
set_option maxRecDepth 20000 in
theorem ggX3_tick_X3_burnColours : GoodIn wsX3_tick wsX3_burnColours := goodIn_r _ [48, 49, 50, 51, 52, 53, 4, 54, 55, 56, 1, 57, 58, 59, 60, 61, 33, 9, 34, 35, 28, 14, 12, 16, 36, 27, 26, 37, 38, 39, 40, 41, 42, 43, 44, 62, 63, 64, 65, 66, 67, 68, 80, 81, 82, 83, 84, 85, 86, 87, 69, 70, 71, 72, 73, 74, 75, 76, 77, 78, 79] (by decide +kernel) (by decide +kernel)
set_option maxRecDepth 20000 in
theorem gX3_tick_X3_burnColours : GoodIn wsX3_tick (wsV RX3 182 RX3 yX3_burnColours wsX3_burnColours) := goodIn_app (goodIn_of _ (by decide +kernel)) ggX3_tick_X3_burnColours
theorem dX3_tick_0 : decode cX3_tick 0 = .ok (.iload_n 1, 1) := by decide +kernel
theorem dX3_tick_1 : decode cX3_tick 1 = .ok (.iconst 1, 1) := by decide +kernel
theorem dX3_tick_2 : decode cX3_tick 2 = .ok (.bipush 50, 2) := by decide +kernel
theorem dX3_tick_4 : decode cX3_tick 4 = .ok (.invokestatic 52, 3) := by decide +kernel
theorem dX3_tick_7 : decode cX3_tick 7 = .ok (.iconst 0, 1) := by decide +kernel
theorem dX3_tick_8 : decode cX3_tick 8 = .ok (.istore_n 2, 1) := by decide +kernel
theorem dX3_tick_9 : decode cX3_tick 9 = .ok (.iconst 0, 1) := by decide +kernel
theorem dX3_tick_10 : decode cX3_tick 10 = .ok (.istore_n 3, 1) := by decide +kernel
theorem dX3_tick_11 : decode cX3_tick 11 = .ok (.iload_n 3, 1) := by decide +kernel
theorem dX3_tick_12 : decode cX3_tick 12 = .ok (.iload_n 1, 1) := by decide +kernel
theorem dX3_tick_13 : decode cX3_tick 13 = .ok (.if_icmp .ge 23, 3) := by decide +kernel
theorem dX3_tick_16 : decode cX3_tick 16 = .ok (.iload_n 2, 1) := by decide +kernel
theorem dX3_tick_17 : decode cX3_tick 17 = .ok (.aload_n 0, 1) := by decide +kernel
theorem dX3_tick_18 : decode cX3_tick 18 = .ok (.getfield 41, 3) := by decide +kernel
theorem dX3_tick_21 : decode cX3_tick 21 = .ok (.invokevirtual 179, 3) := by decide +kernel
theorem dX3_tick_24 : decode cX3_tick 24 = .ok (.iadd, 1) := by decide +kernel
theorem dX3_tick_25 : decode cX3_tick 25 = .ok (.istore_n 2, 1) := by decide +kernel
theorem dX3_tick_26 : decode cX3_tick 26 = .ok (.aload_n 0, 1) := by decide +kernel
theorem dX3_tick_27 : decode cX3_tick 27 = .ok (.invokevirtual 182, 3) := by decide +kernel
theorem dX3_tick_30 : decode cX3_tick 30 = .ok (.iinc 3 1, 3) := by decide +kernel
theorem dX3_tick_33 : decode cX3_tick 33 = .ok (.goto (-22), 3) := by decide +kernel
theorem dX3_tick_36 : decode cX3_tick 36 = .ok (.iload_n 2, 1) := by decide +kernel
theorem dX3_tick_37 : decode cX3_tick 37 = .ok (.ireturn, 1) := by decide +kernel
set_option maxRecDepth 20000 in
theorem ggX3_rewind_X2_reset : GoodIn wsX3_rewind wsX2_reset := goodIn_r _ [5, 6, 7, 8, 9, 10, 11, 19, 20, 21, 22, 23, 24, 25, 26, 27, 28, 29] (by decide +kernel) (by decide +kernel)
set_option maxRecDepth 20000 in
theorem gX3_rewind_X2_reset_n185 : GoodIn wsX3_rewind (wsX2_reset) := ggX3_rewind_X2_reset
theorem dX3_rewind_0 : decode cX3_rewind 0 = .ok (.aload_n 0, 1) := by decide +kernel
theorem dX3_rewind_1 : decode cX3_rewind 1 = .ok (.getfield 41, 3) := by decide +kernel
theorem dX3_rewind_4 : decode cX3_rewind 4 = .ok (.invokevirtual 185, 3) := by decide +kernel
theorem dX3_rewind_7 : decode cX3_rewind 7 = .ok (.ireturn, 1) := by decide +kernel
set_option maxRecDepth 20000 in
theorem ggX3_level_X3_checkLamp : GoodIn wsX3_level wsX3_checkLamp := goodIn_ca (goodIn_r _ [5, 6, 7, 8, 40, 41, 42, 43, 44, 45, 46] (by decide +kernel) (by decide +kernel)) (goodIn_sub (fun _ h => List.mem_cons_of_mem _ (List.mem_append_right _ h)) (by decide +kernel))
set_option maxRecDepth 20000 in
theorem gX3_level_X3_checkLamp : GoodIn wsX3_level (wsV RX3 89 RX3 yX3_checkLamp wsX3_checkLamp) := goodIn_app (goodIn_of _ (by decide +kernel)) ggX3_level_X3_checkLamp
set_option maxRecDepth 20000 in
theorem ggX3_level_X3_shownLevel : GoodIn wsX3_level wsX3_shownLevel := goodIn_r _ [12, 13, 14, 15, 16, 17, 18, 19, 20, 21, 22, 23, 24, 25, 26, 27, 28, 29, 30, 31, 32, 33, 34, 35, 36, 37, 38, 39, 40, 41, 42, 43, 44, 45, 46, 47, 48, 49, 50, 51, 52, 53, 54, 55, 56, 57, 58, 59, 60, 61, 62, 63, 64, 65] (by decide +kernel) (by decide +kernel)
set_option maxRecDepth 20000 in
theorem gX3_level_X3_shownLevel : GoodIn wsX3_level (wsV RX3 152 RX3 yX3_shownLevel wsX3_shownLevel) := goodIn_app (goodIn_of _ (by decide +kernel)) ggX3_level_X3_shownLevel
theorem dX3_level_0 : decode cX3_level 0 = .ok (.aload_n 0, 1) := by decide +kernel
theorem dX3_level_1 : decode cX3_level 1 = .ok (.iload_n 1, 1) := by decide +kernel
theorem dX3_level_2 : decode cX3_level 2 = .ok (.invokevirtual 89, 3) := by decide +kernel
theorem dX3_level_5 : decode cX3_level 5 = .ok (.aload_n 0, 1) := by decide +kernel
theorem dX3_level_6 : decode cX3_level 6 = .ok (.iload_n 1, 1) := by decide +kernel
theorem dX3_level_7 : decode cX3_level 7 = .ok (.invokevirtual 152, 3) := by decide +kernel
theorem dX3_level_10 : decode cX3_level 10 = .ok (.ireturn, 1) := by decide +kernel
set_option maxRecDepth 20000 in
theorem ggX3_wanted_X3_checkLamp : GoodIn wsX3_wanted wsX3_checkLamp := goodIn_ca (goodIn_r _ [6, 7, 8, 9, 29, 30, 31, 32, 33, 34, 35] (by decide +kernel) (by decide +kernel)) (goodIn_sub (fun _ h => List.mem_cons_of_mem _ (List.mem_append_right _ h)) (by decide +kernel))
set_option maxRecDepth 20000 in
theorem gX3_wanted_X3_checkLamp : GoodIn wsX3_wanted (wsV RX3 89 RX3 yX3_checkLamp wsX3_checkLamp) := goodIn_app (goodIn_of _ (by decide +kernel)) ggX3_wanted_X3_checkLamp
set_option maxRecDepth 20000 in
theorem ggX3_wanted_X2_wantedLevel : GoodIn wsX3_wanted wsX2_wantedLevel := goodIn_r _ [13, 14, 15, 16, 17, 18, 19, 20, 21, 22, 23, 11, 24, 25, 26, 27, 28, 36, 37, 38, 39, 40, 41, 42, 43, 44, 45, 46] (by decide +kernel) (by decide +kernel)
set_option maxRecDepth 20000 in
theorem gX3_wanted_X2_wantedLevel_n188 : GoodIn wsX3_wanted (wsX2_wantedLevel) := ggX3_wanted_X2_wantedLevel
theorem dX3_wanted_0 : decode cX3_wanted 0 = .ok (.aload_n 0, 1) := by decide +kernel
theorem dX3_wanted_1 : decode cX3_wanted 1 = .ok (.iload_n 1, 1) := by decide +kernel
theorem dX3_wanted_2 : decode cX3_wanted 2 = .ok (.invokevirtual 89, 3) := by decide +kernel
theorem dX3_wanted_5 : decode cX3_wanted 5 = .ok (.aload_n 0, 1) := by decide +kernel
theorem dX3_wanted_6 : decode cX3_wanted 6 = .ok (.getfield 41, 3) := by decide +kernel
theorem dX3_wanted_9 : decode cX3_wanted 9 = .ok (.iload_n 1, 1) := by decide +kernel
theorem dX3_wanted_10 : decode cX3_wanted 10 = .ok (.invokevirtual 188, 3) := by decide +kernel
theorem dX3_wanted_13 : decode cX3_wanted 13 = .ok (.ireturn, 1) := by decide +kernel
set_option maxRecDepth 20000 in
theorem ggX3_wantedByCues_X3_checkLamp : GoodIn wsX3_wantedByCues wsX3_checkLamp := goodIn_ca (goodIn_r _ [6, 7, 8, 9, 29, 30, 31, 32, 33, 34, 35] (by decide +kernel) (by decide +kernel)) (goodIn_sub (fun _ h => List.mem_cons_of_mem _ (List.mem_append_right _ h)) (by decide +kernel))
set_option maxRecDepth 20000 in
theorem gX3_wantedByCues_X3_checkLamp : GoodIn wsX3_wantedByCues (wsV RX3 89 RX3 yX3_checkLamp wsX3_checkLamp) := goodIn_app (goodIn_of _ (by decide +kernel)) ggX3_wantedByCues_X3_checkLamp
set_option maxRecDepth 20000 in
theorem ggX3_wantedByCues_X2_wantedLevel : GoodIn wsX3_wantedByCues wsX2_wantedLevel := goodIn_r _ [13, 14, 15, 16, 17, 18, 19, 20, 21, 22, 23, 11, 24, 25, 26, 27, 28, 36, 37, 38, 39, 40, 41, 42, 43, 44, 45, 46] (by decide +kernel) (by decide +kernel)
set_option maxRecDepth 20000 in
theorem gX3_wantedByCues_X2_wantedLevel_n188 : GoodIn wsX3_wantedByCues (wsX2_wantedLevel) := ggX3_wantedByCues_X2_wantedLevel
theorem dX3_wantedByCues_0 : decode cX3_wantedByCues 0 = .ok (.aload_n 0, 1) := by decide +kernel
theorem dX3_wantedByCues_1 : decode cX3_wantedByCues 1 = .ok (.iload_n 1, 1) := by decide +kernel
theorem dX3_wantedByCues_2 : decode cX3_wantedByCues 2 = .ok (.invokevirtual 89, 3) := by decide +kernel
theorem dX3_wantedByCues_5 : decode cX3_wantedByCues 5 = .ok (.aload_n 0, 1) := by decide +kernel
theorem dX3_wantedByCues_6 : decode cX3_wantedByCues 6 = .ok (.getfield 41, 3) := by decide +kernel
theorem dX3_wantedByCues_9 : decode cX3_wantedByCues 9 = .ok (.iload_n 1, 1) := by decide +kernel
theorem dX3_wantedByCues_10 : decode cX3_wantedByCues 10 = .ok (.invokevirtual 188, 3) := by decide +kernel
theorem dX3_wantedByCues_13 : decode cX3_wantedByCues 13 = .ok (.ireturn, 1) := by decide +kernel
set_option maxRecDepth 20000 in
theorem ggX3_bulb_X3_checkLamp : GoodIn wsX3_bulb wsX3_checkLamp := goodIn_ca (goodIn_r _ [6, 7, 8, 9, 10, 11, 12, 13, 14, 15, 16] (by decide +kernel) (by decide +kernel)) (goodIn_sub (fun _ h => List.mem_cons_of_mem _ (List.mem_append_right _ h)) (by decide +kernel))
set_option maxRecDepth 20000 in
theorem gX3_bulb_X3_checkLamp : GoodIn wsX3_bulb (wsV RX3 89 RX3 yX3_checkLamp wsX3_checkLamp) := goodIn_app (goodIn_of _ (by decide +kernel)) ggX3_bulb_X3_checkLamp
theorem dX3_bulb_0 : decode cX3_bulb 0 = .ok (.aload_n 0, 1) := by decide +kernel
theorem dX3_bulb_1 : decode cX3_bulb 1 = .ok (.iload_n 1, 1) := by decide +kernel
theorem dX3_bulb_2 : decode cX3_bulb 2 = .ok (.invokevirtual 89, 3) := by decide +kernel
theorem dX3_bulb_5 : decode cX3_bulb 5 = .ok (.aload_n 0, 1) := by decide +kernel
theorem dX3_bulb_6 : decode cX3_bulb 6 = .ok (.getfield 20, 3) := by decide +kernel
theorem dX3_bulb_9 : decode cX3_bulb 9 = .ok (.iload_n 1, 1) := by decide +kernel
theorem dX3_bulb_10 : decode cX3_bulb 10 = .ok (.aload_n 0, 1) := by decide +kernel
theorem dX3_bulb_11 : decode cX3_bulb 11 = .ok (.getfield 20, 3) := by decide +kernel
theorem dX3_bulb_14 : decode cX3_bulb 14 = .ok (.iload_n 1, 1) := by decide +kernel
theorem dX3_bulb_15 : decode cX3_bulb 15 = .ok (.baload, 1) := by decide +kernel
theorem dX3_bulb_16 : decode cX3_bulb 16 = .ok (.ifCond .ne 7, 3) := by decide +kernel
theorem dX3_bulb_19 : decode cX3_bulb 19 = .ok (.iconst 1, 1) := by decide +kernel
theorem dX3_bulb_20 : decode cX3_bulb 20 = .ok (.goto 4, 3) := by decide +kernel
theorem dX3_bulb_23 : decode cX3_bulb 23 = .ok (.iconst 0, 1) := by decide +kernel
theorem dX3_bulb_24 : decode cX3_bulb 24 = .ok (.bastore, 1) := by decide +kernel
theorem dX3_bulb_25 : decode cX3_bulb 25 = .ok (.aload_n 0, 1) := by decide +kernel
theorem dX3_bulb_26 : decode cX3_bulb 26 = .ok (.getfield 20, 3) := by decide +kernel
theorem dX3_bulb_29 : decode cX3_bulb 29 = .ok (.iload_n 1, 1) := by decide +kernel
theorem dX3_bulb_30 : decode cX3_bulb 30 = .ok (.baload, 1) := by decide +kernel
theorem dX3_bulb_31 : decode cX3_bulb 31 = .ok (.ifCond .ne 7, 3) := by decide +kernel
theorem dX3_bulb_34 : decode cX3_bulb 34 = .ok (.iconst 1, 1) := by decide +kernel
theorem dX3_bulb_35 : decode cX3_bulb 35 = .ok (.goto 4, 3) := by decide +kernel
theorem dX3_bulb_38 : decode cX3_bulb 38 = .ok (.iconst 0, 1) := by decide +kernel
theorem dX3_bulb_39 : decode cX3_bulb 39 = .ok (.ireturn, 1) := by decide +kernel
set_option maxRecDepth 20000 in
theorem ggX3_standIn_X3_checkLamp : GoodIn wsX3_standIn wsX3_checkLamp := goodIn_ca (goodIn_r _ [11, 12, 13, 14, 24, 25, 26, 27, 28, 29, 30] (by decide +kernel) (by decide +kernel)) (goodIn_sub (fun _ h => List.mem_cons_of_mem _ (List.mem_append_right _ h)) (by decide +kernel))
set_option maxRecDepth 20000 in
theorem gX3_standIn_X3_checkLamp : GoodIn wsX3_standIn (wsV RX3 89 RX3 yX3_checkLamp wsX3_checkLamp) := goodIn_app (goodIn_of _ (by decide +kernel)) ggX3_standIn_X3_checkLamp
set_option maxRecDepth 20000 in
theorem ggX3_standIn_X2_handOver : GoodIn wsX3_standIn wsX2_handOver := goodIn_r _ [18, 19, 20, 21, 22, 16, 23, 31, 32, 33, 34, 35, 36, 37, 38, 39, 40, 41] (by decide +kernel) (by decide +kernel)
