theorem dX4_init_0 : decode cX4_init 0 = .ok (.aload_n 0, 1) := by decide +kernel
theorem dX4_init_1 : decode cX4_init 1 = .ok (.invokespecial 1, 3) := by decide +kernel
theorem dX4_init_4 : decode cX4_init 4 = .ok (.aload_n 0, 1) := by decide +kernel
theorem dX4_init_5 : decode cX4_init 5 = .ok (.iconst 2, 1) := by decide +kernel
theorem dX4_init_6 : decode cX4_init 6 = .ok (.newarray .int, 2) := by decide +kernel
theorem dX4_init_8 : decode cX4_init 8 = .ok (.putfield 7, 3) := by decide +kernel
theorem dX4_init_11 : decode cX4_init 11 = .ok (.aload_n 0, 1) := by decide +kernel
theorem dX4_init_12 : decode cX4_init 12 = .ok (.bipush 8, 2) := by decide +kernel
theorem dX4_init_14 : decode cX4_init 14 = .ok (.newarray .int, 2) := by decide +kernel
theorem dX4_init_16 : decode cX4_init 16 = .ok (.putfield 13, 3) := by decide +kernel
theorem dX4_init_19 : decode cX4_init 19 = .ok (.aload_n 0, 1) := by decide +kernel
theorem dX4_init_20 : decode cX4_init 20 = .ok (.bipush 8, 2) := by decide +kernel
theorem dX4_init_22 : decode cX4_init 22 = .ok (.newarray .int, 2) := by decide +kernel
theorem dX4_init_24 : decode cX4_init 24 = .ok (.putfield 16, 3) := by decide +kernel
theorem dX4_init_27 : decode cX4_init 27 = .ok (.aload_n 0, 1) := by decide +kernel
theorem dX4_init_28 : decode cX4_init 28 = .ok (.bipush 10, 2) := by decide +kernel
theorem dX4_init_30 : decode cX4_init 30 = .ok (.newarray .int, 2) := by decide +kernel
theorem dX4_init_32 : decode cX4_init 32 = .ok (.putfield 19, 3) := by decide +kernel
theorem dX4_init_35 : decode cX4_init 35 = .ok (.aload_n 0, 1) := by decide +kernel
theorem dX4_init_36 : decode cX4_init 36 = .ok (.bipush 10, 2) := by decide +kernel
theorem dX4_init_38 : decode cX4_init 38 = .ok (.newarray .int, 2) := by decide +kernel
theorem dX4_init_40 : decode cX4_init 40 = .ok (.putfield 22, 3) := by decide +kernel
theorem dX4_init_43 : decode cX4_init 43 = .ok (.aload_n 0, 1) := by decide +kernel
theorem dX4_init_44 : decode cX4_init 44 = .ok (.bipush 10, 2) := by decide +kernel
theorem dX4_init_46 : decode cX4_init 46 = .ok (.newarray .int, 2) := by decide +kernel
theorem dX4_init_48 : decode cX4_init 48 = .ok (.putfield 25, 3) := by decide +kernel
theorem dX4_init_51 : decode cX4_init 51 = .ok (.aload_n 0, 1) := by decide +kernel
theorem dX4_init_52 : decode cX4_init 52 = .ok (.bipush 10, 2) := by decide +kernel
theorem dX4_init_54 : decode cX4_init 54 = .ok (.newarray .int, 2) := by decide +kernel
theorem dX4_init_56 : decode cX4_init 56 = .ok (.putfield 28, 3) := by decide +kernel
theorem dX4_init_59 : decode cX4_init 59 = .ok (.aload_n 0, 1) := by decide +kernel
theorem dX4_init_60 : decode cX4_init 60 = .ok (.bipush 10, 2) := by decide +kernel
theorem dX4_init_62 : decode cX4_init 62 = .ok (.newarray .int, 2) := by decide +kernel
theorem dX4_init_64 : decode cX4_init 64 = .ok (.putfield 31, 3) := by decide +kernel
theorem dX4_init_67 : decode cX4_init 67 = .ok (.aload_n 0, 1) := by decide +kernel
theorem dX4_init_68 : decode cX4_init 68 = .ok (.bipush 10, 2) := by decide +kernel
theorem dX4_init_70 : decode cX4_init 70 = .ok (.newarray .int, 2) := by decide +kernel
theorem dX4_init_72 : decode cX4_init 72 = .ok (.putfield 34, 3) := by decide +kernel
theorem dX4_init_75 : decode cX4_init 75 = .ok (.aload_n 0, 1) := by decide +kernel
theorem dX4_init_76 : decode cX4_init 76 = .ok (.bipush 10, 2) := by decide +kernel
theorem dX4_init_78 : decode cX4_init 78 = .ok (.newarray .boolean, 2) := by decide +kernel
theorem dX4_init_80 : decode cX4_init 80 = .ok (.putfield 37, 3) := by decide +kernel
theorem dX4_init_83 : decode cX4_init 83 = .ok (.aload_n 0, 1) := by decide +kernel
theorem dX4_init_84 : decode cX4_init 84 = .ok (.bipush 10, 2) := by decide +kernel
theorem dX4_init_86 : decode cX4_init 86 = .ok (.newarray .int, 2) := by decide +kernel
theorem dX4_init_88 : decode cX4_init 88 = .ok (.putfield 41, 3) := by decide +kernel
theorem dX4_init_91 : decode cX4_init 91 = .ok (.aload_n 0, 1) := by decide +kernel
theorem dX4_init_92 : decode cX4_init 92 = .ok (.bipush 10, 2) := by decide +kernel
theorem dX4_init_94 : decode cX4_init 94 = .ok (.newarray .int, 2) := by decide +kernel
theorem dX4_init_96 : decode cX4_init 96 = .ok (.putfield 44, 3) := by decide +kernel
theorem dX4_init_99 : decode cX4_init 99 = .ok (.aload_n 0, 1) := by decide +kernel
theorem dX4_init_100 : decode cX4_init 100 = .ok (.bipush 10, 2) := by decide +kernel
theorem dX4_init_102 : decode cX4_init 102 = .ok (.newarray .int, 2) := by decide +kernel
theorem dX4_init_104 : decode cX4_init 104 = .ok (.putfield 47, 3) := by decide +kernel
theorem dX4_init_107 : decode cX4_init 107 = .ok (.aload_n 0, 1) := by decide +kernel
theorem dX4_init_108 : decode cX4_init 108 = .ok (.bipush 10, 2) := by decide +kernel
theorem dX4_init_110 : decode cX4_init 110 = .ok (.newarray .int, 2) := by decide +kernel
theorem dX4_init_112 : decode cX4_init 112 = .ok (.putfield 50, 3) := by decide +kernel
theorem dX4_init_115 : decode cX4_init 115 = .ok (.aload_n 0, 1) := by decide +kernel
theorem dX4_init_116 : decode cX4_init 116 = .ok (.bipush 10, 2) := by decide +kernel
theorem dX4_init_118 : decode cX4_init 118 = .ok (.newarray .int, 2) := by decide +kernel
theorem dX4_init_120 : decode cX4_init 120 = .ok (.putfield 53, 3) := by decide +kernel
theorem dX4_init_123 : decode cX4_init 123 = .ok (.aload_n 0, 1) := by decide +kernel
theorem dX4_init_124 : decode cX4_init 124 = .ok (.bipush 10, 2) := by decide +kernel
theorem dX4_init_126 : decode cX4_init 126 = .ok (.newarray .int, 2) := by decide +kernel
theorem dX4_init_128 : decode cX4_init 128 = .ok (.putfield 56, 3) := by decide +kernel
theorem dX4_init_131 : decode cX4_init 131 = .ok (.aload_n 0, 1) := by decide +kernel
theorem dX4_init_132 : decode cX4_init 132 = .ok (.bipush 8, 2) := by decide +kernel
theorem dX4_init_134 : decode cX4_init 134 = .ok (.newarray .int, 2) := by decide +kernel
theorem dX4_init_136 : decode cX4_init 136 = .ok (.putfield 59, 3) := by decide +kernel
theorem dX4_init_139 : decode cX4_init 139 = .ok (.aload_n 0, 1) := by decide +kernel
theorem dX4_init_140 : decode cX4_init 140 = .ok (.bipush 8, 2) := by decide +kernel
theorem dX4_init_142 : decode cX4_init 142 = .ok (.newarray .int, 2) := by decide +kernel
theorem dX4_init_144 : decode cX4_init 144 = .ok (.putfield 62, 3) := by decide +kernel
theorem dX4_init_147 : decode cX4_init 147 = .ok (.aload_n 0, 1) := by decide +kernel
theorem dX4_init_148 : decode cX4_init 148 = .ok (.bipush 8, 2) := by decide +kernel
theorem dX4_init_150 : decode cX4_init 150 = .ok (.newarray .int, 2) := by decide +kernel
theorem dX4_init_152 : decode cX4_init 152 = .ok (.putfield 65, 3) := by decide +kernel
theorem dX4_init_155 : decode cX4_init 155 = .ok (.aload_n 0, 1) := by decide +kernel
theorem dX4_init_156 : decode cX4_init 156 = .ok (.bipush 80, 2) := by decide +kernel
theorem dX4_init_158 : decode cX4_init 158 = .ok (.newarray .int, 2) := by decide +kernel
theorem dX4_init_160 : decode cX4_init 160 = .ok (.putfield 68, 3) := by decide +kernel
theorem dX4_init_163 : decode cX4_init 163 = .ok (.aload_n 0, 1) := by decide +kernel
theorem dX4_init_164 : decode cX4_init 164 = .ok (.bipush 10, 2) := by decide +kernel
theorem dX4_init_166 : decode cX4_init 166 = .ok (.newarray .int, 2) := by decide +kernel
theorem dX4_init_168 : decode cX4_init 168 = .ok (.putfield 71, 3) := by decide +kernel
theorem dX4_init_171 : decode cX4_init 171 = .ok (.iconst 0, 1) := by decide +kernel
theorem dX4_init_172 : decode cX4_init 172 = .ok (.istore_n 1, 1) := by decide +kernel
theorem dX4_init_173 : decode cX4_init 173 = .ok (.iload_n 1, 1) := by decide +kernel
theorem dX4_init_174 : decode cX4_init 174 = .ok (.bipush 80, 2) := by decide +kernel
theorem dX4_init_176 : decode cX4_init 176 = .ok (.if_icmp .ge 16, 3) := by decide +kernel
theorem dX4_init_179 : decode cX4_init 179 = .ok (.aload_n 0, 1) := by decide +kernel
theorem dX4_init_180 : decode cX4_init 180 = .ok (.getfield 68, 3) := by decide +kernel
theorem dX4_init_183 : decode cX4_init 183 = .ok (.iload_n 1, 1) := by decide +kernel
theorem dX4_init_184 : decode cX4_init 184 = .ok (.iconst (-1), 1) := by decide +kernel
theorem dX4_init_185 : decode cX4_init 185 = .ok (.iastore, 1) := by decide +kernel
theorem dX4_init_186 : decode cX4_init 186 = .ok (.iinc 1 1, 3) := by decide +kernel
theorem dX4_init_189 : decode cX4_init 189 = .ok (.goto (-16), 3) := by decide +kernel
theorem dX4_init_192 : decode cX4_init 192 = .ok (.return_, 1) := by decide +kernel
theorem dX4_thrown_0 : decode cX4_thrown 0 = .ok (.aload_n 0, 1) := by decide +kernel
theorem dX4_thrown_1 : decode cX4_thrown 1 = .ok (.getfield 74, 3) := by decide +kernel
theorem dX4_thrown_4 : decode cX4_thrown 4 = .ok (.ireturn, 1) := by decide +kernel
theorem dX4_may_0 : decode cX4_may 0 = .ok (.aload_n 0, 1) := by decide +kernel
theorem dX4_may_1 : decode cX4_may 1 = .ok (.iload_n 1, 1) := by decide +kernel
theorem dX4_may_2 : decode cX4_may 2 = .ok (.ifCond .eq 7, 3) := by decide +kernel
theorem dX4_may_5 : decode cX4_may 5 = .ok (.iconst 0, 1) := by decide +kernel
theorem dX4_may_6 : decode cX4_may 6 = .ok (.goto 4, 3) := by decide +kernel
theorem dX4_may_9 : decode cX4_may 9 = .ok (.iconst 1, 1) := by decide +kernel
theorem dX4_may_10 : decode cX4_may 10 = .ok (.putfield 74, 3) := by decide +kernel
theorem dX4_may_13 : decode cX4_may 13 = .ok (.iload_n 1, 1) := by decide +kernel
theorem dX4_may_14 : decode cX4_may 14 = .ok (.ireturn, 1) := by decide +kernel
theorem dX4_mayBoth_0 : decode cX4_mayBoth 0 = .ok (.aload_n 0, 1) := by decide +kernel
theorem dX4_mayBoth_1 : decode cX4_mayBoth 1 = .ok (.iload_n 1, 1) := by decide +kernel
theorem dX4_mayBoth_2 : decode cX4_mayBoth 2 = .ok (.ifCond .ne 7, 3) := by decide +kernel
theorem dX4_mayBoth_5 : decode cX4_mayBoth 5 = .ok (.iconst 1, 1) := by decide +kernel
theorem dX4_mayBoth_6 : decode cX4_mayBoth 6 = .ok (.goto 12, 3) := by decide +kernel
theorem dX4_mayBoth_9 : decode cX4_mayBoth 9 = .ok (.iload_n 2, 1) := by decide +kernel
theorem dX4_mayBoth_10 : decode cX4_mayBoth 10 = .ok (.ifCond .ne 7, 3) := by decide +kernel
theorem dX4_mayBoth_13 : decode cX4_mayBoth 13 = .ok (.iconst 2, 1) := by decide +kernel
theorem dX4_mayBoth_14 : decode cX4_mayBoth 14 = .ok (.goto 4, 3) := by decide +kernel
theorem dX4_mayBoth_17 : decode cX4_mayBoth 17 = .ok (.iconst 0, 1) := by decide +kernel
theorem dX4_mayBoth_18 : decode cX4_mayBoth 18 = .ok (.putfield 74, 3) := by decide +kernel
theorem dX4_mayBoth_21 : decode cX4_mayBoth 21 = .ok (.aload_n 0, 1) := by decide +kernel
theorem dX4_mayBoth_22 : decode cX4_mayBoth 22 = .ok (.getfield 74, 3) := by decide +kernel
theorem dX4_mayBoth_25 : decode cX4_mayBoth 25 = .ok (.ifCond .ne 7, 3) := by decide +kernel
theorem dX4_mayBoth_28 : decode cX4_mayBoth 28 = .ok (.iconst 1, 1) := by decide +kernel
theorem dX4_mayBoth_29 : decode cX4_mayBoth 29 = .ok (.goto 4, 3) := by decide +kernel
theorem dX4_mayBoth_32 : decode cX4_mayBoth 32 = .ok (.iconst 0, 1) := by decide +kernel
theorem dX4_mayBoth_33 : decode cX4_mayBoth 33 = .ok (.ireturn, 1) := by decide +kernel
theorem dX4_mayAll_0 : decode cX4_mayAll 0 = .ok (.aload_n 0, 1) := by decide +kernel
theorem dX4_mayAll_1 : decode cX4_mayAll 1 = .ok (.iload_n 1, 1) := by decide +kernel
theorem dX4_mayAll_2 : decode cX4_mayAll 2 = .ok (.ifCond .ne 7, 3) := by decide +kernel
theorem dX4_mayAll_5 : decode cX4_mayAll 5 = .ok (.iconst 1, 1) := by decide +kernel
theorem dX4_mayAll_6 : decode cX4_mayAll 6 = .ok (.goto 20, 3) := by decide +kernel
theorem dX4_mayAll_9 : decode cX4_mayAll 9 = .ok (.iload_n 2, 1) := by decide +kernel
theorem dX4_mayAll_10 : decode cX4_mayAll 10 = .ok (.ifCond .ne 7, 3) := by decide +kernel
theorem dX4_mayAll_13 : decode cX4_mayAll 13 = .ok (.iconst 2, 1) := by decide +kernel
theorem dX4_mayAll_14 : decode cX4_mayAll 14 = .ok (.goto 12, 3) := by decide +kernel
theorem dX4_mayAll_17 : decode cX4_mayAll 17 = .ok (.iload_n 3, 1) := by decide +kernel
theorem dX4_mayAll_18 : decode cX4_mayAll 18 = .ok (.ifCond .ne 7, 3) := by decide +kernel
theorem dX4_mayAll_21 : decode cX4_mayAll 21 = .ok (.iconst 3, 1) := by decide +kernel
theorem dX4_mayAll_22 : decode cX4_mayAll 22 = .ok (.goto 4, 3) := by decide +kernel
theorem dX4_mayAll_25 : decode cX4_mayAll 25 = .ok (.iconst 0, 1) := by decide +kernel
theorem dX4_mayAll_26 : decode cX4_mayAll 26 = .ok (.putfield 74, 3) := by decide +kernel
theorem dX4_mayAll_29 : decode cX4_mayAll 29 = .ok (.aload_n 0, 1) := by decide +kernel
theorem dX4_mayAll_30 : decode cX4_mayAll 30 = .ok (.getfield 74, 3) := by decide +kernel
theorem dX4_mayAll_33 : decode cX4_mayAll 33 = .ok (.ifCond .ne 7, 3) := by decide +kernel
theorem dX4_mayAll_36 : decode cX4_mayAll 36 = .ok (.iconst 1, 1) := by decide +kernel
theorem dX4_mayAll_37 : decode cX4_mayAll 37 = .ok (.goto 4, 3) := by decide +kernel
theorem dX4_mayAll_40 : decode cX4_mayAll 40 = .ok (.iconst 0, 1) := by decide +kernel
theorem dX4_mayAll_41 : decode cX4_mayAll 41 = .ok (.ireturn, 1) := by decide +kernel
theorem dX4_isIn_0 : decode cX4_isIn 0 = .ok (.iload_n 0, 1) := by decide +kernel
theorem dX4_isIn_1 : decode cX4_isIn 1 = .ok (.iload_n 1, 1) := by decide +kernel
theorem dX4_isIn_2 : decode cX4_isIn 2 = .ok (.if_icmp .lt 12, 3) := by decide +kernel
theorem dX4_isIn_5 : decode cX4_isIn 5 = .ok (.iload_n 0, 1) := by decide +kernel
theorem dX4_isIn_6 : decode cX4_isIn 6 = .ok (.iload_n 2, 1) := by decide +kernel
theorem dX4_isIn_7 : decode cX4_isIn 7 = .ok (.if_icmp .gt 7, 3) := by decide +kernel
theorem dX4_isIn_10 : decode cX4_isIn 10 = .ok (.iconst 1, 1) := by decide +kernel
theorem dX4_isIn_11 : decode cX4_isIn 11 = .ok (.goto 4, 3) := by decide +kernel
theorem dX4_isIn_14 : decode cX4_isIn 14 = .ok (.iconst 0, 1) := by decide +kernel
theorem dX4_isIn_15 : decode cX4_isIn 15 = .ok (.ireturn, 1) := by decide +kernel
set_option maxRecDepth 20000 in
theorem ggX4_isLamp_X4_isIn : GoodIn wsX4_isLamp wsX4_isIn := goodIn_r _ [5] (by decide +kernel) (by decide +kernel)
set_option maxRecDepth 20000 in
theorem gX4_isLamp_X4_isIn : GoodIn wsX4_isLamp (va_wsS RX4 81 yX4_isIn wsX4_isIn) := goodIn_app (goodIn_of _ (by decide +kernel)) ggX4_isLamp_X4_isIn
theorem dX4_isLamp_0 : decode cX4_isLamp 0 = .ok (.iload_n 1, 1) := by decide +kernel
theorem dX4_isLamp_1 : decode cX4_isLamp 1 = .ok (.iconst 0, 1) := by decide +kernel
theorem dX4_isLamp_2 : decode cX4_isLamp 2 = .ok (.aload_n 0, 1) := by decide +kernel
theorem dX4_isLamp_3 : decode cX4_isLamp 3 = .ok (.getfield 78, 3) := by decide +kernel
theorem dX4_isLamp_6 : decode cX4_isLamp 6 = .ok (.iconst 1, 1) := by decide +kernel
theorem dX4_isLamp_7 : decode cX4_isLamp 7 = .ok (.isub, 1) := by decide +kernel
theorem dX4_isLamp_8 : decode cX4_isLamp 8 = .ok (.invokestatic 81, 3) := by decide +kernel
theorem dX4_isLamp_11 : decode cX4_isLamp 11 = .ok (.ireturn, 1) := by decide +kernel
set_option maxRecDepth 20000 in
theorem ggX4_isBar_X4_isIn : GoodIn wsX4_isBar wsX4_isIn := goodIn_r _ [6] (by decide +kernel) (by decide +kernel)
set_option maxRecDepth 20000 in
theorem gX4_isBar_X4_isIn : GoodIn wsX4_isBar (va_wsS RX4 81 yX4_isIn wsX4_isIn) := goodIn_app (goodIn_of _ (by decide +kernel)) ggX4_isBar_X4_isIn
theorem dX4_isBar_0 : decode cX4_isBar 0 = .ok (.iload_n 1, 1) := by decide +kernel
theorem dX4_isBar_1 : decode cX4_isBar 1 = .ok (.iconst 0, 1) := by decide +kernel
theorem dX4_isBar_2 : decode cX4_isBar 2 = .ok (.aload_n 0, 1) := by decide +kernel
theorem dX4_isBar_3 : decode cX4_isBar 3 = .ok (.getfield 7, 3) := by decide +kernel
theorem dX4_isBar_6 : decode cX4_isBar 6 = .ok (.aload_n 0, 1) := by decide +kernel
theorem dX4_isBar_7 : decode cX4_isBar 7 = .ok (.getfield 85, 3) := by decide +kernel
theorem dX4_isBar_10 : decode cX4_isBar 10 = .ok (.iaload, 1) := by decide +kernel
theorem dX4_isBar_11 : decode cX4_isBar 11 = .ok (.iconst 1, 1) := by decide +kernel
theorem dX4_isBar_12 : decode cX4_isBar 12 = .ok (.isub, 1) := by decide +kernel
theorem dX4_isBar_13 : decode cX4_isBar 13 = .ok (.invokestatic 81, 3) := by decide +kernel
theorem dX4_isBar_16 : decode cX4_isBar 16 = .ok (.ireturn, 1) := by decide +kernel
set_option maxRecDepth 20000 in
theorem ggX4_isCue_X4_isIn : GoodIn wsX4_isCue wsX4_isIn := goodIn_r _ [5] (by decide +kernel) (by decide +kernel)
set_option maxRecDepth 20000 in
theorem gX4_isCue_X4_isIn : GoodIn wsX4_isCue (va_wsS RX4 81 yX4_isIn wsX4_isIn) := goodIn_app (goodIn_of _ (by decide +kernel)) ggX4_isCue_X4_isIn
theorem dX4_isCue_0 : decode cX4_isCue 0 = .ok (.iload_n 1, 1) := by decide +kernel
theorem dX4_isCue_1 : decode cX4_isCue 1 = .ok (.iconst 0, 1) := by decide +kernel
theorem dX4_isCue_2 : decode cX4_isCue 2 = .ok (.aload_n 0, 1) := by decide +kernel
theorem dX4_isCue_3 : decode cX4_isCue 3 = .ok (.getfield 88, 3) := by decide +kernel
theorem dX4_isCue_6 : decode cX4_isCue 6 = .ok (.iconst 1, 1) := by decide +kernel
theorem dX4_isCue_7 : decode cX4_isCue 7 = .ok (.isub, 1) := by decide +kernel
theorem dX4_isCue_8 : decode cX4_isCue 8 = .ok (.invokestatic 81, 3) := by decide +kernel
theorem dX4_isCue_11 : decode cX4_isCue 11 = .ok (.ireturn, 1) := by decide +kernel
theorem dX4_weighs_0 : decode cX4_weighs 0 = .ok (.iload_n 0, 1) := by decide +kernel
theorem dX4_weighs_1 : decode cX4_weighs 1 = .ok (.ifCond .ne 7, 3) := by decide +kernel
theorem dX4_weighs_4 : decode cX4_weighs 4 = .ok (.iconst 4, 1) := by decide +kernel
theorem dX4_weighs_5 : decode cX4_weighs 5 = .ok (.goto 25, 3) := by decide +kernel
theorem dX4_weighs_8 : decode cX4_weighs 8 = .ok (.iload_n 0, 1) := by decide +kernel
theorem dX4_weighs_9 : decode cX4_weighs 9 = .ok (.iconst 1, 1) := by decide +kernel
theorem dX4_weighs_10 : decode cX4_weighs 10 = .ok (.if_icmp .ne 8, 3) := by decide +kernel
theorem dX4_weighs_13 : decode cX4_weighs 13 = .ok (.bipush 9, 2) := by decide +kernel
theorem dX4_weighs_15 : decode cX4_weighs 15 = .ok (.goto 15, 3) := by decide +kernel
theorem dX4_weighs_18 : decode cX4_weighs 18 = .ok (.iload_n 0, 1) := by decide +kernel
theorem dX4_weighs_19 : decode cX4_weighs 19 = .ok (.iconst 2, 1) := by decide +kernel
theorem dX4_weighs_20 : decode cX4_weighs 20 = .ok (.if_icmp .ne 8, 3) := by decide +kernel
theorem dX4_weighs_23 : decode cX4_weighs 23 = .ok (.bipush 12, 2) := by decide +kernel
theorem dX4_weighs_25 : decode cX4_weighs 25 = .ok (.goto 5, 3) := by decide +kernel
theorem dX4_weighs_28 : decode cX4_weighs 28 = .ok (.bipush 25, 2) := by decide +kernel
theorem dX4_weighs_30 : decode cX4_weighs 30 = .ok (.ireturn, 1) := by decide +kernel
theorem dX4_draws_0 : decode cX4_draws 0 = .ok (.iload_n 0, 1) := by decide +kernel
theorem dX4_draws_1 : decode cX4_draws 1 = .ok (.ifCond .ne 9, 3) := by decide +kernel
theorem dX4_draws_4 : decode cX4_draws 4 = .ok (.sipush 1000, 3) := by decide +kernel
theorem dX4_draws_7 : decode cX4_draws 7 = .ok (.goto 28, 3) := by decide +kernel
theorem dX4_draws_10 : decode cX4_draws 10 = .ok (.iload_n 0, 1) := by decide +kernel
theorem dX4_draws_11 : decode cX4_draws 11 = .ok (.iconst 1, 1) := by decide +kernel
theorem dX4_draws_12 : decode cX4_draws 12 = .ok (.if_icmp .ne 9, 3) := by decide +kernel
theorem dX4_draws_15 : decode cX4_draws 15 = .ok (.sipush 750, 3) := by decide +kernel
theorem dX4_draws_18 : decode cX4_draws 18 = .ok (.goto 17, 3) := by decide +kernel
theorem dX4_draws_21 : decode cX4_draws 21 = .ok (.iload_n 0, 1) := by decide +kernel
theorem dX4_draws_22 : decode cX4_draws 22 = .ok (.iconst 2, 1) := by decide +kernel
theorem dX4_draws_23 : decode cX4_draws 23 = .ok (.if_icmp .ne 9, 3) := by decide +kernel
theorem dX4_draws_26 : decode cX4_draws 26 = .ok (.sipush 500, 3) := by decide +kernel
theorem dX4_draws_29 : decode cX4_draws 29 = .ok (.goto 6, 3) := by decide +kernel
theorem dX4_draws_32 : decode cX4_draws 32 = .ok (.sipush 800, 3) := by decide +kernel
theorem dX4_draws_35 : decode cX4_draws 35 = .ok (.ireturn, 1) := by decide +kernel
theorem dX4_has_0 : decode cX4_has 0 = .ok (.iload_n 0, 1) := by decide +kernel
theorem dX4_has_1 : decode cX4_has 1 = .ok (.iconst 2, 1) := by decide +kernel
theorem dX4_has_2 : decode cX4_has 2 = .ok (.if_icmp .ne 7, 3) := by decide +kernel
theorem dX4_has_5 : decode cX4_has 5 = .ok (.iconst 4, 1) := by decide +kernel
theorem dX4_has_6 : decode cX4_has 6 = .ok (.goto 14, 3) := by decide +kernel
theorem dX4_has_9 : decode cX4_has 9 = .ok (.iload_n 0, 1) := by decide +kernel
theorem dX4_has_10 : decode cX4_has 10 = .ok (.iconst 3, 1) := by decide +kernel
theorem dX4_has_11 : decode cX4_has 11 = .ok (.if_icmp .ne 8, 3) := by decide +kernel
theorem dX4_has_14 : decode cX4_has 14 = .ok (.bipush 12, 2) := by decide +kernel
theorem dX4_has_16 : decode cX4_has 16 = .ok (.goto 4, 3) := by decide +kernel
theorem dX4_has_19 : decode cX4_has 19 = .ok (.iconst 1, 1) := by decide +kernel
theorem dX4_has_20 : decode cX4_has 20 = .ok (.ireturn, 1) := by decide +kernel
set_option maxRecDepth 20000 in
theorem ggX4_bar_X4_isIn : GoodIn wsX4_bar wsX4_isIn := goodIn_r _ [7] (by decide +kernel) (by decide +kernel)
set_option maxRecDepth 20000 in
theorem gX4_bar_X4_isIn : GoodIn wsX4_bar (va_wsS RX4 81 yX4_isIn wsX4_isIn) := goodIn_app (goodIn_of _ (by decide +kernel)) ggX4_bar_X4_isIn
set_option maxRecDepth 20000 in
theorem ggX4_bar_X4_mayAll : GoodIn wsX4_bar wsX4_mayAll := goodIn_r _ [11, 12, 13, 14, 15, 16, 17, 18, 19, 20, 21, 22, 23, 24, 25, 26, 27, 28, 29, 30, 31, 32, 33, 34, 35, 36, 37, 38, 39, 40] (by decide +kernel) (by decide +kernel)
set_option maxRecDepth 20000 in
theorem gX4_bar_X4_mayAll : GoodIn wsX4_bar (wsV RX4 91 RX4 yX4_mayAll wsX4_mayAll) := goodIn_app (goodIn_of _ (by decide +kernel)) ggX4_bar_X4_mayAll
theorem dX4_bar_0 : decode cX4_bar 0 = .ok (.iload_n 1, 1) := by decide +kernel
theorem dX4_bar_1 : decode cX4_bar 1 = .ok (.iconst 0, 1) := by decide +kernel
theorem dX4_bar_2 : decode cX4_bar 2 = .ok (.iconst 1, 1) := by decide +kernel
theorem dX4_bar_3 : decode cX4_bar 3 = .ok (.invokestatic 81, 3) := by decide +kernel
theorem dX4_bar_6 : decode cX4_bar 6 = .ok (.istore 4, 2) := by decide +kernel
theorem dX4_bar_8 : decode cX4_bar 8 = .ok (.aload_n 0, 1) := by decide +kernel
theorem dX4_bar_9 : decode cX4_bar 9 = .ok (.iload 4, 2) := by decide +kernel
theorem dX4_bar_11 : decode cX4_bar 11 = .ok (.iload_n 2, 1) := by decide +kernel
theorem dX4_bar_12 : decode cX4_bar 12 = .ok (.iconst 0, 1) := by decide +kernel
theorem dX4_bar_13 : decode cX4_bar 13 = .ok (.bipush 100, 2) := by decide +kernel
theorem dX4_bar_15 : decode cX4_bar 15 = .ok (.invokestatic 81, 3) := by decide +kernel
theorem dX4_bar_18 : decode cX4_bar 18 = .ok (.ifCond .eq 18, 3) := by decide +kernel
theorem dX4_bar_21 : decode cX4_bar 21 = .ok (.iload_n 3, 1) := by decide +kernel
theorem dX4_bar_22 : decode cX4_bar 22 = .ok (.iconst 1, 1) := by decide +kernel
theorem dX4_bar_23 : decode cX4_bar 23 = .ok (.sipush 500, 3) := by decide +kernel
theorem dX4_bar_26 : decode cX4_bar 26 = .ok (.invokestatic 81, 3) := by decide +kernel
theorem dX4_bar_29 : decode cX4_bar 29 = .ok (.ifCond .eq 7, 3) := by decide +kernel
theorem dX4_bar_32 : decode cX4_bar 32 = .ok (.iconst 1, 1) := by decide +kernel
theorem dX4_bar_33 : decode cX4_bar 33 = .ok (.goto 4, 3) := by decide +kernel
theorem dX4_bar_36 : decode cX4_bar 36 = .ok (.iconst 0, 1) := by decide +kernel
theorem dX4_bar_37 : decode cX4_bar 37 = .ok (.iload 4, 2) := by decide +kernel
theorem dX4_bar_39 : decode cX4_bar 39 = .ok (.ifCond .eq 17, 3) := by decide +kernel
theorem dX4_bar_42 : decode cX4_bar 42 = .ok (.aload_n 0, 1) := by decide +kernel
theorem dX4_bar_43 : decode cX4_bar 43 = .ok (.getfield 7, 3) := by decide +kernel
theorem dX4_bar_46 : decode cX4_bar 46 = .ok (.iload_n 1, 1) := by decide +kernel
theorem dX4_bar_47 : decode cX4_bar 47 = .ok (.iaload, 1) := by decide +kernel
theorem dX4_bar_48 : decode cX4_bar 48 = .ok (.iconst 4, 1) := by decide +kernel
theorem dX4_bar_49 : decode cX4_bar 49 = .ok (.if_icmp .ge 7, 3) := by decide +kernel
theorem dX4_bar_52 : decode cX4_bar 52 = .ok (.iconst 1, 1) := by decide +kernel
theorem dX4_bar_53 : decode cX4_bar 53 = .ok (.goto 4, 3) := by decide +kernel
theorem dX4_bar_56 : decode cX4_bar 56 = .ok (.iconst 0, 1) := by decide +kernel
theorem dX4_bar_57 : decode cX4_bar 57 = .ok (.invokevirtual 91, 3) := by decide +kernel
theorem dX4_bar_60 : decode cX4_bar 60 = .ok (.ifCond .ne 5, 3) := by decide +kernel
theorem dX4_bar_63 : decode cX4_bar 63 = .ok (.iconst 0, 1) := by decide +kernel
theorem dX4_bar_64 : decode cX4_bar 64 = .ok (.ireturn, 1) := by decide +kernel
theorem dX4_bar_65 : decode cX4_bar 65 = .ok (.aload_n 0, 1) := by decide +kernel
theorem dX4_bar_66 : decode cX4_bar 66 = .ok (.getfield 13, 3) := by decide +kernel
theorem dX4_bar_69 : decode cX4_bar 69 = .ok (.iconst 4, 1) := by decide +kernel
theorem dX4_bar_70 : decode cX4_bar 70 = .ok (.iload_n 1, 1) := by decide +kernel
theorem dX4_bar_71 : decode cX4_bar 71 = .ok (.imul, 1) := by decide +kernel
theorem dX4_bar_72 : decode cX4_bar 72 = .ok (.aload_n 0, 1) := by decide +kernel
theorem dX4_bar_73 : decode cX4_bar 73 = .ok (.getfield 7, 3) := by decide +kernel
theorem dX4_bar_76 : decode cX4_bar 76 = .ok (.iload_n 1, 1) := by decide +kernel
theorem dX4_bar_77 : decode cX4_bar 77 = .ok (.iaload, 1) := by decide +kernel
theorem dX4_bar_78 : decode cX4_bar 78 = .ok (.iadd, 1) := by decide +kernel
theorem dX4_bar_79 : decode cX4_bar 79 = .ok (.iload_n 2, 1) := by decide +kernel
theorem dX4_bar_80 : decode cX4_bar 80 = .ok (.iastore, 1) := by decide +kernel
theorem dX4_bar_81 : decode cX4_bar 81 = .ok (.aload_n 0, 1) := by decide +kernel
theorem dX4_bar_82 : decode cX4_bar 82 = .ok (.getfield 16, 3) := by decide +kernel
theorem dX4_bar_85 : decode cX4_bar 85 = .ok (.iconst 4, 1) := by decide +kernel
theorem dX4_bar_86 : decode cX4_bar 86 = .ok (.iload_n 1, 1) := by decide +kernel
theorem dX4_bar_87 : decode cX4_bar 87 = .ok (.imul, 1) := by decide +kernel
theorem dX4_bar_88 : decode cX4_bar 88 = .ok (.aload_n 0, 1) := by decide +kernel
theorem dX4_bar_89 : decode cX4_bar 89 = .ok (.getfield 7, 3) := by decide +kernel
theorem dX4_bar_92 : decode cX4_bar 92 = .ok (.iload_n 1, 1) := by decide +kernel
theorem dX4_bar_93 : decode cX4_bar 93 = .ok (.iaload, 1) := by decide +kernel
theorem dX4_bar_94 : decode cX4_bar 94 = .ok (.iadd, 1) := by decide +kernel
theorem dX4_bar_95 : decode cX4_bar 95 = .ok (.iload_n 3, 1) := by decide +kernel
theorem dX4_bar_96 : decode cX4_bar 96 = .ok (.iastore, 1) := by decide +kernel
theorem dX4_bar_97 : decode cX4_bar 97 = .ok (.aload_n 0, 1) := by decide +kernel
theorem dX4_bar_98 : decode cX4_bar 98 = .ok (.getfield 7, 3) := by decide +kernel
theorem dX4_bar_101 : decode cX4_bar 101 = .ok (.iload_n 1, 1) := by decide +kernel
theorem dX4_bar_102 : decode cX4_bar 102 = .ok (.dup2, 1) := by decide +kernel
theorem dX4_bar_103 : decode cX4_bar 103 = .ok (.iaload, 1) := by decide +kernel
theorem dX4_bar_104 : decode cX4_bar 104 = .ok (.iconst 1, 1) := by decide +kernel
theorem dX4_bar_105 : decode cX4_bar 105 = .ok (.iadd, 1) := by decide +kernel
theorem dX4_bar_106 : decode cX4_bar 106 = .ok (.iastore, 1) := by decide +kernel
theorem dX4_bar_107 : decode cX4_bar 107 = .ok (.aload_n 0, 1) := by decide +kernel
theorem dX4_bar_108 : decode cX4_bar 108 = .ok (.getfield 7, 3) := by decide +kernel
theorem dX4_bar_111 : decode cX4_bar 111 = .ok (.iload_n 1, 1) := by decide +kernel
theorem dX4_bar_112 : decode cX4_bar 112 = .ok (.iaload, 1) := by decide +kernel
theorem dX4_bar_113 : decode cX4_bar 113 = .ok (.iconst 1, 1) := by decide +kernel
theorem dX4_bar_114 : decode cX4_bar 114 = .ok (.isub, 1) := by decide +kernel
theorem dX4_bar_115 : decode cX4_bar 115 = .ok (.ireturn, 1) := by decide +kernel
set_option maxRecDepth 20000 in
theorem ggX4_lamp_X4_isIn : GoodIn wsX4_lamp wsX4_isIn := goodIn_r _ [10] (by decide +kernel) (by decide +kernel)
set_option maxRecDepth 20000 in
theorem gX4_lamp_X4_isIn : GoodIn wsX4_lamp (va_wsS RX4 81 yX4_isIn wsX4_isIn) := goodIn_app (goodIn_of _ (by decide +kernel)) ggX4_lamp_X4_isIn
set_option maxRecDepth 20000 in
theorem ggX4_lamp_X4_mayBoth : GoodIn wsX4_lamp wsX4_mayBoth := goodIn_r _ [14, 15, 16, 17, 18, 19, 20, 21, 22, 23, 24, 25, 26, 27, 28, 29, 30, 31, 32, 33, 34, 35, 36, 37, 38, 39, 40, 41, 42, 43] (by decide +kernel) (by decide +kernel)
set_option maxRecDepth 20000 in
theorem gX4_lamp_X4_mayBoth : GoodIn wsX4_lamp (wsV RX4 95 RX4 yX4_mayBoth wsX4_mayBoth) := goodIn_app (goodIn_of _ (by decide +kernel)) ggX4_lamp_X4_mayBoth
theorem dX4_lamp_0 : decode cX4_lamp 0 = .ok (.aload_n 0, 1) := by decide +kernel
theorem dX4_lamp_1 : decode cX4_lamp 1 = .ok (.iload_n 1, 1) := by decide +kernel
theorem dX4_lamp_2 : decode cX4_lamp 2 = .ok (.iconst 0, 1) := by decide +kernel
theorem dX4_lamp_3 : decode cX4_lamp 3 = .ok (.iconst 3, 1) := by decide +kernel
theorem dX4_lamp_4 : decode cX4_lamp 4 = .ok (.invokestatic 81, 3) := by decide +kernel
theorem dX4_lamp_7 : decode cX4_lamp 7 = .ok (.ifCond .eq 17, 3) := by decide +kernel
theorem dX4_lamp_10 : decode cX4_lamp 10 = .ok (.iload_n 2, 1) := by decide +kernel
theorem dX4_lamp_11 : decode cX4_lamp 11 = .ok (.iconst 0, 1) := by decide +kernel
theorem dX4_lamp_12 : decode cX4_lamp 12 = .ok (.bipush 20, 2) := by decide +kernel
theorem dX4_lamp_14 : decode cX4_lamp 14 = .ok (.invokestatic 81, 3) := by decide +kernel
theorem dX4_lamp_17 : decode cX4_lamp 17 = .ok (.ifCond .eq 7, 3) := by decide +kernel
theorem dX4_lamp_20 : decode cX4_lamp 20 = .ok (.iconst 1, 1) := by decide +kernel
theorem dX4_lamp_21 : decode cX4_lamp 21 = .ok (.goto 4, 3) := by decide +kernel
theorem dX4_lamp_24 : decode cX4_lamp 24 = .ok (.iconst 0, 1) := by decide +kernel
theorem dX4_lamp_25 : decode cX4_lamp 25 = .ok (.aload_n 0, 1) := by decide +kernel
theorem dX4_lamp_26 : decode cX4_lamp 26 = .ok (.getfield 78, 3) := by decide +kernel
theorem dX4_lamp_29 : decode cX4_lamp 29 = .ok (.bipush 10, 2) := by decide +kernel
theorem dX4_lamp_31 : decode cX4_lamp 31 = .ok (.if_icmp .ge 7, 3) := by decide +kernel
theorem dX4_lamp_34 : decode cX4_lamp 34 = .ok (.iconst 1, 1) := by decide +kernel
theorem dX4_lamp_35 : decode cX4_lamp 35 = .ok (.goto 4, 3) := by decide +kernel
theorem dX4_lamp_38 : decode cX4_lamp 38 = .ok (.iconst 0, 1) := by decide +kernel
theorem dX4_lamp_39 : decode cX4_lamp 39 = .ok (.invokevirtual 95, 3) := by decide +kernel
theorem dX4_lamp_42 : decode cX4_lamp 42 = .ok (.ifCond .ne 5, 3) := by decide +kernel
theorem dX4_lamp_45 : decode cX4_lamp 45 = .ok (.iconst 0, 1) := by decide +kernel
theorem dX4_lamp_46 : decode cX4_lamp 46 = .ok (.ireturn, 1) := by decide +kernel
theorem dX4_lamp_47 : decode cX4_lamp 47 = .ok (.aload_n 0, 1) := by decide +kernel
theorem dX4_lamp_48 : decode cX4_lamp 48 = .ok (.getfield 19, 3) := by decide +kernel
theorem dX4_lamp_51 : decode cX4_lamp 51 = .ok (.aload_n 0, 1) := by decide +kernel
theorem dX4_lamp_52 : decode cX4_lamp 52 = .ok (.getfield 78, 3) := by decide +kernel
theorem dX4_lamp_55 : decode cX4_lamp 55 = .ok (.iload_n 1, 1) := by decide +kernel
theorem dX4_lamp_56 : decode cX4_lamp 56 = .ok (.iastore, 1) := by decide +kernel
theorem dX4_lamp_57 : decode cX4_lamp 57 = .ok (.aload_n 0, 1) := by decide +kernel
theorem dX4_lamp_58 : decode cX4_lamp 58 = .ok (.getfield 22, 3) := by decide +kernel
theorem dX4_lamp_61 : decode cX4_lamp 61 = .ok (.aload_n 0, 1) := by decide +kernel
theorem dX4_lamp_62 : decode cX4_lamp 62 = .ok (.getfield 78, 3) := by decide +kernel
theorem dX4_lamp_65 : decode cX4_lamp 65 = .ok (.iload_n 2, 1) := by decide +kernel
theorem dX4_lamp_66 : decode cX4_lamp 66 = .ok (.iastore, 1) := by decide +kernel
theorem dX4_lamp_67 : decode cX4_lamp 67 = .ok (.aload_n 0, 1) := by decide +kernel
theorem dX4_lamp_68 : decode cX4_lamp 68 = .ok (.getfield 25, 3) := by decide +kernel
theorem dX4_lamp_71 : decode cX4_lamp 71 = .ok (.aload_n 0, 1) := by decide +kernel
theorem dX4_lamp_72 : decode cX4_lamp 72 = .ok (.getfield 78, 3) := by decide +kernel
theorem dX4_lamp_75 : decode cX4_lamp 75 = .ok (.iconst (-1), 1) := by decide +kernel
theorem dX4_lamp_76 : decode cX4_lamp 76 = .ok (.iastore, 1) := by decide +kernel
theorem dX4_lamp_77 : decode cX4_lamp 77 = .ok (.aload_n 0, 1) := by decide +kernel
theorem dX4_lamp_78 : decode cX4_lamp 78 = .ok (.getfield 31, 3) := by decide +kernel
theorem dX4_lamp_81 : decode cX4_lamp 81 = .ok (.aload_n 0, 1) := by decide +kernel
theorem dX4_lamp_82 : decode cX4_lamp 82 = .ok (.getfield 78, 3) := by decide +kernel
theorem dX4_lamp_85 : decode cX4_lamp 85 = .ok (.iconst (-1), 1) := by decide +kernel
theorem dX4_lamp_86 : decode cX4_lamp 86 = .ok (.iastore, 1) := by decide +kernel
theorem dX4_lamp_87 : decode cX4_lamp 87 = .ok (.aload_n 0, 1) := by decide +kernel
theorem dX4_lamp_88 : decode cX4_lamp 88 = .ok (.getfield 34, 3) := by decide +kernel
theorem dX4_lamp_91 : decode cX4_lamp 91 = .ok (.aload_n 0, 1) := by decide +kernel
theorem dX4_lamp_92 : decode cX4_lamp 92 = .ok (.getfield 78, 3) := by decide +kernel
theorem dX4_lamp_95 : decode cX4_lamp 95 = .ok (.iconst (-1), 1) := by decide +kernel
theorem dX4_lamp_96 : decode cX4_lamp 96 = .ok (.iastore, 1) := by decide +kernel
theorem dX4_lamp_97 : decode cX4_lamp 97 = .ok (.aload_n 0, 1) := by decide +kernel
theorem dX4_lamp_98 : decode cX4_lamp 98 = .ok (.dup, 1) := by decide +kernel
theorem dX4_lamp_99 : decode cX4_lamp 99 = .ok (.getfield 78, 3) := by decide +kernel
theorem dX4_lamp_102 : decode cX4_lamp 102 = .ok (.iconst 1, 1) := by decide +kernel
theorem dX4_lamp_103 : decode cX4_lamp 103 = .ok (.iadd, 1) := by decide +kernel
theorem dX4_lamp_104 : decode cX4_lamp 104 = .ok (.putfield 78, 3) := by decide +kernel
theorem dX4_lamp_107 : decode cX4_lamp 107 = .ok (.aload_n 0, 1) := by decide +kernel
theorem dX4_lamp_108 : decode cX4_lamp 108 = .ok (.getfield 78, 3) := by decide +kernel
theorem dX4_lamp_111 : decode cX4_lamp 111 = .ok (.iconst 1, 1) := by decide +kernel
theorem dX4_lamp_112 : decode cX4_lamp 112 = .ok (.isub, 1) := by decide +kernel
theorem dX4_lamp_113 : decode cX4_lamp 113 = .ok (.ireturn, 1) := by decide +kernel
set_option maxRecDepth 20000 in
theorem ggX4_weightOn_X4_weighs : GoodIn wsX4_weightOn wsX4_weighs := goodIn_r _ [7] (by decide +kernel) (by decide +kernel)
set_option maxRecDepth 20000 in
theorem gX4_weightOn_X4_weighs : GoodIn wsX4_weightOn (va_wsS RX4 99 yX4_weighs wsX4_weighs) := goodIn_app (goodIn_of _ (by decide +kernel)) ggX4_weightOn_X4_weighs
theorem dX4_weightOn_0 : decode cX4_weightOn 0 = .ok (.iconst 0, 1) := by decide +kernel
theorem dX4_weightOn_1 : decode cX4_weightOn 1 = .ok (.istore_n 3, 1) := by decide +kernel
theorem dX4_weightOn_2 : decode cX4_weightOn 2 = .ok (.iconst 0, 1) := by decide +kernel
theorem dX4_weightOn_3 : decode cX4_weightOn 3 = .ok (.istore 4, 2) := by decide +kernel
theorem dX4_weightOn_5 : decode cX4_weightOn 5 = .ok (.iload 4, 2) := by decide +kernel
theorem dX4_weightOn_7 : decode cX4_weightOn 7 = .ok (.aload_n 0, 1) := by decide +kernel
theorem dX4_weightOn_8 : decode cX4_weightOn 8 = .ok (.getfield 78, 3) := by decide +kernel
theorem dX4_weightOn_11 : decode cX4_weightOn 11 = .ok (.if_icmp .ge 43, 3) := by decide +kernel
theorem dX4_weightOn_14 : decode cX4_weightOn 14 = .ok (.iload_n 3, 1) := by decide +kernel
theorem dX4_weightOn_15 : decode cX4_weightOn 15 = .ok (.aload_n 0, 1) := by decide +kernel
theorem dX4_weightOn_16 : decode cX4_weightOn 16 = .ok (.getfield 25, 3) := by decide +kernel
theorem dX4_weightOn_19 : decode cX4_weightOn 19 = .ok (.iload 4, 2) := by decide +kernel
theorem dX4_weightOn_21 : decode cX4_weightOn 21 = .ok (.iaload, 1) := by decide +kernel
theorem dX4_weightOn_22 : decode cX4_weightOn 22 = .ok (.iload_n 1, 1) := by decide +kernel
theorem dX4_weightOn_23 : decode cX4_weightOn 23 = .ok (.if_icmp .ne 22, 3) := by decide +kernel
theorem dX4_weightOn_26 : decode cX4_weightOn 26 = .ok (.iload 4, 2) := by decide +kernel
theorem dX4_weightOn_28 : decode cX4_weightOn 28 = .ok (.iload_n 2, 1) := by decide +kernel
theorem dX4_weightOn_29 : decode cX4_weightOn 29 = .ok (.if_icmp .eq 16, 3) := by decide +kernel
theorem dX4_weightOn_32 : decode cX4_weightOn 32 = .ok (.aload_n 0, 1) := by decide +kernel
theorem dX4_weightOn_33 : decode cX4_weightOn 33 = .ok (.getfield 19, 3) := by decide +kernel
theorem dX4_weightOn_36 : decode cX4_weightOn 36 = .ok (.iload 4, 2) := by decide +kernel
theorem dX4_weightOn_38 : decode cX4_weightOn 38 = .ok (.iaload, 1) := by decide +kernel
theorem dX4_weightOn_39 : decode cX4_weightOn 39 = .ok (.invokestatic 99, 3) := by decide +kernel
theorem dX4_weightOn_42 : decode cX4_weightOn 42 = .ok (.goto 4, 3) := by decide +kernel
theorem dX4_weightOn_45 : decode cX4_weightOn 45 = .ok (.iconst 0, 1) := by decide +kernel
theorem dX4_weightOn_46 : decode cX4_weightOn 46 = .ok (.iadd, 1) := by decide +kernel
theorem dX4_weightOn_47 : decode cX4_weightOn 47 = .ok (.istore_n 3, 1) := by decide +kernel
theorem dX4_weightOn_48 : decode cX4_weightOn 48 = .ok (.iinc 4 1, 3) := by decide +kernel
theorem dX4_weightOn_51 : decode cX4_weightOn 51 = .ok (.goto (-46), 3) := by decide +kernel
theorem dX4_weightOn_54 : decode cX4_weightOn 54 = .ok (.iload_n 3, 1) := by decide +kernel
theorem dX4_weightOn_55 : decode cX4_weightOn 55 = .ok (.ireturn, 1) := by decide +kernel
set_option maxRecDepth 20000 in
theorem ggX4_canHang_X4_weightOn : GoodIn wsX4_canHang wsX4_weightOn := goodIn_r _ [11, 4, 5, 1, 12, 13, 10, 14, 15, 16, 17, 18, 19, 20, 21, 22, 23, 24, 25, 26, 27, 28, 29, 30, 31, 32, 33, 34, 35, 36, 37, 38, 39, 40, 41, 42] (by decide +kernel) (by decide +kernel)
set_option maxRecDepth 20000 in
theorem gX4_canHang_X4_weightOn : GoodIn wsX4_canHang (wsV RX4 103 RX4 yX4_weightOn wsX4_weightOn) := goodIn_app (goodIn_of _ (by decide +kernel)) ggX4_canHang_X4_weightOn
set_option maxRecDepth 20000 in
theorem ggX4_canHang_X4_weighs : GoodIn wsX4_canHang wsX4_weighs := goodIn_r _ [14] (by decide +kernel) (by decide +kernel)
set_option maxRecDepth 20000 in
theorem gX4_canHang_X4_weighs : GoodIn wsX4_canHang (va_wsS RX4 99 yX4_weighs wsX4_weighs) := goodIn_app (goodIn_of _ (by decide +kernel)) ggX4_canHang_X4_weighs
theorem dX4_canHang_0 : decode cX4_canHang 0 = .ok (.aload_n 0, 1) := by decide +kernel
theorem dX4_canHang_1 : decode cX4_canHang 1 = .ok (.iload_n 2, 1) := by decide +kernel
theorem dX4_canHang_2 : decode cX4_canHang 2 = .ok (.iload_n 1, 1) := by decide +kernel
theorem dX4_canHang_3 : decode cX4_canHang 3 = .ok (.invokevirtual 103, 3) := by decide +kernel
theorem dX4_canHang_6 : decode cX4_canHang 6 = .ok (.aload_n 0, 1) := by decide +kernel
theorem dX4_canHang_7 : decode cX4_canHang 7 = .ok (.getfield 19, 3) := by decide +kernel
theorem dX4_canHang_10 : decode cX4_canHang 10 = .ok (.iload_n 1, 1) := by decide +kernel
theorem dX4_canHang_11 : decode cX4_canHang 11 = .ok (.iaload, 1) := by decide +kernel
theorem dX4_canHang_12 : decode cX4_canHang 12 = .ok (.invokestatic 99, 3) := by decide +kernel
theorem dX4_canHang_15 : decode cX4_canHang 15 = .ok (.iadd, 1) := by decide +kernel
theorem dX4_canHang_16 : decode cX4_canHang 16 = .ok (.aload_n 0, 1) := by decide +kernel
theorem dX4_canHang_17 : decode cX4_canHang 17 = .ok (.getfield 16, 3) := by decide +kernel
theorem dX4_canHang_20 : decode cX4_canHang 20 = .ok (.iconst 4, 1) := by decide +kernel
theorem dX4_canHang_21 : decode cX4_canHang 21 = .ok (.aload_n 0, 1) := by decide +kernel
theorem dX4_canHang_22 : decode cX4_canHang 22 = .ok (.getfield 85, 3) := by decide +kernel
theorem dX4_canHang_25 : decode cX4_canHang 25 = .ok (.imul, 1) := by decide +kernel
theorem dX4_canHang_26 : decode cX4_canHang 26 = .ok (.iload_n 2, 1) := by decide +kernel
theorem dX4_canHang_27 : decode cX4_canHang 27 = .ok (.iadd, 1) := by decide +kernel
theorem dX4_canHang_28 : decode cX4_canHang 28 = .ok (.iaload, 1) := by decide +kernel
theorem dX4_canHang_29 : decode cX4_canHang 29 = .ok (.if_icmp .gt 7, 3) := by decide +kernel
theorem dX4_canHang_32 : decode cX4_canHang 32 = .ok (.iconst 1, 1) := by decide +kernel
theorem dX4_canHang_33 : decode cX4_canHang 33 = .ok (.goto 4, 3) := by decide +kernel
theorem dX4_canHang_36 : decode cX4_canHang 36 = .ok (.iconst 0, 1) := by decide +kernel
theorem dX4_canHang_37 : decode cX4_canHang 37 = .ok (.istore 4, 2) := by decide +kernel
theorem dX4_canHang_39 : decode cX4_canHang 39 = .ok (.iconst 0, 1) := by decide +kernel
theorem dX4_canHang_40 : decode cX4_canHang 40 = .ok (.istore 5, 2) := by decide +kernel
theorem dX4_canHang_42 : decode cX4_canHang 42 = .ok (.iload 5, 2) := by decide +kernel
theorem dX4_canHang_44 : decode cX4_canHang 44 = .ok (.aload_n 0, 1) := by decide +kernel
theorem dX4_canHang_45 : decode cX4_canHang 45 = .ok (.getfield 78, 3) := by decide +kernel
theorem dX4_canHang_48 : decode cX4_canHang 48 = .ok (.if_icmp .ge 64, 3) := by decide +kernel
theorem dX4_canHang_51 : decode cX4_canHang 51 = .ok (.iload 5, 2) := by decide +kernel
theorem dX4_canHang_53 : decode cX4_canHang 53 = .ok (.iload_n 1, 1) := by decide +kernel
theorem dX4_canHang_54 : decode cX4_canHang 54 = .ok (.if_icmp .eq 52, 3) := by decide +kernel
theorem dX4_canHang_57 : decode cX4_canHang 57 = .ok (.aload_n 0, 1) := by decide +kernel
theorem dX4_canHang_58 : decode cX4_canHang 58 = .ok (.getfield 25, 3) := by decide +kernel
theorem dX4_canHang_61 : decode cX4_canHang 61 = .ok (.iload 5, 2) := by decide +kernel
theorem dX4_canHang_63 : decode cX4_canHang 63 = .ok (.iaload, 1) := by decide +kernel
theorem dX4_canHang_64 : decode cX4_canHang 64 = .ok (.iload_n 2, 1) := by decide +kernel
theorem dX4_canHang_65 : decode cX4_canHang 65 = .ok (.if_icmp .ne 41, 3) := by decide +kernel
theorem dX4_canHang_68 : decode cX4_canHang 68 = .ok (.iload 4, 2) := by decide +kernel
theorem dX4_canHang_70 : decode cX4_canHang 70 = .ok (.ifCond .eq 33, 3) := by decide +kernel
theorem dX4_canHang_73 : decode cX4_canHang 73 = .ok (.aload_n 0, 1) := by decide +kernel
theorem dX4_canHang_74 : decode cX4_canHang 74 = .ok (.getfield 28, 3) := by decide +kernel
theorem dX4_canHang_77 : decode cX4_canHang 77 = .ok (.iload 5, 2) := by decide +kernel
theorem dX4_canHang_79 : decode cX4_canHang 79 = .ok (.iaload, 1) := by decide +kernel
theorem dX4_canHang_80 : decode cX4_canHang 80 = .ok (.iload_n 3, 1) := by decide +kernel
theorem dX4_canHang_81 : decode cX4_canHang 81 = .ok (.isub, 1) := by decide +kernel
theorem dX4_canHang_82 : decode cX4_canHang 82 = .ok (.iconst 3, 1) := by decide +kernel
theorem dX4_canHang_83 : decode cX4_canHang 83 = .ok (.if_icmp .ge 16, 3) := by decide +kernel
theorem dX4_canHang_86 : decode cX4_canHang 86 = .ok (.iload_n 3, 1) := by decide +kernel
theorem dX4_canHang_87 : decode cX4_canHang 87 = .ok (.aload_n 0, 1) := by decide +kernel
theorem dX4_canHang_88 : decode cX4_canHang 88 = .ok (.getfield 28, 3) := by decide +kernel
theorem dX4_canHang_91 : decode cX4_canHang 91 = .ok (.iload 5, 2) := by decide +kernel
theorem dX4_canHang_93 : decode cX4_canHang 93 = .ok (.iaload, 1) := by decide +kernel
theorem dX4_canHang_94 : decode cX4_canHang 94 = .ok (.isub, 1) := by decide +kernel
theorem dX4_canHang_95 : decode cX4_canHang 95 = .ok (.iconst 3, 1) := by decide +kernel
theorem dX4_canHang_96 : decode cX4_canHang 96 = .ok (.if_icmp .lt 7, 3) := by decide +kernel
theorem dX4_canHang_99 : decode cX4_canHang 99 = .ok (.iconst 1, 1) := by decide +kernel
theorem dX4_canHang_100 : decode cX4_canHang 100 = .ok (.goto 4, 3) := by decide +kernel
theorem dX4_canHang_103 : decode cX4_canHang 103 = .ok (.iconst 0, 1) := by decide +kernel
theorem dX4_canHang_104 : decode cX4_canHang 104 = .ok (.istore 4, 2) := by decide +kernel
theorem dX4_canHang_106 : decode cX4_canHang 106 = .ok (.iinc 5 1, 3) := by decide +kernel
theorem dX4_canHang_109 : decode cX4_canHang 109 = .ok (.goto (-67), 3) := by decide +kernel
theorem dX4_canHang_112 : decode cX4_canHang 112 = .ok (.iload 4, 2) := by decide +kernel
theorem dX4_canHang_114 : decode cX4_canHang 114 = .ok (.ireturn, 1) := by decide +kernel
set_option maxRecDepth 20000 in
theorem ggX4_hang_X4_isLamp : GoodIn wsX4_hang wsX4_isLamp := goodIn_r _ [9, 10, 11, 12, 8, 13, 37, 38, 39, 40, 41, 42, 43, 44, 45, 46, 47, 48, 49, 50, 51, 52, 53, 54, 55, 56, 57, 58, 59, 60, 61, 62, 63, 64] (by decide +kernel) (by decide +kernel)
set_option maxRecDepth 20000 in
theorem gX4_hang_X4_isLamp : GoodIn wsX4_hang (wsV RX4 107 RX4 yX4_isLamp wsX4_isLamp) := goodIn_app (goodIn_of _ (by decide +kernel)) ggX4_hang_X4_isLamp
set_option maxRecDepth 20000 in
theorem ggX4_hang_X4_isBar : GoodIn wsX4_hang wsX4_isBar := goodIn_r _ [17, 18, 2, 11, 12, 8, 13, 37, 38, 39, 40, 41, 42, 43, 44, 45, 46, 47, 48, 49, 50, 51, 52, 53, 54, 55, 56, 57, 58, 59, 60, 61, 62, 63, 64] (by decide +kernel) (by decide +kernel)
set_option maxRecDepth 20000 in
theorem gX4_hang_X4_isBar : GoodIn wsX4_hang (wsV RX4 111 RX4 yX4_isBar wsX4_isBar) := goodIn_app (goodIn_of _ (by decide +kernel)) ggX4_hang_X4_isBar
set_option maxRecDepth 20000 in
theorem ggX4_hang_X4_isIn : GoodIn wsX4_hang wsX4_isIn := goodIn_r _ [13] (by decide +kernel) (by decide +kernel)
set_option maxRecDepth 20000 in
theorem gX4_hang_X4_isIn : GoodIn wsX4_hang (va_wsS RX4 81 yX4_isIn wsX4_isIn) := goodIn_app (goodIn_of _ (by decide +kernel)) ggX4_hang_X4_isIn
set_option maxRecDepth 20000 in
theorem ggX4_hang_X4_canHang : GoodIn wsX4_hang wsX4_canHang := goodIn_r _ [22, 23, 24, 2, 10, 3, 4, 25, 26, 27, 8, 28, 29, 30, 31, 37, 38, 39, 40, 41, 42, 43, 44, 45, 46, 47, 48, 49, 50, 51, 52, 53, 54, 55, 56, 57, 58, 59, 60, 61, 62, 63, 64] (by decide +kernel) (by decide +kernel)
set_option maxRecDepth 20000 in
theorem gX4_hang_X4_canHang : GoodIn wsX4_hang (wsV RX4 114 RX4 yX4_canHang wsX4_canHang) := goodIn_app (goodIn_of _ (by decide +kernel)) ggX4_hang_X4_canHang
set_option maxRecDepth 20000 in
theorem ggX4_hang_X4_mayBoth : GoodIn wsX4_hang wsX4_mayBoth := goodIn_r _ [35, 36, 37, 38, 39, 40, 41, 42, 43, 44, 45, 46, 47, 48, 49, 50, 51, 52, 53, 54, 55, 56, 57, 58, 59, 60, 61, 62, 63, 64] (by decide +kernel) (by decide +kernel)
set_option maxRecDepth 20000 in
theorem gX4_hang_X4_mayBoth : GoodIn wsX4_hang (wsV RX4 95 RX4 yX4_mayBoth wsX4_mayBoth) := goodIn_app (goodIn_of _ (by decide +kernel)) ggX4_hang_X4_mayBoth
set_option maxRecDepth 20000 in
theorem ggX4_hang_X4_weightOn : GoodIn wsX4_hang wsX4_weightOn := goodIn_r _ [28, 10, 3, 23, 29, 30, 8, 31, 37, 38, 39, 40, 41, 42, 43, 44, 45, 46, 47, 48, 49, 50, 51, 52, 53, 54, 55, 56, 57, 58, 59, 60, 61, 62, 63, 64] (by decide +kernel) (by decide +kernel)
set_option maxRecDepth 20000 in
theorem gX4_hang_X4_weightOn : GoodIn wsX4_hang (wsV RX4 103 RX4 yX4_weightOn wsX4_weightOn) := goodIn_app (goodIn_of _ (by decide +kernel)) ggX4_hang_X4_weightOn
theorem dX4_hang_0 : decode cX4_hang 0 = .ok (.aload_n 0, 1) := by decide +kernel
theorem dX4_hang_1 : decode cX4_hang 1 = .ok (.iload_n 1, 1) := by decide +kernel
theorem dX4_hang_2 : decode cX4_hang 2 = .ok (.invokevirtual 107, 3) := by decide +kernel
theorem dX4_hang_5 : decode cX4_hang 5 = .ok (.ifCond .eq 36, 3) := by decide +kernel
theorem dX4_hang_8 : decode cX4_hang 8 = .ok (.aload_n 0, 1) := by decide +kernel
theorem dX4_hang_9 : decode cX4_hang 9 = .ok (.iload_n 2, 1) := by decide +kernel
theorem dX4_hang_10 : decode cX4_hang 10 = .ok (.invokevirtual 111, 3) := by decide +kernel
theorem dX4_hang_13 : decode cX4_hang 13 = .ok (.ifCond .eq 28, 3) := by decide +kernel
theorem dX4_hang_16 : decode cX4_hang 16 = .ok (.iload_n 3, 1) := by decide +kernel
theorem dX4_hang_17 : decode cX4_hang 17 = .ok (.iconst 0, 1) := by decide +kernel
theorem dX4_hang_18 : decode cX4_hang 18 = .ok (.aload_n 0, 1) := by decide +kernel
theorem dX4_hang_19 : decode cX4_hang 19 = .ok (.getfield 13, 3) := by decide +kernel
theorem dX4_hang_22 : decode cX4_hang 22 = .ok (.iconst 4, 1) := by decide +kernel
theorem dX4_hang_23 : decode cX4_hang 23 = .ok (.aload_n 0, 1) := by decide +kernel
theorem dX4_hang_24 : decode cX4_hang 24 = .ok (.getfield 85, 3) := by decide +kernel
theorem dX4_hang_27 : decode cX4_hang 27 = .ok (.imul, 1) := by decide +kernel
theorem dX4_hang_28 : decode cX4_hang 28 = .ok (.iload_n 2, 1) := by decide +kernel
theorem dX4_hang_29 : decode cX4_hang 29 = .ok (.iadd, 1) := by decide +kernel
theorem dX4_hang_30 : decode cX4_hang 30 = .ok (.iaload, 1) := by decide +kernel
theorem dX4_hang_31 : decode cX4_hang 31 = .ok (.invokestatic 81, 3) := by decide +kernel
theorem dX4_hang_34 : decode cX4_hang 34 = .ok (.ifCond .eq 7, 3) := by decide +kernel
theorem dX4_hang_37 : decode cX4_hang 37 = .ok (.iconst 1, 1) := by decide +kernel
theorem dX4_hang_38 : decode cX4_hang 38 = .ok (.goto 4, 3) := by decide +kernel
theorem dX4_hang_41 : decode cX4_hang 41 = .ok (.iconst 0, 1) := by decide +kernel
theorem dX4_hang_42 : decode cX4_hang 42 = .ok (.istore 4, 2) := by decide +kernel
theorem dX4_hang_44 : decode cX4_hang 44 = .ok (.aload_n 0, 1) := by decide +kernel
theorem dX4_hang_45 : decode cX4_hang 45 = .ok (.iload 4, 2) := by decide +kernel
theorem dX4_hang_47 : decode cX4_hang 47 = .ok (.iload 4, 2) := by decide +kernel
theorem dX4_hang_49 : decode cX4_hang 49 = .ok (.ifCond .eq 17, 3) := by decide +kernel
theorem dX4_hang_52 : decode cX4_hang 52 = .ok (.aload_n 0, 1) := by decide +kernel
theorem dX4_hang_53 : decode cX4_hang 53 = .ok (.iload_n 1, 1) := by decide +kernel
theorem dX4_hang_54 : decode cX4_hang 54 = .ok (.iload_n 2, 1) := by decide +kernel
theorem dX4_hang_55 : decode cX4_hang 55 = .ok (.iload_n 3, 1) := by decide +kernel
theorem dX4_hang_56 : decode cX4_hang 56 = .ok (.invokevirtual 114, 3) := by decide +kernel
theorem dX4_hang_59 : decode cX4_hang 59 = .ok (.ifCond .eq 7, 3) := by decide +kernel
theorem dX4_hang_62 : decode cX4_hang 62 = .ok (.iconst 1, 1) := by decide +kernel
theorem dX4_hang_63 : decode cX4_hang 63 = .ok (.goto 4, 3) := by decide +kernel
theorem dX4_hang_66 : decode cX4_hang 66 = .ok (.iconst 0, 1) := by decide +kernel
theorem dX4_hang_67 : decode cX4_hang 67 = .ok (.invokevirtual 95, 3) := by decide +kernel
theorem dX4_hang_70 : decode cX4_hang 70 = .ok (.ifCond .ne 5, 3) := by decide +kernel
theorem dX4_hang_73 : decode cX4_hang 73 = .ok (.iconst 0, 1) := by decide +kernel
theorem dX4_hang_74 : decode cX4_hang 74 = .ok (.ireturn, 1) := by decide +kernel
theorem dX4_hang_75 : decode cX4_hang 75 = .ok (.aload_n 0, 1) := by decide +kernel
theorem dX4_hang_76 : decode cX4_hang 76 = .ok (.getfield 25, 3) := by decide +kernel
theorem dX4_hang_79 : decode cX4_hang 79 = .ok (.iload_n 1, 1) := by decide +kernel
theorem dX4_hang_80 : decode cX4_hang 80 = .ok (.iload_n 2, 1) := by decide +kernel
theorem dX4_hang_81 : decode cX4_hang 81 = .ok (.iastore, 1) := by decide +kernel
theorem dX4_hang_82 : decode cX4_hang 82 = .ok (.aload_n 0, 1) := by decide +kernel
theorem dX4_hang_83 : decode cX4_hang 83 = .ok (.getfield 28, 3) := by decide +kernel
theorem dX4_hang_86 : decode cX4_hang 86 = .ok (.iload_n 1, 1) := by decide +kernel
theorem dX4_hang_87 : decode cX4_hang 87 = .ok (.iload_n 3, 1) := by decide +kernel
theorem dX4_hang_88 : decode cX4_hang 88 = .ok (.iastore, 1) := by decide +kernel
theorem dX4_hang_89 : decode cX4_hang 89 = .ok (.aload_n 0, 1) := by decide +kernel
theorem dX4_hang_90 : decode cX4_hang 90 = .ok (.iload_n 2, 1) := by decide +kernel
theorem dX4_hang_91 : decode cX4_hang 91 = .ok (.iconst (-1), 1) := by decide +kernel
theorem dX4_hang_92 : decode cX4_hang 92 = .ok (.invokevirtual 103, 3) := by decide +kernel
theorem dX4_hang_95 : decode cX4_hang 95 = .ok (.ireturn, 1) := by decide +kernel
set_option maxRecDepth 20000 in
theorem ggX4_down_X4_isLamp : GoodIn wsX4_down wsX4_isLamp := goodIn_r _ [6, 7, 8, 9, 5, 10, 16, 17, 18, 19, 20, 21, 22, 23, 24, 25, 26, 27, 28, 29, 30, 31, 32, 33, 34, 35, 36, 37, 38, 39, 40, 41, 42, 43] (by decide +kernel) (by decide +kernel)
set_option maxRecDepth 20000 in
theorem gX4_down_X4_isLamp : GoodIn wsX4_down (wsV RX4 107 RX4 yX4_isLamp wsX4_isLamp) := goodIn_app (goodIn_of _ (by decide +kernel)) ggX4_down_X4_isLamp
set_option maxRecDepth 20000 in
theorem ggX4_down_X4_may : GoodIn wsX4_down wsX4_may := goodIn_r _ [14, 15, 16, 17, 18, 19, 20, 21, 22, 23, 24, 25, 26, 27, 28, 29, 30, 31, 32, 33, 34, 35, 36, 37, 38, 39, 40, 41, 42, 43] (by decide +kernel) (by decide +kernel)
set_option maxRecDepth 20000 in
theorem gX4_down_X4_may : GoodIn wsX4_down (wsV RX4 117 RX4 yX4_may wsX4_may) := goodIn_app (goodIn_of _ (by decide +kernel)) ggX4_down_X4_may
theorem dX4_down_0 : decode cX4_down 0 = .ok (.aload_n 0, 1) := by decide +kernel
theorem dX4_down_1 : decode cX4_down 1 = .ok (.aload_n 0, 1) := by decide +kernel
theorem dX4_down_2 : decode cX4_down 2 = .ok (.iload_n 1, 1) := by decide +kernel
theorem dX4_down_3 : decode cX4_down 3 = .ok (.invokevirtual 107, 3) := by decide +kernel
theorem dX4_down_6 : decode cX4_down 6 = .ok (.invokevirtual 117, 3) := by decide +kernel
theorem dX4_down_9 : decode cX4_down 9 = .ok (.ifCond .ne 5, 3) := by decide +kernel
theorem dX4_down_12 : decode cX4_down 12 = .ok (.iconst 0, 1) := by decide +kernel
theorem dX4_down_13 : decode cX4_down 13 = .ok (.ireturn, 1) := by decide +kernel
theorem dX4_down_14 : decode cX4_down 14 = .ok (.aload_n 0, 1) := by decide +kernel
theorem dX4_down_15 : decode cX4_down 15 = .ok (.getfield 25, 3) := by decide +kernel
theorem dX4_down_18 : decode cX4_down 18 = .ok (.iload_n 1, 1) := by decide +kernel
theorem dX4_down_19 : decode cX4_down 19 = .ok (.iaload, 1) := by decide +kernel
theorem dX4_down_20 : decode cX4_down 20 = .ok (.iconst (-1), 1) := by decide +kernel
theorem dX4_down_21 : decode cX4_down 21 = .ok (.if_icmp .eq 7, 3) := by decide +kernel
theorem dX4_down_24 : decode cX4_down 24 = .ok (.iconst 1, 1) := by decide +kernel
theorem dX4_down_25 : decode cX4_down 25 = .ok (.goto 4, 3) := by decide +kernel
theorem dX4_down_28 : decode cX4_down 28 = .ok (.iconst 0, 1) := by decide +kernel
theorem dX4_down_29 : decode cX4_down 29 = .ok (.istore_n 2, 1) := by decide +kernel
theorem dX4_down_30 : decode cX4_down 30 = .ok (.aload_n 0, 1) := by decide +kernel
theorem dX4_down_31 : decode cX4_down 31 = .ok (.getfield 25, 3) := by decide +kernel
theorem dX4_down_34 : decode cX4_down 34 = .ok (.iload_n 1, 1) := by decide +kernel
theorem dX4_down_35 : decode cX4_down 35 = .ok (.iconst (-1), 1) := by decide +kernel
theorem dX4_down_36 : decode cX4_down 36 = .ok (.iastore, 1) := by decide +kernel
theorem dX4_down_37 : decode cX4_down 37 = .ok (.iload_n 2, 1) := by decide +kernel
theorem dX4_down_38 : decode cX4_down 38 = .ok (.ireturn, 1) := by decide +kernel
theorem dX4_ranked_0 : decode cX4_ranked 0 = .ok (.iconst 0, 1) := by decide +kernel
theorem dX4_ranked_1 : decode cX4_ranked 1 = .ok (.istore_n 3, 1) := by decide +kernel
theorem dX4_ranked_2 : decode cX4_ranked 2 = .ok (.iload_n 3, 1) := by decide +kernel
theorem dX4_ranked_3 : decode cX4_ranked 3 = .ok (.aload_n 0, 1) := by decide +kernel
theorem dX4_ranked_4 : decode cX4_ranked 4 = .ok (.getfield 78, 3) := by decide +kernel
theorem dX4_ranked_7 : decode cX4_ranked 7 = .ok (.if_icmp .ge 85, 3) := by decide +kernel
theorem dX4_ranked_10 : decode cX4_ranked 10 = .ok (.iconst 0, 1) := by decide +kernel
theorem dX4_ranked_11 : decode cX4_ranked 11 = .ok (.istore 4, 2) := by decide +kernel
theorem dX4_ranked_13 : decode cX4_ranked 13 = .ok (.iconst 0, 1) := by decide +kernel
theorem dX4_ranked_14 : decode cX4_ranked 14 = .ok (.istore 5, 2) := by decide +kernel
theorem dX4_ranked_16 : decode cX4_ranked 16 = .ok (.iload 5, 2) := by decide +kernel
theorem dX4_ranked_18 : decode cX4_ranked 18 = .ok (.aload_n 0, 1) := by decide +kernel
theorem dX4_ranked_19 : decode cX4_ranked 19 = .ok (.getfield 78, 3) := by decide +kernel
theorem dX4_ranked_22 : decode cX4_ranked 22 = .ok (.if_icmp .ge 46, 3) := by decide +kernel
theorem dX4_ranked_25 : decode cX4_ranked 25 = .ok (.iload 4, 2) := by decide +kernel
theorem dX4_ranked_27 : decode cX4_ranked 27 = .ok (.aload_n 0, 1) := by decide +kernel
theorem dX4_ranked_28 : decode cX4_ranked 28 = .ok (.getfield 25, 3) := by decide +kernel
theorem dX4_ranked_31 : decode cX4_ranked 31 = .ok (.iload 5, 2) := by decide +kernel
theorem dX4_ranked_33 : decode cX4_ranked 33 = .ok (.iaload, 1) := by decide +kernel
theorem dX4_ranked_34 : decode cX4_ranked 34 = .ok (.iload_n 1, 1) := by decide +kernel
theorem dX4_ranked_35 : decode cX4_ranked 35 = .ok (.if_icmp .ne 23, 3) := by decide +kernel
theorem dX4_ranked_38 : decode cX4_ranked 38 = .ok (.aload_n 0, 1) := by decide +kernel
theorem dX4_ranked_39 : decode cX4_ranked 39 = .ok (.getfield 28, 3) := by decide +kernel
theorem dX4_ranked_42 : decode cX4_ranked 42 = .ok (.iload 5, 2) := by decide +kernel
theorem dX4_ranked_44 : decode cX4_ranked 44 = .ok (.iaload, 1) := by decide +kernel
theorem dX4_ranked_45 : decode cX4_ranked 45 = .ok (.aload_n 0, 1) := by decide +kernel
theorem dX4_ranked_46 : decode cX4_ranked 46 = .ok (.getfield 28, 3) := by decide +kernel
theorem dX4_ranked_49 : decode cX4_ranked 49 = .ok (.iload_n 3, 1) := by decide +kernel
theorem dX4_ranked_50 : decode cX4_ranked 50 = .ok (.iaload, 1) := by decide +kernel
theorem dX4_ranked_51 : decode cX4_ranked 51 = .ok (.if_icmp .ge 7, 3) := by decide +kernel
theorem dX4_ranked_54 : decode cX4_ranked 54 = .ok (.iconst 1, 1) := by decide +kernel
theorem dX4_ranked_55 : decode cX4_ranked 55 = .ok (.goto 4, 3) := by decide +kernel
theorem dX4_ranked_58 : decode cX4_ranked 58 = .ok (.iconst 0, 1) := by decide +kernel
theorem dX4_ranked_59 : decode cX4_ranked 59 = .ok (.iadd, 1) := by decide +kernel
theorem dX4_ranked_60 : decode cX4_ranked 60 = .ok (.istore 4, 2) := by decide +kernel
theorem dX4_ranked_62 : decode cX4_ranked 62 = .ok (.iinc 5 1, 3) := by decide +kernel
theorem dX4_ranked_65 : decode cX4_ranked 65 = .ok (.goto (-49), 3) := by decide +kernel
theorem dX4_ranked_68 : decode cX4_ranked 68 = .ok (.aload_n 0, 1) := by decide +kernel
theorem dX4_ranked_69 : decode cX4_ranked 69 = .ok (.getfield 25, 3) := by decide +kernel
theorem dX4_ranked_72 : decode cX4_ranked 72 = .ok (.iload_n 3, 1) := by decide +kernel
theorem dX4_ranked_73 : decode cX4_ranked 73 = .ok (.iaload, 1) := by decide +kernel
theorem dX4_ranked_74 : decode cX4_ranked 74 = .ok (.iload_n 1, 1) := by decide +kernel
theorem dX4_ranked_75 : decode cX4_ranked 75 = .ok (.if_icmp .ne 11, 3) := by decide +kernel
theorem dX4_ranked_78 : decode cX4_ranked 78 = .ok (.iload 4, 2) := by decide +kernel
theorem dX4_ranked_80 : decode cX4_ranked 80 = .ok (.iload_n 2, 1) := by decide +kernel
theorem dX4_ranked_81 : decode cX4_ranked 81 = .ok (.if_icmp .ne 5, 3) := by decide +kernel
theorem dX4_ranked_84 : decode cX4_ranked 84 = .ok (.iload_n 3, 1) := by decide +kernel
theorem dX4_ranked_85 : decode cX4_ranked 85 = .ok (.ireturn, 1) := by decide +kernel
theorem dX4_ranked_86 : decode cX4_ranked 86 = .ok (.iinc 3 1, 3) := by decide +kernel
theorem dX4_ranked_89 : decode cX4_ranked 89 = .ok (.goto (-87), 3) := by decide +kernel
theorem dX4_ranked_92 : decode cX4_ranked 92 = .ok (.iconst (-1), 1) := by decide +kernel
theorem dX4_ranked_93 : decode cX4_ranked 93 = .ok (.ireturn, 1) := by decide +kernel
set_option maxRecDepth 20000 in
theorem ggX4_onBar_X4_isBar : GoodIn wsX4_onBar wsX4_isBar := goodIn_r _ [5, 6, 7, 8, 9, 4, 10, 23, 24, 25, 26, 27, 28, 29, 30, 31, 32, 33, 34, 35, 36, 37, 38, 39, 40, 41, 42, 43, 44, 45, 46, 47, 48, 49, 50] (by decide +kernel) (by decide +kernel)
set_option maxRecDepth 20000 in
theorem gX4_onBar_X4_isBar : GoodIn wsX4_onBar (wsV RX4 111 RX4 yX4_isBar wsX4_isBar) := goodIn_app (goodIn_of _ (by decide +kernel)) ggX4_onBar_X4_isBar
set_option maxRecDepth 20000 in
theorem ggX4_onBar_X4_isIn : GoodIn wsX4_onBar wsX4_isIn := goodIn_r _ [10] (by decide +kernel) (by decide +kernel)
set_option maxRecDepth 20000 in
theorem gX4_onBar_X4_isIn : GoodIn wsX4_onBar (va_wsS RX4 81 yX4_isIn wsX4_isIn) := goodIn_app (goodIn_of _ (by decide +kernel)) ggX4_onBar_X4_isIn
set_option maxRecDepth 20000 in
theorem ggX4_onBar_X4_ranked : GoodIn wsX4_onBar wsX4_ranked := goodIn_r _ [14, 15, 16, 17, 23, 24, 25, 26, 27, 28, 29, 30, 31, 32, 33, 34, 35, 36, 37, 38, 39, 40, 41, 42, 43, 44, 45, 46, 47, 48, 49, 50] (by decide +kernel) (by decide +kernel)
set_option maxRecDepth 20000 in
theorem gX4_onBar_X4_ranked : GoodIn wsX4_onBar (wsV RX4 121 RX4 yX4_ranked wsX4_ranked) := goodIn_app (goodIn_of _ (by decide +kernel)) ggX4_onBar_X4_ranked
set_option maxRecDepth 20000 in
theorem ggX4_onBar_X4_may : GoodIn wsX4_onBar wsX4_may := goodIn_r _ [21, 22, 23, 24, 25, 26, 27, 28, 29, 30, 31, 32, 33, 34, 35, 36, 37, 38, 39, 40, 41, 42, 43, 44, 45, 46, 47, 48, 49, 50] (by decide +kernel) (by decide +kernel)
set_option maxRecDepth 20000 in
theorem gX4_onBar_X4_may : GoodIn wsX4_onBar (wsV RX4 117 RX4 yX4_may wsX4_may) := goodIn_app (goodIn_of _ (by decide +kernel)) ggX4_onBar_X4_may
theorem dX4_onBar_0 : decode cX4_onBar 0 = .ok (.aload_n 0, 1) := by decide +kernel
theorem dX4_onBar_1 : decode cX4_onBar 1 = .ok (.iload_n 1, 1) := by decide +kernel
theorem dX4_onBar_2 : decode cX4_onBar 2 = .ok (.invokevirtual 111, 3) := by decide +kernel
theorem dX4_onBar_5 : decode cX4_onBar 5 = .ok (.ifCond .eq 17, 3) := by decide +kernel
theorem dX4_onBar_8 : decode cX4_onBar 8 = .ok (.iload_n 2, 1) := by decide +kernel
theorem dX4_onBar_9 : decode cX4_onBar 9 = .ok (.iconst 0, 1) := by decide +kernel
theorem dX4_onBar_10 : decode cX4_onBar 10 = .ok (.bipush 9, 2) := by decide +kernel
theorem dX4_onBar_12 : decode cX4_onBar 12 = .ok (.invokestatic 81, 3) := by decide +kernel
theorem dX4_onBar_15 : decode cX4_onBar 15 = .ok (.ifCond .eq 7, 3) := by decide +kernel
theorem dX4_onBar_18 : decode cX4_onBar 18 = .ok (.iconst 1, 1) := by decide +kernel
theorem dX4_onBar_19 : decode cX4_onBar 19 = .ok (.goto 4, 3) := by decide +kernel
theorem dX4_onBar_22 : decode cX4_onBar 22 = .ok (.iconst 0, 1) := by decide +kernel
theorem dX4_onBar_23 : decode cX4_onBar 23 = .ok (.istore_n 3, 1) := by decide +kernel
theorem dX4_onBar_24 : decode cX4_onBar 24 = .ok (.iload_n 3, 1) := by decide +kernel
theorem dX4_onBar_25 : decode cX4_onBar 25 = .ok (.ifCond .eq 12, 3) := by decide +kernel
theorem dX4_onBar_28 : decode cX4_onBar 28 = .ok (.aload_n 0, 1) := by decide +kernel
theorem dX4_onBar_29 : decode cX4_onBar 29 = .ok (.iload_n 1, 1) := by decide +kernel
theorem dX4_onBar_30 : decode cX4_onBar 30 = .ok (.iload_n 2, 1) := by decide +kernel
theorem dX4_onBar_31 : decode cX4_onBar 31 = .ok (.invokevirtual 121, 3) := by decide +kernel
theorem dX4_onBar_34 : decode cX4_onBar 34 = .ok (.goto 4, 3) := by decide +kernel
theorem dX4_onBar_37 : decode cX4_onBar 37 = .ok (.iconst (-1), 1) := by decide +kernel
theorem dX4_onBar_38 : decode cX4_onBar 38 = .ok (.istore 4, 2) := by decide +kernel
theorem dX4_onBar_40 : decode cX4_onBar 40 = .ok (.aload_n 0, 1) := by decide +kernel
theorem dX4_onBar_41 : decode cX4_onBar 41 = .ok (.iload 4, 2) := by decide +kernel
theorem dX4_onBar_43 : decode cX4_onBar 43 = .ok (.iconst (-1), 1) := by decide +kernel
theorem dX4_onBar_44 : decode cX4_onBar 44 = .ok (.if_icmp .eq 7, 3) := by decide +kernel
theorem dX4_onBar_47 : decode cX4_onBar 47 = .ok (.iconst 1, 1) := by decide +kernel
theorem dX4_onBar_48 : decode cX4_onBar 48 = .ok (.goto 4, 3) := by decide +kernel
theorem dX4_onBar_51 : decode cX4_onBar 51 = .ok (.iconst 0, 1) := by decide +kernel
theorem dX4_onBar_52 : decode cX4_onBar 52 = .ok (.invokevirtual 117, 3) := by decide +kernel
theorem dX4_onBar_55 : decode cX4_onBar 55 = .ok (.ifCond .eq 8, 3) := by decide +kernel
theorem dX4_onBar_58 : decode cX4_onBar 58 = .ok (.iload 4, 2) := by decide +kernel
theorem dX4_onBar_60 : decode cX4_onBar 60 = .ok (.goto 4, 3) := by decide +kernel
theorem dX4_onBar_63 : decode cX4_onBar 63 = .ok (.iconst 0, 1) := by decide +kernel
theorem dX4_onBar_64 : decode cX4_onBar 64 = .ok (.ireturn, 1) := by decide +kernel
set_option maxRecDepth 20000 in
theorem ggX4_where_X4_isLamp : GoodIn wsX4_where wsX4_isLamp := goodIn_r _ [7, 8, 9, 10, 6, 11, 17, 18, 19, 20, 21, 22, 23, 24, 25, 26, 27, 28, 29, 30, 31, 32, 33, 34, 35, 36, 37, 38, 39, 40, 41, 42, 43, 44] (by decide +kernel) (by decide +kernel)
set_option maxRecDepth 20000 in
theorem gX4_where_X4_isLamp : GoodIn wsX4_where (wsV RX4 107 RX4 yX4_isLamp wsX4_isLamp) := goodIn_app (goodIn_of _ (by decide +kernel)) ggX4_where_X4_isLamp
set_option maxRecDepth 20000 in
theorem ggX4_where_X4_may : GoodIn wsX4_where wsX4_may := goodIn_r _ [15, 16, 17, 18, 19, 20, 21, 22, 23, 24, 25, 26, 27, 28, 29, 30, 31, 32, 33, 34, 35, 36, 37, 38, 39, 40, 41, 42, 43, 44] (by decide +kernel) (by decide +kernel)
set_option maxRecDepth 20000 in
theorem gX4_where_X4_may : GoodIn wsX4_where (wsV RX4 117 RX4 yX4_may wsX4_may) := goodIn_app (goodIn_of _ (by decide +kernel)) ggX4_where_X4_may
theorem dX4_where_0 : decode cX4_where 0 = .ok (.aload_n 0, 1) := by decide +kernel
theorem dX4_where_1 : decode cX4_where 1 = .ok (.aload_n 0, 1) := by decide +kernel
theorem dX4_where_2 : decode cX4_where 2 = .ok (.iload_n 1, 1) := by decide +kernel
theorem dX4_where_3 : decode cX4_where 3 = .ok (.invokevirtual 107, 3) := by decide +kernel
theorem dX4_where_6 : decode cX4_where 6 = .ok (.invokevirtual 117, 3) := by decide +kernel
theorem dX4_where_9 : decode cX4_where 9 = .ok (.ifCond .ne 5, 3) := by decide +kernel
theorem dX4_where_12 : decode cX4_where 12 = .ok (.iconst 0, 1) := by decide +kernel
theorem dX4_where_13 : decode cX4_where 13 = .ok (.ireturn, 1) := by decide +kernel
theorem dX4_where_14 : decode cX4_where 14 = .ok (.aload_n 0, 1) := by decide +kernel
theorem dX4_where_15 : decode cX4_where 15 = .ok (.getfield 25, 3) := by decide +kernel
theorem dX4_where_18 : decode cX4_where 18 = .ok (.iload_n 1, 1) := by decide +kernel
theorem dX4_where_19 : decode cX4_where 19 = .ok (.iaload, 1) := by decide +kernel
theorem dX4_where_20 : decode cX4_where 20 = .ok (.iconst (-1), 1) := by decide +kernel
theorem dX4_where_21 : decode cX4_where 21 = .ok (.if_icmp .ne 7, 3) := by decide +kernel
theorem dX4_where_24 : decode cX4_where 24 = .ok (.iconst (-1), 1) := by decide +kernel
theorem dX4_where_25 : decode cX4_where 25 = .ok (.goto 20, 3) := by decide +kernel
theorem dX4_where_28 : decode cX4_where 28 = .ok (.sipush 1000, 3) := by decide +kernel
theorem dX4_where_31 : decode cX4_where 31 = .ok (.aload_n 0, 1) := by decide +kernel
theorem dX4_where_32 : decode cX4_where 32 = .ok (.getfield 25, 3) := by decide +kernel
theorem dX4_where_35 : decode cX4_where 35 = .ok (.iload_n 1, 1) := by decide +kernel
theorem dX4_where_36 : decode cX4_where 36 = .ok (.iaload, 1) := by decide +kernel
theorem dX4_where_37 : decode cX4_where 37 = .ok (.imul, 1) := by decide +kernel
theorem dX4_where_38 : decode cX4_where 38 = .ok (.aload_n 0, 1) := by decide +kernel
theorem dX4_where_39 : decode cX4_where 39 = .ok (.getfield 28, 3) := by decide +kernel
theorem dX4_where_42 : decode cX4_where 42 = .ok (.iload_n 1, 1) := by decide +kernel
theorem dX4_where_43 : decode cX4_where 43 = .ok (.iaload, 1) := by decide +kernel
theorem dX4_where_44 : decode cX4_where 44 = .ok (.iadd, 1) := by decide +kernel
theorem dX4_where_45 : decode cX4_where 45 = .ok (.ireturn, 1) := by decide +kernel
set_option maxRecDepth 20000 in
theorem ggX4_tour_X4_isBar : GoodIn wsX4_tour wsX4_isBar := goodIn_r _ [12, 13, 2, 14, 15, 11, 16, 30, 31, 32, 33, 34, 35, 36, 37, 38, 39, 40, 41, 42, 43, 44, 45, 46, 47, 48, 49, 50, 51, 52, 53, 54, 55, 56, 57] (by decide +kernel) (by decide +kernel)
set_option maxRecDepth 20000 in
theorem gX4_tour_X4_isBar : GoodIn wsX4_tour (wsV RX4 111 RX4 yX4_isBar wsX4_isBar) := goodIn_app (goodIn_of _ (by decide +kernel)) ggX4_tour_X4_isBar
set_option maxRecDepth 20000 in
theorem ggX4_tour_X4_canHang : GoodIn wsX4_tour wsX4_canHang := goodIn_r _ [20, 21, 22, 2, 3, 5, 7, 23, 24, 25, 11, 26, 27, 28, 29, 30, 31, 32, 33, 34, 35, 36, 37, 38, 39, 40, 41, 42, 43, 44, 45, 46, 47, 48, 49, 50, 51, 52, 53, 54, 55, 56, 57] (by decide +kernel) (by decide +kernel)
set_option maxRecDepth 20000 in
theorem gX4_tour_X4_canHang : GoodIn wsX4_tour (wsV RX4 114 RX4 yX4_canHang wsX4_canHang) := goodIn_app (goodIn_of _ (by decide +kernel)) ggX4_tour_X4_canHang
theorem dX4_tour_0 : decode cX4_tour 0 = .ok (.aload_n 0, 1) := by decide +kernel
theorem dX4_tour_1 : decode cX4_tour 1 = .ok (.iconst 0, 1) := by decide +kernel
theorem dX4_tour_2 : decode cX4_tour 2 = .ok (.putfield 74, 3) := by decide +kernel
theorem dX4_tour_5 : decode cX4_tour 5 = .ok (.aload_n 0, 1) := by decide +kernel
theorem dX4_tour_6 : decode cX4_tour 6 = .ok (.iconst 1, 1) := by decide +kernel
theorem dX4_tour_7 : decode cX4_tour 7 = .ok (.aload_n 0, 1) := by decide +kernel
theorem dX4_tour_8 : decode cX4_tour 8 = .ok (.getfield 85, 3) := by decide +kernel
theorem dX4_tour_11 : decode cX4_tour 11 = .ok (.isub, 1) := by decide +kernel
theorem dX4_tour_12 : decode cX4_tour 12 = .ok (.putfield 85, 3) := by decide +kernel
theorem dX4_tour_15 : decode cX4_tour 15 = .ok (.iconst 0, 1) := by decide +kernel
theorem dX4_tour_16 : decode cX4_tour 16 = .ok (.istore_n 1, 1) := by decide +kernel
theorem dX4_tour_17 : decode cX4_tour 17 = .ok (.iload_n 1, 1) := by decide +kernel
theorem dX4_tour_18 : decode cX4_tour 18 = .ok (.aload_n 0, 1) := by decide +kernel
theorem dX4_tour_19 : decode cX4_tour 19 = .ok (.getfield 78, 3) := by decide +kernel
theorem dX4_tour_22 : decode cX4_tour 22 = .ok (.if_icmp .ge 28, 3) := by decide +kernel
theorem dX4_tour_25 : decode cX4_tour 25 = .ok (.aload_n 0, 1) := by decide +kernel
theorem dX4_tour_26 : decode cX4_tour 26 = .ok (.getfield 71, 3) := by decide +kernel
theorem dX4_tour_29 : decode cX4_tour 29 = .ok (.iload_n 1, 1) := by decide +kernel
theorem dX4_tour_30 : decode cX4_tour 30 = .ok (.aload_n 0, 1) := by decide +kernel
theorem dX4_tour_31 : decode cX4_tour 31 = .ok (.getfield 25, 3) := by decide +kernel
theorem dX4_tour_34 : decode cX4_tour 34 = .ok (.iload_n 1, 1) := by decide +kernel
theorem dX4_tour_35 : decode cX4_tour 35 = .ok (.iaload, 1) := by decide +kernel
theorem dX4_tour_36 : decode cX4_tour 36 = .ok (.iastore, 1) := by decide +kernel
theorem dX4_tour_37 : decode cX4_tour 37 = .ok (.aload_n 0, 1) := by decide +kernel
theorem dX4_tour_38 : decode cX4_tour 38 = .ok (.getfield 25, 3) := by decide +kernel
theorem dX4_tour_41 : decode cX4_tour 41 = .ok (.iload_n 1, 1) := by decide +kernel
theorem dX4_tour_42 : decode cX4_tour 42 = .ok (.iconst (-1), 1) := by decide +kernel
theorem dX4_tour_43 : decode cX4_tour 43 = .ok (.iastore, 1) := by decide +kernel
theorem dX4_tour_44 : decode cX4_tour 44 = .ok (.iinc 1 1, 3) := by decide +kernel
theorem dX4_tour_47 : decode cX4_tour 47 = .ok (.goto (-30), 3) := by decide +kernel
theorem dX4_tour_50 : decode cX4_tour 50 = .ok (.iconst 0, 1) := by decide +kernel
theorem dX4_tour_51 : decode cX4_tour 51 = .ok (.istore_n 1, 1) := by decide +kernel
theorem dX4_tour_52 : decode cX4_tour 52 = .ok (.iconst 0, 1) := by decide +kernel
theorem dX4_tour_53 : decode cX4_tour 53 = .ok (.istore_n 2, 1) := by decide +kernel
theorem dX4_tour_54 : decode cX4_tour 54 = .ok (.iload_n 2, 1) := by decide +kernel
theorem dX4_tour_55 : decode cX4_tour 55 = .ok (.aload_n 0, 1) := by decide +kernel
theorem dX4_tour_56 : decode cX4_tour 56 = .ok (.getfield 78, 3) := by decide +kernel
theorem dX4_tour_59 : decode cX4_tour 59 = .ok (.if_icmp .ge 165, 3) := by decide +kernel
theorem dX4_tour_62 : decode cX4_tour 62 = .ok (.aload_n 0, 1) := by decide +kernel
theorem dX4_tour_63 : decode cX4_tour 63 = .ok (.getfield 71, 3) := by decide +kernel
theorem dX4_tour_66 : decode cX4_tour 66 = .ok (.iload_n 2, 1) := by decide +kernel
theorem dX4_tour_67 : decode cX4_tour 67 = .ok (.iaload, 1) := by decide +kernel
theorem dX4_tour_68 : decode cX4_tour 68 = .ok (.iconst (-1), 1) := by decide +kernel
theorem dX4_tour_69 : decode cX4_tour 69 = .ok (.if_icmp .eq 149, 3) := by decide +kernel
theorem dX4_tour_72 : decode cX4_tour 72 = .ok (.iconst (-1), 1) := by decide +kernel
theorem dX4_tour_73 : decode cX4_tour 73 = .ok (.istore_n 3, 1) := by decide +kernel
theorem dX4_tour_74 : decode cX4_tour 74 = .ok (.sipush 1000, 3) := by decide +kernel
theorem dX4_tour_77 : decode cX4_tour 77 = .ok (.istore 4, 2) := by decide +kernel
theorem dX4_tour_79 : decode cX4_tour 79 = .ok (.iconst 0, 1) := by decide +kernel
theorem dX4_tour_80 : decode cX4_tour 80 = .ok (.istore 5, 2) := by decide +kernel
theorem dX4_tour_82 : decode cX4_tour 82 = .ok (.aload_n 0, 1) := by decide +kernel
theorem dX4_tour_83 : decode cX4_tour 83 = .ok (.aload_n 0, 1) := by decide +kernel
theorem dX4_tour_84 : decode cX4_tour 84 = .ok (.getfield 71, 3) := by decide +kernel
theorem dX4_tour_87 : decode cX4_tour 87 = .ok (.iload_n 2, 1) := by decide +kernel
theorem dX4_tour_88 : decode cX4_tour 88 = .ok (.iaload, 1) := by decide +kernel
theorem dX4_tour_89 : decode cX4_tour 89 = .ok (.invokevirtual 111, 3) := by decide +kernel
theorem dX4_tour_92 : decode cX4_tour 92 = .ok (.ifCond .eq 96, 3) := by decide +kernel
theorem dX4_tour_95 : decode cX4_tour 95 = .ok (.iload 5, 2) := by decide +kernel
theorem dX4_tour_97 : decode cX4_tour 97 = .ok (.aload_n 0, 1) := by decide +kernel
theorem dX4_tour_98 : decode cX4_tour 98 = .ok (.getfield 13, 3) := by decide +kernel
theorem dX4_tour_101 : decode cX4_tour 101 = .ok (.iconst 4, 1) := by decide +kernel
theorem dX4_tour_102 : decode cX4_tour 102 = .ok (.aload_n 0, 1) := by decide +kernel
theorem dX4_tour_103 : decode cX4_tour 103 = .ok (.getfield 85, 3) := by decide +kernel
theorem dX4_tour_106 : decode cX4_tour 106 = .ok (.imul, 1) := by decide +kernel
theorem dX4_tour_107 : decode cX4_tour 107 = .ok (.aload_n 0, 1) := by decide +kernel
theorem dX4_tour_108 : decode cX4_tour 108 = .ok (.getfield 71, 3) := by decide +kernel
theorem dX4_tour_111 : decode cX4_tour 111 = .ok (.iload_n 2, 1) := by decide +kernel
theorem dX4_tour_112 : decode cX4_tour 112 = .ok (.iaload, 1) := by decide +kernel
theorem dX4_tour_113 : decode cX4_tour 113 = .ok (.iadd, 1) := by decide +kernel
theorem dX4_tour_114 : decode cX4_tour 114 = .ok (.iaload, 1) := by decide +kernel
theorem dX4_tour_115 : decode cX4_tour 115 = .ok (.if_icmp .gt 73, 3) := by decide +kernel
theorem dX4_tour_118 : decode cX4_tour 118 = .ok (.iload 5, 2) := by decide +kernel
theorem dX4_tour_120 : decode cX4_tour 120 = .ok (.aload_n 0, 1) := by decide +kernel
theorem dX4_tour_121 : decode cX4_tour 121 = .ok (.getfield 28, 3) := by decide +kernel
theorem dX4_tour_124 : decode cX4_tour 124 = .ok (.iload_n 2, 1) := by decide +kernel
theorem dX4_tour_125 : decode cX4_tour 125 = .ok (.iaload, 1) := by decide +kernel
theorem dX4_tour_126 : decode cX4_tour 126 = .ok (.if_icmp .ge 15, 3) := by decide +kernel
theorem dX4_tour_129 : decode cX4_tour 129 = .ok (.aload_n 0, 1) := by decide +kernel
theorem dX4_tour_130 : decode cX4_tour 130 = .ok (.getfield 28, 3) := by decide +kernel
theorem dX4_tour_133 : decode cX4_tour 133 = .ok (.iload_n 2, 1) := by decide +kernel
theorem dX4_tour_134 : decode cX4_tour 134 = .ok (.iaload, 1) := by decide +kernel
theorem dX4_tour_135 : decode cX4_tour 135 = .ok (.iload 5, 2) := by decide +kernel
theorem dX4_tour_137 : decode cX4_tour 137 = .ok (.isub, 1) := by decide +kernel
theorem dX4_tour_138 : decode cX4_tour 138 = .ok (.goto 12, 3) := by decide +kernel
theorem dX4_tour_141 : decode cX4_tour 141 = .ok (.iload 5, 2) := by decide +kernel
theorem dX4_tour_143 : decode cX4_tour 143 = .ok (.aload_n 0, 1) := by decide +kernel
theorem dX4_tour_144 : decode cX4_tour 144 = .ok (.getfield 28, 3) := by decide +kernel
theorem dX4_tour_147 : decode cX4_tour 147 = .ok (.iload_n 2, 1) := by decide +kernel
theorem dX4_tour_148 : decode cX4_tour 148 = .ok (.iaload, 1) := by decide +kernel
theorem dX4_tour_149 : decode cX4_tour 149 = .ok (.isub, 1) := by decide +kernel
theorem dX4_tour_150 : decode cX4_tour 150 = .ok (.istore 6, 2) := by decide +kernel
theorem dX4_tour_152 : decode cX4_tour 152 = .ok (.iload 6, 2) := by decide +kernel
theorem dX4_tour_154 : decode cX4_tour 154 = .ok (.iload 4, 2) := by decide +kernel
theorem dX4_tour_156 : decode cX4_tour 156 = .ok (.if_icmp .ge 26, 3) := by decide +kernel
theorem dX4_tour_159 : decode cX4_tour 159 = .ok (.aload_n 0, 1) := by decide +kernel
theorem dX4_tour_160 : decode cX4_tour 160 = .ok (.iload_n 2, 1) := by decide +kernel
theorem dX4_tour_161 : decode cX4_tour 161 = .ok (.aload_n 0, 1) := by decide +kernel
theorem dX4_tour_162 : decode cX4_tour 162 = .ok (.getfield 71, 3) := by decide +kernel
theorem dX4_tour_165 : decode cX4_tour 165 = .ok (.iload_n 2, 1) := by decide +kernel
theorem dX4_tour_166 : decode cX4_tour 166 = .ok (.iaload, 1) := by decide +kernel
theorem dX4_tour_167 : decode cX4_tour 167 = .ok (.iload 5, 2) := by decide +kernel
theorem dX4_tour_169 : decode cX4_tour 169 = .ok (.invokevirtual 114, 3) := by decide +kernel
theorem dX4_tour_172 : decode cX4_tour 172 = .ok (.ifCond .eq 10, 3) := by decide +kernel
theorem dX4_tour_175 : decode cX4_tour 175 = .ok (.iload 5, 2) := by decide +kernel
theorem dX4_tour_177 : decode cX4_tour 177 = .ok (.istore_n 3, 1) := by decide +kernel
theorem dX4_tour_178 : decode cX4_tour 178 = .ok (.iload 6, 2) := by decide +kernel
theorem dX4_tour_180 : decode cX4_tour 180 = .ok (.istore 4, 2) := by decide +kernel
theorem dX4_tour_182 : decode cX4_tour 182 = .ok (.iinc 5 1, 3) := by decide +kernel
theorem dX4_tour_185 : decode cX4_tour 185 = .ok (.goto (-103), 3) := by decide +kernel
theorem dX4_tour_188 : decode cX4_tour 188 = .ok (.iload_n 3, 1) := by decide +kernel
theorem dX4_tour_189 : decode cX4_tour 189 = .ok (.iconst (-1), 1) := by decide +kernel
theorem dX4_tour_190 : decode cX4_tour 190 = .ok (.if_icmp .ne 9, 3) := by decide +kernel
theorem dX4_tour_193 : decode cX4_tour 193 = .ok (.iinc 1 1, 3) := by decide +kernel
theorem dX4_tour_196 : decode cX4_tour 196 = .ok (.goto 22, 3) := by decide +kernel
theorem dX4_tour_199 : decode cX4_tour 199 = .ok (.aload_n 0, 1) := by decide +kernel
theorem dX4_tour_200 : decode cX4_tour 200 = .ok (.getfield 25, 3) := by decide +kernel
theorem dX4_tour_203 : decode cX4_tour 203 = .ok (.iload_n 2, 1) := by decide +kernel
theorem dX4_tour_204 : decode cX4_tour 204 = .ok (.aload_n 0, 1) := by decide +kernel
theorem dX4_tour_205 : decode cX4_tour 205 = .ok (.getfield 71, 3) := by decide +kernel
theorem dX4_tour_208 : decode cX4_tour 208 = .ok (.iload_n 2, 1) := by decide +kernel
theorem dX4_tour_209 : decode cX4_tour 209 = .ok (.iaload, 1) := by decide +kernel
theorem dX4_tour_210 : decode cX4_tour 210 = .ok (.iastore, 1) := by decide +kernel
theorem dX4_tour_211 : decode cX4_tour 211 = .ok (.aload_n 0, 1) := by decide +kernel
theorem dX4_tour_212 : decode cX4_tour 212 = .ok (.getfield 28, 3) := by decide +kernel
theorem dX4_tour_215 : decode cX4_tour 215 = .ok (.iload_n 2, 1) := by decide +kernel
theorem dX4_tour_216 : decode cX4_tour 216 = .ok (.iload_n 3, 1) := by decide +kernel
theorem dX4_tour_217 : decode cX4_tour 217 = .ok (.iastore, 1) := by decide +kernel
theorem dX4_tour_218 : decode cX4_tour 218 = .ok (.iinc 2 1, 3) := by decide +kernel
theorem dX4_tour_221 : decode cX4_tour 221 = .ok (.goto (-167), 3) := by decide +kernel
theorem dX4_tour_224 : decode cX4_tour 224 = .ok (.iload_n 1, 1) := by decide +kernel
theorem dX4_tour_225 : decode cX4_tour 225 = .ok (.ireturn, 1) := by decide +kernel
set_option maxRecDepth 20000 in
theorem ggX4_lampsAt_X4_has : GoodIn wsX4_lampsAt wsX4_has := goodIn_r _ [7] (by decide +kernel) (by decide +kernel)
set_option maxRecDepth 20000 in
theorem gX4_lampsAt_X4_has : GoodIn wsX4_lampsAt (va_wsS RX4 124 yX4_has wsX4_has) := goodIn_app (goodIn_of _ (by decide +kernel)) ggX4_lampsAt_X4_has
set_option maxRecDepth 20000 in
theorem ggX4_lampsAt_X4_isIn : GoodIn wsX4_lampsAt wsX4_isIn := goodIn_r _ [10] (by decide +kernel) (by decide +kernel)
set_option maxRecDepth 20000 in
theorem gX4_lampsAt_X4_isIn : GoodIn wsX4_lampsAt (va_wsS RX4 81 yX4_isIn wsX4_isIn) := goodIn_app (goodIn_of _ (by decide +kernel)) ggX4_lampsAt_X4_isIn
theorem dX4_lampsAt_0 : decode cX4_lampsAt 0 = .ok (.iconst 0, 1) := by decide +kernel
theorem dX4_lampsAt_1 : decode cX4_lampsAt 1 = .ok (.istore_n 2, 1) := by decide +kernel
theorem dX4_lampsAt_2 : decode cX4_lampsAt 2 = .ok (.iconst 0, 1) := by decide +kernel
theorem dX4_lampsAt_3 : decode cX4_lampsAt 3 = .ok (.istore_n 3, 1) := by decide +kernel
theorem dX4_lampsAt_4 : decode cX4_lampsAt 4 = .ok (.iload_n 3, 1) := by decide +kernel
theorem dX4_lampsAt_5 : decode cX4_lampsAt 5 = .ok (.aload_n 0, 1) := by decide +kernel
theorem dX4_lampsAt_6 : decode cX4_lampsAt 6 = .ok (.getfield 78, 3) := by decide +kernel
theorem dX4_lampsAt_9 : decode cX4_lampsAt 9 = .ok (.if_icmp .ge 58, 3) := by decide +kernel
theorem dX4_lampsAt_12 : decode cX4_lampsAt 12 = .ok (.iload_n 2, 1) := by decide +kernel
theorem dX4_lampsAt_13 : decode cX4_lampsAt 13 = .ok (.aload_n 0, 1) := by decide +kernel
theorem dX4_lampsAt_14 : decode cX4_lampsAt 14 = .ok (.getfield 31, 3) := by decide +kernel
theorem dX4_lampsAt_17 : decode cX4_lampsAt 17 = .ok (.iload_n 3, 1) := by decide +kernel
theorem dX4_lampsAt_18 : decode cX4_lampsAt 18 = .ok (.iaload, 1) := by decide +kernel
theorem dX4_lampsAt_19 : decode cX4_lampsAt 19 = .ok (.iconst (-1), 1) := by decide +kernel
theorem dX4_lampsAt_20 : decode cX4_lampsAt 20 = .ok (.if_icmp .eq 38, 3) := by decide +kernel
theorem dX4_lampsAt_23 : decode cX4_lampsAt 23 = .ok (.iload_n 1, 1) := by decide +kernel
theorem dX4_lampsAt_24 : decode cX4_lampsAt 24 = .ok (.aload_n 0, 1) := by decide +kernel
theorem dX4_lampsAt_25 : decode cX4_lampsAt 25 = .ok (.getfield 31, 3) := by decide +kernel
theorem dX4_lampsAt_28 : decode cX4_lampsAt 28 = .ok (.iload_n 3, 1) := by decide +kernel
theorem dX4_lampsAt_29 : decode cX4_lampsAt 29 = .ok (.iaload, 1) := by decide +kernel
theorem dX4_lampsAt_30 : decode cX4_lampsAt 30 = .ok (.aload_n 0, 1) := by decide +kernel
theorem dX4_lampsAt_31 : decode cX4_lampsAt 31 = .ok (.getfield 31, 3) := by decide +kernel
theorem dX4_lampsAt_34 : decode cX4_lampsAt 34 = .ok (.iload_n 3, 1) := by decide +kernel
theorem dX4_lampsAt_35 : decode cX4_lampsAt 35 = .ok (.iaload, 1) := by decide +kernel
theorem dX4_lampsAt_36 : decode cX4_lampsAt 36 = .ok (.aload_n 0, 1) := by decide +kernel
theorem dX4_lampsAt_37 : decode cX4_lampsAt 37 = .ok (.getfield 19, 3) := by decide +kernel
theorem dX4_lampsAt_40 : decode cX4_lampsAt 40 = .ok (.iload_n 3, 1) := by decide +kernel
theorem dX4_lampsAt_41 : decode cX4_lampsAt 41 = .ok (.iaload, 1) := by decide +kernel
theorem dX4_lampsAt_42 : decode cX4_lampsAt 42 = .ok (.invokestatic 124, 3) := by decide +kernel
theorem dX4_lampsAt_45 : decode cX4_lampsAt 45 = .ok (.iadd, 1) := by decide +kernel
theorem dX4_lampsAt_46 : decode cX4_lampsAt 46 = .ok (.iconst 1, 1) := by decide +kernel
theorem dX4_lampsAt_47 : decode cX4_lampsAt 47 = .ok (.isub, 1) := by decide +kernel
theorem dX4_lampsAt_48 : decode cX4_lampsAt 48 = .ok (.invokestatic 81, 3) := by decide +kernel
theorem dX4_lampsAt_51 : decode cX4_lampsAt 51 = .ok (.ifCond .eq 7, 3) := by decide +kernel
theorem dX4_lampsAt_54 : decode cX4_lampsAt 54 = .ok (.iconst 1, 1) := by decide +kernel
theorem dX4_lampsAt_55 : decode cX4_lampsAt 55 = .ok (.goto 4, 3) := by decide +kernel
theorem dX4_lampsAt_58 : decode cX4_lampsAt 58 = .ok (.iconst 0, 1) := by decide +kernel
theorem dX4_lampsAt_59 : decode cX4_lampsAt 59 = .ok (.iadd, 1) := by decide +kernel
theorem dX4_lampsAt_60 : decode cX4_lampsAt 60 = .ok (.istore_n 2, 1) := by decide +kernel
theorem dX4_lampsAt_61 : decode cX4_lampsAt 61 = .ok (.iinc 3 1, 3) := by decide +kernel
theorem dX4_lampsAt_64 : decode cX4_lampsAt 64 = .ok (.goto (-60), 3) := by decide +kernel
theorem dX4_lampsAt_67 : decode cX4_lampsAt 67 = .ok (.iload_n 2, 1) := by decide +kernel
theorem dX4_lampsAt_68 : decode cX4_lampsAt 68 = .ok (.ireturn, 1) := by decide +kernel
set_option maxRecDepth 20000 in
theorem ggX4_patch_X4_isLamp : GoodIn wsX4_patch wsX4_isLamp := goodIn_r _ [7, 8, 9, 10, 6, 11, 24, 25, 26, 27, 28, 29, 30, 31, 32, 33, 34, 35, 36, 37, 38, 39, 40, 41, 42, 43, 44, 45, 46, 47, 48, 49, 50, 51] (by decide +kernel) (by decide +kernel)
set_option maxRecDepth 20000 in
theorem gX4_patch_X4_isLamp : GoodIn wsX4_patch (wsV RX4 107 RX4 yX4_isLamp wsX4_isLamp) := goodIn_app (goodIn_of _ (by decide +kernel)) ggX4_patch_X4_isLamp
set_option maxRecDepth 20000 in
theorem ggX4_patch_X4_has : GoodIn wsX4_patch wsX4_has := goodIn_r _ [14] (by decide +kernel) (by decide +kernel)
set_option maxRecDepth 20000 in
theorem gX4_patch_X4_has : GoodIn wsX4_patch (va_wsS RX4 124 yX4_has wsX4_has) := goodIn_app (goodIn_of _ (by decide +kernel)) ggX4_patch_X4_has
set_option maxRecDepth 20000 in
theorem ggX4_patch_X4_isIn : GoodIn wsX4_patch wsX4_isIn := goodIn_r _ [11] (by decide +kernel) (by decide +kernel)
set_option maxRecDepth 20000 in
theorem gX4_patch_X4_isIn : GoodIn wsX4_patch (va_wsS RX4 81 yX4_isIn wsX4_isIn) := goodIn_app (goodIn_of _ (by decide +kernel)) ggX4_patch_X4_isIn
set_option maxRecDepth 20000 in
theorem ggX4_patch_X4_mayBoth : GoodIn wsX4_patch wsX4_mayBoth := goodIn_r _ [18, 19, 24, 25, 26, 27, 28, 29, 30, 31, 32, 33, 34, 35, 36, 37, 38, 39, 40, 41, 42, 43, 44, 45, 46, 47, 48, 49, 50, 51] (by decide +kernel) (by decide +kernel)
set_option maxRecDepth 20000 in
theorem gX4_patch_X4_mayBoth : GoodIn wsX4_patch (wsV RX4 95 RX4 yX4_mayBoth wsX4_mayBoth) := goodIn_app (goodIn_of _ (by decide +kernel)) ggX4_patch_X4_mayBoth
set_option maxRecDepth 20000 in
theorem ggX4_patch_X4_lampsAt : GoodIn wsX4_patch wsX4_lampsAt := goodIn_r _ [23, 8, 2, 1, 12, 13, 6, 14, 9, 10, 11, 24, 25, 26, 27, 28, 29, 30, 31, 32, 33, 34, 35, 36, 37, 38, 39, 40, 41, 42, 43, 44, 45, 46, 47, 48, 49, 50, 51] (by decide +kernel) (by decide +kernel)
set_option maxRecDepth 20000 in
theorem gX4_patch_X4_lampsAt : GoodIn wsX4_patch (wsV RX4 127 RX4 yX4_lampsAt wsX4_lampsAt) := goodIn_app (goodIn_of _ (by decide +kernel)) ggX4_patch_X4_lampsAt
theorem dX4_patch_0 : decode cX4_patch 0 = .ok (.aload_n 0, 1) := by decide +kernel
theorem dX4_patch_1 : decode cX4_patch 1 = .ok (.iload_n 1, 1) := by decide +kernel
theorem dX4_patch_2 : decode cX4_patch 2 = .ok (.invokevirtual 107, 3) := by decide +kernel
theorem dX4_patch_5 : decode cX4_patch 5 = .ok (.istore_n 3, 1) := by decide +kernel
theorem dX4_patch_6 : decode cX4_patch 6 = .ok (.aload_n 0, 1) := by decide +kernel
theorem dX4_patch_7 : decode cX4_patch 7 = .ok (.iload_n 3, 1) := by decide +kernel
theorem dX4_patch_8 : decode cX4_patch 8 = .ok (.iload_n 3, 1) := by decide +kernel
theorem dX4_patch_9 : decode cX4_patch 9 = .ok (.ifCond .eq 27, 3) := by decide +kernel
theorem dX4_patch_12 : decode cX4_patch 12 = .ok (.iload_n 2, 1) := by decide +kernel
theorem dX4_patch_13 : decode cX4_patch 13 = .ok (.iconst (-1), 1) := by decide +kernel
theorem dX4_patch_14 : decode cX4_patch 14 = .ok (.bipush 100, 2) := by decide +kernel
theorem dX4_patch_16 : decode cX4_patch 16 = .ok (.aload_n 0, 1) := by decide +kernel
theorem dX4_patch_17 : decode cX4_patch 17 = .ok (.getfield 19, 3) := by decide +kernel
theorem dX4_patch_20 : decode cX4_patch 20 = .ok (.iload_n 1, 1) := by decide +kernel
theorem dX4_patch_21 : decode cX4_patch 21 = .ok (.iaload, 1) := by decide +kernel
theorem dX4_patch_22 : decode cX4_patch 22 = .ok (.invokestatic 124, 3) := by decide +kernel
theorem dX4_patch_25 : decode cX4_patch 25 = .ok (.isub, 1) := by decide +kernel
theorem dX4_patch_26 : decode cX4_patch 26 = .ok (.invokestatic 81, 3) := by decide +kernel
theorem dX4_patch_29 : decode cX4_patch 29 = .ok (.ifCond .eq 7, 3) := by decide +kernel
theorem dX4_patch_32 : decode cX4_patch 32 = .ok (.iconst 1, 1) := by decide +kernel
theorem dX4_patch_33 : decode cX4_patch 33 = .ok (.goto 4, 3) := by decide +kernel
theorem dX4_patch_36 : decode cX4_patch 36 = .ok (.iconst 0, 1) := by decide +kernel
theorem dX4_patch_37 : decode cX4_patch 37 = .ok (.invokevirtual 95, 3) := by decide +kernel
theorem dX4_patch_40 : decode cX4_patch 40 = .ok (.ifCond .ne 5, 3) := by decide +kernel
theorem dX4_patch_43 : decode cX4_patch 43 = .ok (.iconst 0, 1) := by decide +kernel
