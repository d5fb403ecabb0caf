theorem dX6_init_0 : decode cX6_init 0 = .ok (.aload_n 0, 1) := by decide +kernel
theorem dX6_init_1 : decode cX6_init 1 = .ok (.invokespecial 1, 3) := by decide +kernel
theorem dX6_init_4 : decode cX6_init 4 = .ok (.aload_n 0, 1) := by decide +kernel
theorem dX6_init_5 : decode cX6_init 5 = .ok (.bipush 9, 2) := by decide +kernel
theorem dX6_init_7 : decode cX6_init 7 = .ok (.newarray .int, 2) := by decide +kernel
theorem dX6_init_9 : decode cX6_init 9 = .ok (.putfield 7, 3) := by decide +kernel
theorem dX6_init_12 : decode cX6_init 12 = .ok (.aload_n 0, 1) := by decide +kernel
theorem dX6_init_13 : decode cX6_init 13 = .ok (.bipush 9, 2) := by decide +kernel
theorem dX6_init_15 : decode cX6_init 15 = .ok (.newarray .int, 2) := by decide +kernel
theorem dX6_init_17 : decode cX6_init 17 = .ok (.putfield 13, 3) := by decide +kernel
theorem dX6_init_20 : decode cX6_init 20 = .ok (.aload_n 0, 1) := by decide +kernel
theorem dX6_init_21 : decode cX6_init 21 = .ok (.bipush 9, 2) := by decide +kernel
theorem dX6_init_23 : decode cX6_init 23 = .ok (.newarray .int, 2) := by decide +kernel
theorem dX6_init_25 : decode cX6_init 25 = .ok (.putfield 16, 3) := by decide +kernel
theorem dX6_init_28 : decode cX6_init 28 = .ok (.aload_n 0, 1) := by decide +kernel
theorem dX6_init_29 : decode cX6_init 29 = .ok (.bipush 9, 2) := by decide +kernel
theorem dX6_init_31 : decode cX6_init 31 = .ok (.newarray .int, 2) := by decide +kernel
theorem dX6_init_33 : decode cX6_init 33 = .ok (.putfield 19, 3) := by decide +kernel
theorem dX6_init_36 : decode cX6_init 36 = .ok (.aload_n 0, 1) := by decide +kernel
theorem dX6_init_37 : decode cX6_init 37 = .ok (.bipush 9, 2) := by decide +kernel
theorem dX6_init_39 : decode cX6_init 39 = .ok (.newarray .int, 2) := by decide +kernel
theorem dX6_init_41 : decode cX6_init 41 = .ok (.putfield 22, 3) := by decide +kernel
theorem dX6_init_44 : decode cX6_init 44 = .ok (.aload_n 0, 1) := by decide +kernel
theorem dX6_init_45 : decode cX6_init 45 = .ok (.bipush 9, 2) := by decide +kernel
theorem dX6_init_47 : decode cX6_init 47 = .ok (.newarray .int, 2) := by decide +kernel
theorem dX6_init_49 : decode cX6_init 49 = .ok (.putfield 25, 3) := by decide +kernel
theorem dX6_init_52 : decode cX6_init 52 = .ok (.aload_n 0, 1) := by decide +kernel
theorem dX6_init_53 : decode cX6_init 53 = .ok (.bipush 9, 2) := by decide +kernel
theorem dX6_init_55 : decode cX6_init 55 = .ok (.newarray .int, 2) := by decide +kernel
theorem dX6_init_57 : decode cX6_init 57 = .ok (.putfield 28, 3) := by decide +kernel
theorem dX6_init_60 : decode cX6_init 60 = .ok (.aload_n 0, 1) := by decide +kernel
theorem dX6_init_61 : decode cX6_init 61 = .ok (.bipush 9, 2) := by decide +kernel
theorem dX6_init_63 : decode cX6_init 63 = .ok (.newarray .int, 2) := by decide +kernel
theorem dX6_init_65 : decode cX6_init 65 = .ok (.putfield 31, 3) := by decide +kernel
theorem dX6_init_68 : decode cX6_init 68 = .ok (.aload_n 0, 1) := by decide +kernel
theorem dX6_init_69 : decode cX6_init 69 = .ok (.bipush 9, 2) := by decide +kernel
theorem dX6_init_71 : decode cX6_init 71 = .ok (.newarray .int, 2) := by decide +kernel
theorem dX6_init_73 : decode cX6_init 73 = .ok (.putfield 34, 3) := by decide +kernel
theorem dX6_init_76 : decode cX6_init 76 = .ok (.aload_n 0, 1) := by decide +kernel
theorem dX6_init_77 : decode cX6_init 77 = .ok (.sipush 512, 3) := by decide +kernel
theorem dX6_init_80 : decode cX6_init 80 = .ok (.newarray .int, 2) := by decide +kernel
theorem dX6_init_82 : decode cX6_init 82 = .ok (.putfield 37, 3) := by decide +kernel
theorem dX6_init_85 : decode cX6_init 85 = .ok (.aload_n 0, 1) := by decide +kernel
theorem dX6_init_86 : decode cX6_init 86 = .ok (.bipush 8, 2) := by decide +kernel
theorem dX6_init_88 : decode cX6_init 88 = .ok (.newarray .int, 2) := by decide +kernel
theorem dX6_init_90 : decode cX6_init 90 = .ok (.putfield 40, 3) := by decide +kernel
theorem dX6_init_93 : decode cX6_init 93 = .ok (.aload_n 0, 1) := by decide +kernel
theorem dX6_init_94 : decode cX6_init 94 = .ok (.bipush 8, 2) := by decide +kernel
theorem dX6_init_96 : decode cX6_init 96 = .ok (.newarray .int, 2) := by decide +kernel
theorem dX6_init_98 : decode cX6_init 98 = .ok (.putfield 43, 3) := by decide +kernel
theorem dX6_init_101 : decode cX6_init 101 = .ok (.aload_n 0, 1) := by decide +kernel
theorem dX6_init_102 : decode cX6_init 102 = .ok (.iconst 4, 1) := by decide +kernel
theorem dX6_init_103 : decode cX6_init 103 = .ok (.newarray .int, 2) := by decide +kernel
theorem dX6_init_105 : decode cX6_init 105 = .ok (.putfield 46, 3) := by decide +kernel
theorem dX6_init_108 : decode cX6_init 108 = .ok (.aload_n 0, 1) := by decide +kernel
theorem dX6_init_109 : decode cX6_init 109 = .ok (.iconst 4, 1) := by decide +kernel
theorem dX6_init_110 : decode cX6_init 110 = .ok (.newarray .int, 2) := by decide +kernel
theorem dX6_init_112 : decode cX6_init 112 = .ok (.putfield 49, 3) := by decide +kernel
theorem dX6_init_115 : decode cX6_init 115 = .ok (.aload_n 0, 1) := by decide +kernel
theorem dX6_init_116 : decode cX6_init 116 = .ok (.sipush 240, 3) := by decide +kernel
theorem dX6_init_119 : decode cX6_init 119 = .ok (.newarray .int, 2) := by decide +kernel
theorem dX6_init_121 : decode cX6_init 121 = .ok (.putfield 52, 3) := by decide +kernel
theorem dX6_init_124 : decode cX6_init 124 = .ok (.aload_n 0, 1) := by decide +kernel
theorem dX6_init_125 : decode cX6_init 125 = .ok (.bipush 60, 2) := by decide +kernel
theorem dX6_init_127 : decode cX6_init 127 = .ok (.newarray .int, 2) := by decide +kernel
theorem dX6_init_129 : decode cX6_init 129 = .ok (.putfield 55, 3) := by decide +kernel
theorem dX6_init_132 : decode cX6_init 132 = .ok (.iconst 0, 1) := by decide +kernel
theorem dX6_init_133 : decode cX6_init 133 = .ok (.istore_n 1, 1) := by decide +kernel
theorem dX6_init_134 : decode cX6_init 134 = .ok (.iload_n 1, 1) := by decide +kernel
theorem dX6_init_135 : decode cX6_init 135 = .ok (.iconst 4, 1) := by decide +kernel
theorem dX6_init_136 : decode cX6_init 136 = .ok (.if_icmp .ge 16, 3) := by decide +kernel
theorem dX6_init_139 : decode cX6_init 139 = .ok (.aload_n 0, 1) := by decide +kernel
theorem dX6_init_140 : decode cX6_init 140 = .ok (.getfield 46, 3) := by decide +kernel
theorem dX6_init_143 : decode cX6_init 143 = .ok (.iload_n 1, 1) := by decide +kernel
theorem dX6_init_144 : decode cX6_init 144 = .ok (.iconst (-1), 1) := by decide +kernel
theorem dX6_init_145 : decode cX6_init 145 = .ok (.iastore, 1) := by decide +kernel
theorem dX6_init_146 : decode cX6_init 146 = .ok (.iinc 1 1, 3) := by decide +kernel
theorem dX6_init_149 : decode cX6_init 149 = .ok (.goto (-15), 3) := by decide +kernel
theorem dX6_init_152 : decode cX6_init 152 = .ok (.return_, 1) := by decide +kernel
theorem dX6_in_0 : decode cX6_in 0 = .ok (.lload_n 0, 1) := by decide +kernel
theorem dX6_in_1 : decode cX6_in 1 = .ok (.lload_n 2, 1) := by decide +kernel
theorem dX6_in_2 : decode cX6_in 2 = .ok (.lcmp, 1) := by decide +kernel
theorem dX6_in_3 : decode cX6_in 3 = .ok (.ifCond .lt 14, 3) := by decide +kernel
theorem dX6_in_6 : decode cX6_in 6 = .ok (.lload_n 0, 1) := by decide +kernel
theorem dX6_in_7 : decode cX6_in 7 = .ok (.lload 4, 2) := by decide +kernel
theorem dX6_in_9 : decode cX6_in 9 = .ok (.lcmp, 1) := by decide +kernel
theorem dX6_in_10 : decode cX6_in 10 = .ok (.ifCond .gt 7, 3) := by decide +kernel
theorem dX6_in_13 : decode cX6_in 13 = .ok (.iconst 1, 1) := by decide +kernel
theorem dX6_in_14 : decode cX6_in 14 = .ok (.goto 4, 3) := by decide +kernel
theorem dX6_in_17 : decode cX6_in 17 = .ok (.iconst 0, 1) := by decide +kernel
theorem dX6_in_18 : decode cX6_in 18 = .ok (.ireturn, 1) := by decide +kernel
theorem dX6_lost_0 : decode cX6_lost 0 = .ok (.ldc2_w 58, 3) := by decide +kernel
theorem dX6_lost_3 : decode cX6_lost 3 = .ok (.lreturn, 1) := by decide +kernel
theorem dX6_isIn_0 : decode cX6_isIn 0 = .ok (.iload_n 0, 1) := by decide +kernel
theorem dX6_isIn_1 : decode cX6_isIn 1 = .ok (.iload_n 1, 1) := by decide +kernel
theorem dX6_isIn_2 : decode cX6_isIn 2 = .ok (.ishr, 1) := by decide +kernel
theorem dX6_isIn_3 : decode cX6_isIn 3 = .ok (.iconst 1, 1) := by decide +kernel
theorem dX6_isIn_4 : decode cX6_isIn 4 = .ok (.iand, 1) := by decide +kernel
theorem dX6_isIn_5 : decode cX6_isIn 5 = .ok (.iconst 1, 1) := by decide +kernel
theorem dX6_isIn_6 : decode cX6_isIn 6 = .ok (.if_icmp .ne 7, 3) := by decide +kernel
theorem dX6_isIn_9 : decode cX6_isIn 9 = .ok (.iconst 1, 1) := by decide +kernel
theorem dX6_isIn_10 : decode cX6_isIn 10 = .ok (.goto 4, 3) := by decide +kernel
theorem dX6_isIn_13 : decode cX6_isIn 13 = .ok (.iconst 0, 1) := by decide +kernel
theorem dX6_isIn_14 : decode cX6_isIn 14 = .ok (.ireturn, 1) := by decide +kernel
theorem dX6_bits_0 : decode cX6_bits 0 = .ok (.iconst 0, 1) := by decide +kernel
theorem dX6_bits_1 : decode cX6_bits 1 = .ok (.istore_n 1, 1) := by decide +kernel
theorem dX6_bits_2 : decode cX6_bits 2 = .ok (.iload_n 0, 1) := by decide +kernel
theorem dX6_bits_3 : decode cX6_bits 3 = .ok (.istore_n 2, 1) := by decide +kernel
theorem dX6_bits_4 : decode cX6_bits 4 = .ok (.iload_n 2, 1) := by decide +kernel
theorem dX6_bits_5 : decode cX6_bits 5 = .ok (.ifCond .le 16, 3) := by decide +kernel
theorem dX6_bits_8 : decode cX6_bits 8 = .ok (.iload_n 1, 1) := by decide +kernel
theorem dX6_bits_9 : decode cX6_bits 9 = .ok (.iload_n 2, 1) := by decide +kernel
theorem dX6_bits_10 : decode cX6_bits 10 = .ok (.iconst 1, 1) := by decide +kernel
theorem dX6_bits_11 : decode cX6_bits 11 = .ok (.iand, 1) := by decide +kernel
theorem dX6_bits_12 : decode cX6_bits 12 = .ok (.iadd, 1) := by decide +kernel
theorem dX6_bits_13 : decode cX6_bits 13 = .ok (.istore_n 1, 1) := by decide +kernel
theorem dX6_bits_14 : decode cX6_bits 14 = .ok (.iload_n 2, 1) := by decide +kernel
theorem dX6_bits_15 : decode cX6_bits 15 = .ok (.iconst 1, 1) := by decide +kernel
theorem dX6_bits_16 : decode cX6_bits 16 = .ok (.ishr, 1) := by decide +kernel
theorem dX6_bits_17 : decode cX6_bits 17 = .ok (.istore_n 2, 1) := by decide +kernel
theorem dX6_bits_18 : decode cX6_bits 18 = .ok (.goto (-14), 3) := by decide +kernel
theorem dX6_bits_21 : decode cX6_bits 21 = .ok (.iload_n 1, 1) := by decide +kernel
theorem dX6_bits_22 : decode cX6_bits 22 = .ok (.ireturn, 1) := by decide +kernel
theorem dX6_share_0 : decode cX6_share 0 = .ok (.lload_n 0, 1) := by decide +kernel
theorem dX6_share_1 : decode cX6_share 1 = .ok (.lstore 5, 2) := by decide +kernel
theorem dX6_share_3 : decode cX6_share 3 = .ok (.lload_n 2, 1) := by decide +kernel
theorem dX6_share_4 : decode cX6_share 4 = .ok (.lstore 7, 2) := by decide +kernel
theorem dX6_share_6 : decode cX6_share 6 = .ok (.lload 7, 2) := by decide +kernel
theorem dX6_share_8 : decode cX6_share 8 = .ok (.lconst 0, 1) := by decide +kernel
theorem dX6_share_9 : decode cX6_share 9 = .ok (.lcmp, 1) := by decide +kernel
theorem dX6_share_10 : decode cX6_share 10 = .ok (.ifCond .eq 21, 3) := by decide +kernel
theorem dX6_share_13 : decode cX6_share 13 = .ok (.lload 5, 2) := by decide +kernel
theorem dX6_share_15 : decode cX6_share 15 = .ok (.lload 7, 2) := by decide +kernel
theorem dX6_share_17 : decode cX6_share 17 = .ok (.lrem, 1) := by decide +kernel
theorem dX6_share_18 : decode cX6_share 18 = .ok (.lstore 9, 2) := by decide +kernel
theorem dX6_share_20 : decode cX6_share 20 = .ok (.lload 7, 2) := by decide +kernel
theorem dX6_share_22 : decode cX6_share 22 = .ok (.lstore 5, 2) := by decide +kernel
theorem dX6_share_24 : decode cX6_share 24 = .ok (.lload 9, 2) := by decide +kernel
theorem dX6_share_26 : decode cX6_share 26 = .ok (.lstore 7, 2) := by decide +kernel
theorem dX6_share_28 : decode cX6_share 28 = .ok (.goto (-22), 3) := by decide +kernel
theorem dX6_share_31 : decode cX6_share 31 = .ok (.iload 4, 2) := by decide +kernel
theorem dX6_share_33 : decode cX6_share 33 = .ok (.ifCond .ne 7, 3) := by decide +kernel
theorem dX6_share_36 : decode cX6_share 36 = .ok (.lload_n 0, 1) := by decide +kernel
theorem dX6_share_37 : decode cX6_share 37 = .ok (.goto 4, 3) := by decide +kernel
theorem dX6_share_40 : decode cX6_share 40 = .ok (.lload_n 2, 1) := by decide +kernel
theorem dX6_share_41 : decode cX6_share 41 = .ok (.lload 5, 2) := by decide +kernel
theorem dX6_share_43 : decode cX6_share 43 = .ok (.ldiv, 1) := by decide +kernel
theorem dX6_share_44 : decode cX6_share 44 = .ok (.lreturn, 1) := by decide +kernel
theorem dX6_refused_0 : decode cX6_refused 0 = .ok (.aload_n 0, 1) := by decide +kernel
theorem dX6_refused_1 : decode cX6_refused 1 = .ok (.iconst 0, 1) := by decide +kernel
theorem dX6_refused_2 : decode cX6_refused 2 = .ok (.putfield 60, 3) := by decide +kernel
theorem dX6_refused_5 : decode cX6_refused 5 = .ok (.iload_n 1, 1) := by decide +kernel
theorem dX6_refused_6 : decode cX6_refused 6 = .ok (.ireturn, 1) := by decide +kernel
theorem dX6_failed_0 : decode cX6_failed 0 = .ok (.aload_n 0, 1) := by decide +kernel
theorem dX6_failed_1 : decode cX6_failed 1 = .ok (.iload_n 1, 1) := by decide +kernel
theorem dX6_failed_2 : decode cX6_failed 2 = .ok (.putfield 60, 3) := by decide +kernel
theorem dX6_failed_5 : decode cX6_failed 5 = .ok (.bipush (-10), 2) := by decide +kernel
theorem dX6_failed_7 : decode cX6_failed 7 = .ok (.iload_n 1, 1) := by decide +kernel
theorem dX6_failed_8 : decode cX6_failed 8 = .ok (.isub, 1) := by decide +kernel
theorem dX6_failed_9 : decode cX6_failed 9 = .ok (.ireturn, 1) := by decide +kernel
set_option maxRecDepth 20000 in
theorem ggX6_failedLong_X6_lost : GoodIn wsX6_failedLong wsX6_lost := goodIn_r _ [5, 6] (by decide +kernel) (by decide +kernel)
set_option maxRecDepth 20000 in
theorem gX6_failedLong_X6_lost : GoodIn wsX6_failedLong (va_wsS RX6 64 yX6_lost wsX6_lost) := goodIn_app (goodIn_of _ (by decide +kernel)) ggX6_failedLong_X6_lost
theorem dX6_failedLong_0 : decode cX6_failedLong 0 = .ok (.aload_n 0, 1) := by decide +kernel
theorem dX6_failedLong_1 : decode cX6_failedLong 1 = .ok (.iload_n 1, 1) := by decide +kernel
theorem dX6_failedLong_2 : decode cX6_failedLong 2 = .ok (.putfield 60, 3) := by decide +kernel
theorem dX6_failedLong_5 : decode cX6_failedLong 5 = .ok (.invokestatic 64, 3) := by decide +kernel
theorem dX6_failedLong_8 : decode cX6_failedLong 8 = .ok (.lreturn, 1) := by decide +kernel
set_option maxRecDepth 20000 in
theorem ggX6_noPin_X6_in : GoodIn wsX6_noPin wsX6_in := goodIn_r _ [5] (by decide +kernel) (by decide +kernel)
set_option maxRecDepth 20000 in
theorem gX6_noPin_X6_in : GoodIn wsX6_noPin (va_wsS RX6 71 yX6_in wsX6_in) := goodIn_app (goodIn_of _ (by decide +kernel)) ggX6_noPin_X6_in
theorem dX6_noPin_0 : decode cX6_noPin 0 = .ok (.iload_n 1, 1) := by decide +kernel
theorem dX6_noPin_1 : decode cX6_noPin 1 = .ok (.i2l, 1) := by decide +kernel
theorem dX6_noPin_2 : decode cX6_noPin 2 = .ok (.lconst 0, 1) := by decide +kernel
theorem dX6_noPin_3 : decode cX6_noPin 3 = .ok (.aload_n 0, 1) := by decide +kernel
theorem dX6_noPin_4 : decode cX6_noPin 4 = .ok (.getfield 68, 3) := by decide +kernel
theorem dX6_noPin_7 : decode cX6_noPin 7 = .ok (.i2l, 1) := by decide +kernel
theorem dX6_noPin_8 : decode cX6_noPin 8 = .ok (.lconst 1, 1) := by decide +kernel
theorem dX6_noPin_9 : decode cX6_noPin 9 = .ok (.lsub, 1) := by decide +kernel
theorem dX6_noPin_10 : decode cX6_noPin 10 = .ok (.invokestatic 71, 3) := by decide +kernel
theorem dX6_noPin_13 : decode cX6_noPin 13 = .ok (.ifCond .ne 7, 3) := by decide +kernel
theorem dX6_noPin_16 : decode cX6_noPin 16 = .ok (.iconst 1, 1) := by decide +kernel
theorem dX6_noPin_17 : decode cX6_noPin 17 = .ok (.goto 4, 3) := by decide +kernel
theorem dX6_noPin_20 : decode cX6_noPin 20 = .ok (.iconst 0, 1) := by decide +kernel
theorem dX6_noPin_21 : decode cX6_noPin 21 = .ok (.ireturn, 1) := by decide +kernel
theorem dX6_codeAt_0 : decode cX6_codeAt 0 = .ok (.aload_n 0, 1) := by decide +kernel
theorem dX6_codeAt_1 : decode cX6_codeAt 1 = .ok (.getfield 75, 3) := by decide +kernel
theorem dX6_codeAt_4 : decode cX6_codeAt 4 = .ok (.iload_n 2, 1) := by decide +kernel
theorem dX6_codeAt_5 : decode cX6_codeAt 5 = .ok (.if_icmp .ge 17, 3) := by decide +kernel
theorem dX6_codeAt_8 : decode cX6_codeAt 8 = .ok (.aload_n 0, 1) := by decide +kernel
theorem dX6_codeAt_9 : decode cX6_codeAt 9 = .ok (.getfield 52, 3) := by decide +kernel
theorem dX6_codeAt_12 : decode cX6_codeAt 12 = .ok (.iload_n 1, 1) := by decide +kernel
theorem dX6_codeAt_13 : decode cX6_codeAt 13 = .ok (.aload_n 0, 1) := by decide +kernel
theorem dX6_codeAt_14 : decode cX6_codeAt 14 = .ok (.getfield 75, 3) := by decide +kernel
theorem dX6_codeAt_17 : decode cX6_codeAt 17 = .ok (.iadd, 1) := by decide +kernel
theorem dX6_codeAt_18 : decode cX6_codeAt 18 = .ok (.iaload, 1) := by decide +kernel
theorem dX6_codeAt_19 : decode cX6_codeAt 19 = .ok (.goto 5, 3) := by decide +kernel
theorem dX6_codeAt_22 : decode cX6_codeAt 22 = .ok (.bipush (-9), 2) := by decide +kernel
theorem dX6_codeAt_24 : decode cX6_codeAt 24 = .ok (.ireturn, 1) := by decide +kernel
set_option maxRecDepth 20000 in
theorem ggX6_figure_X6_codeAt : GoodIn wsX6_figure wsX6_codeAt := goodIn_r _ [6, 1, 7, 11, 12, 13, 14, 15, 16, 17, 18, 19, 20, 21, 22, 23, 24, 25, 26, 27, 28, 29, 30, 31, 32, 33, 34, 35, 36, 37, 38, 39, 40] (by decide +kernel) (by decide +kernel)
set_option maxRecDepth 20000 in
theorem gX6_figure_X6_codeAt : GoodIn wsX6_figure (wsV RX6 78 RX6 yX6_codeAt wsX6_codeAt) := goodIn_app (goodIn_of _ (by decide +kernel)) ggX6_figure_X6_codeAt
set_option maxRecDepth 20000 in
theorem ggX6_figure_X6_in : GoodIn wsX6_figure wsX6_in := goodIn_r _ [10] (by decide +kernel) (by decide +kernel)
set_option maxRecDepth 20000 in
theorem gX6_figure_X6_in : GoodIn wsX6_figure (va_wsS RX6 71 yX6_in wsX6_in) := goodIn_app (goodIn_of _ (by decide +kernel)) ggX6_figure_X6_in
theorem dX6_figure_0 : decode cX6_figure 0 = .ok (.iload_n 3, 1) := by decide +kernel
theorem dX6_figure_1 : decode cX6_figure 1 = .ok (.ifCond .ge 8, 3) := by decide +kernel
theorem dX6_figure_4 : decode cX6_figure 4 = .ok (.bipush (-9), 2) := by decide +kernel
theorem dX6_figure_6 : decode cX6_figure 6 = .ok (.goto 12, 3) := by decide +kernel
theorem dX6_figure_9 : decode cX6_figure 9 = .ok (.aload_n 0, 1) := by decide +kernel
theorem dX6_figure_10 : decode cX6_figure 10 = .ok (.iload_n 1, 1) := by decide +kernel
theorem dX6_figure_11 : decode cX6_figure 11 = .ok (.iload_n 2, 1) := by decide +kernel
theorem dX6_figure_12 : decode cX6_figure 12 = .ok (.invokevirtual 78, 3) := by decide +kernel
theorem dX6_figure_15 : decode cX6_figure 15 = .ok (.bipush 48, 2) := by decide +kernel
theorem dX6_figure_17 : decode cX6_figure 17 = .ok (.isub, 1) := by decide +kernel
theorem dX6_figure_18 : decode cX6_figure 18 = .ok (.istore 6, 2) := by decide +kernel
theorem dX6_figure_20 : decode cX6_figure 20 = .ok (.iload 6, 2) := by decide +kernel
theorem dX6_figure_22 : decode cX6_figure 22 = .ok (.i2l, 1) := by decide +kernel
theorem dX6_figure_23 : decode cX6_figure 23 = .ok (.iload 4, 2) := by decide +kernel
theorem dX6_figure_25 : decode cX6_figure 25 = .ok (.i2l, 1) := by decide +kernel
theorem dX6_figure_26 : decode cX6_figure 26 = .ok (.iload 5, 2) := by decide +kernel
theorem dX6_figure_28 : decode cX6_figure 28 = .ok (.i2l, 1) := by decide +kernel
theorem dX6_figure_29 : decode cX6_figure 29 = .ok (.invokestatic 71, 3) := by decide +kernel
theorem dX6_figure_32 : decode cX6_figure 32 = .ok (.istore 7, 2) := by decide +kernel
theorem dX6_figure_34 : decode cX6_figure 34 = .ok (.aload_n 0, 1) := by decide +kernel
theorem dX6_figure_35 : decode cX6_figure 35 = .ok (.dup, 1) := by decide +kernel
theorem dX6_figure_36 : decode cX6_figure 36 = .ok (.getfield 75, 3) := by decide +kernel
theorem dX6_figure_39 : decode cX6_figure 39 = .ok (.iload 7, 2) := by decide +kernel
theorem dX6_figure_41 : decode cX6_figure 41 = .ok (.ifCond .eq 7, 3) := by decide +kernel
theorem dX6_figure_44 : decode cX6_figure 44 = .ok (.iconst 1, 1) := by decide +kernel
theorem dX6_figure_45 : decode cX6_figure 45 = .ok (.goto 4, 3) := by decide +kernel
theorem dX6_figure_48 : decode cX6_figure 48 = .ok (.iconst 0, 1) := by decide +kernel
theorem dX6_figure_49 : decode cX6_figure 49 = .ok (.iadd, 1) := by decide +kernel
theorem dX6_figure_50 : decode cX6_figure 50 = .ok (.putfield 75, 3) := by decide +kernel
theorem dX6_figure_53 : decode cX6_figure 53 = .ok (.iload 7, 2) := by decide +kernel
theorem dX6_figure_55 : decode cX6_figure 55 = .ok (.ifCond .eq 8, 3) := by decide +kernel
theorem dX6_figure_58 : decode cX6_figure 58 = .ok (.iload 6, 2) := by decide +kernel
theorem dX6_figure_60 : decode cX6_figure 60 = .ok (.goto 5, 3) := by decide +kernel
theorem dX6_figure_63 : decode cX6_figure 63 = .ok (.bipush (-9), 2) := by decide +kernel
theorem dX6_figure_65 : decode cX6_figure 65 = .ok (.ireturn, 1) := by decide +kernel
set_option maxRecDepth 20000 in
theorem ggX6_readsPin_X6_codeAt : GoodIn wsX6_readsPin wsX6_codeAt := goodIn_r _ [11, 2, 12, 20, 21, 22, 23, 24, 25, 26, 27, 28, 29, 30, 31, 32, 33, 34, 35, 36, 37, 38, 39, 40, 41, 42, 43, 44, 45, 46, 47, 48, 49] (by decide +kernel) (by decide +kernel)
set_option maxRecDepth 20000 in
theorem gX6_readsPin_X6_codeAt : GoodIn wsX6_readsPin (wsV RX6 78 RX6 yX6_codeAt wsX6_codeAt) := goodIn_app (goodIn_of _ (by decide +kernel)) ggX6_readsPin_X6_codeAt
set_option maxRecDepth 20000 in
theorem ggX6_readsPin_X6_figure : GoodIn wsX6_readsPin wsX6_figure := goodIn_r _ [16, 2, 7, 8, 9, 10, 11, 12, 17, 18, 19, 20, 21, 22, 23, 24, 25, 26, 27, 28, 29, 30, 31, 32, 33, 34, 35, 36, 37, 38, 39, 40, 41, 42, 43, 44, 45, 46, 47, 48, 49] (by decide +kernel) (by decide +kernel)
set_option maxRecDepth 20000 in
theorem gX6_readsPin_X6_figure : GoodIn wsX6_readsPin (wsV RX6 85 RX6 yX6_figure wsX6_figure) := goodIn_app (goodIn_of _ (by decide +kernel)) ggX6_readsPin_X6_figure
theorem dX6_readsPin_0 : decode cX6_readsPin 0 = .ok (.aload_n 0, 1) := by decide +kernel
theorem dX6_readsPin_1 : decode cX6_readsPin 1 = .ok (.getfield 82, 3) := by decide +kernel
theorem dX6_readsPin_4 : decode cX6_readsPin 4 = .ok (.bipush 9, 2) := by decide +kernel
theorem dX6_readsPin_6 : decode cX6_readsPin 6 = .ok (.if_icmp .eq 14, 3) := by decide +kernel
theorem dX6_readsPin_9 : decode cX6_readsPin 9 = .ok (.aload_n 0, 1) := by decide +kernel
theorem dX6_readsPin_10 : decode cX6_readsPin 10 = .ok (.iload_n 1, 1) := by decide +kernel
theorem dX6_readsPin_11 : decode cX6_readsPin 11 = .ok (.iload_n 2, 1) := by decide +kernel
theorem dX6_readsPin_12 : decode cX6_readsPin 12 = .ok (.invokevirtual 78, 3) := by decide +kernel
theorem dX6_readsPin_15 : decode cX6_readsPin 15 = .ok (.bipush 59, 2) := by decide +kernel
theorem dX6_readsPin_17 : decode cX6_readsPin 17 = .ok (.if_icmp .eq 5, 3) := by decide +kernel
theorem dX6_readsPin_20 : decode cX6_readsPin 20 = .ok (.iconst 0, 1) := by decide +kernel
theorem dX6_readsPin_21 : decode cX6_readsPin 21 = .ok (.ireturn, 1) := by decide +kernel
theorem dX6_readsPin_22 : decode cX6_readsPin 22 = .ok (.aload_n 0, 1) := by decide +kernel
theorem dX6_readsPin_23 : decode cX6_readsPin 23 = .ok (.dup, 1) := by decide +kernel
theorem dX6_readsPin_24 : decode cX6_readsPin 24 = .ok (.getfield 75, 3) := by decide +kernel
theorem dX6_readsPin_27 : decode cX6_readsPin 27 = .ok (.iconst 1, 1) := by decide +kernel
theorem dX6_readsPin_28 : decode cX6_readsPin 28 = .ok (.iadd, 1) := by decide +kernel
theorem dX6_readsPin_29 : decode cX6_readsPin 29 = .ok (.putfield 75, 3) := by decide +kernel
theorem dX6_readsPin_32 : decode cX6_readsPin 32 = .ok (.aload_n 0, 1) := by decide +kernel
theorem dX6_readsPin_33 : decode cX6_readsPin 33 = .ok (.iload_n 1, 1) := by decide +kernel
theorem dX6_readsPin_34 : decode cX6_readsPin 34 = .ok (.iload_n 2, 1) := by decide +kernel
theorem dX6_readsPin_35 : decode cX6_readsPin 35 = .ok (.invokevirtual 78, 3) := by decide +kernel
theorem dX6_readsPin_38 : decode cX6_readsPin 38 = .ok (.istore_n 3, 1) := by decide +kernel
theorem dX6_readsPin_39 : decode cX6_readsPin 39 = .ok (.iload_n 3, 1) := by decide +kernel
theorem dX6_readsPin_40 : decode cX6_readsPin 40 = .ok (.bipush 112, 2) := by decide +kernel
theorem dX6_readsPin_42 : decode cX6_readsPin 42 = .ok (.if_icmp .eq 17, 3) := by decide +kernel
theorem dX6_readsPin_45 : decode cX6_readsPin 45 = .ok (.iload_n 3, 1) := by decide +kernel
theorem dX6_readsPin_46 : decode cX6_readsPin 46 = .ok (.bipush 99, 2) := by decide +kernel
theorem dX6_readsPin_48 : decode cX6_readsPin 48 = .ok (.if_icmp .eq 11, 3) := by decide +kernel
theorem dX6_readsPin_51 : decode cX6_readsPin 51 = .ok (.iload_n 3, 1) := by decide +kernel
theorem dX6_readsPin_52 : decode cX6_readsPin 52 = .ok (.bipush 100, 2) := by decide +kernel
theorem dX6_readsPin_54 : decode cX6_readsPin 54 = .ok (.if_icmp .eq 5, 3) := by decide +kernel
theorem dX6_readsPin_57 : decode cX6_readsPin 57 = .ok (.iconst 0, 1) := by decide +kernel
theorem dX6_readsPin_58 : decode cX6_readsPin 58 = .ok (.ireturn, 1) := by decide +kernel
theorem dX6_readsPin_59 : decode cX6_readsPin 59 = .ok (.aload_n 0, 1) := by decide +kernel
theorem dX6_readsPin_60 : decode cX6_readsPin 60 = .ok (.dup, 1) := by decide +kernel
theorem dX6_readsPin_61 : decode cX6_readsPin 61 = .ok (.getfield 75, 3) := by decide +kernel
theorem dX6_readsPin_64 : decode cX6_readsPin 64 = .ok (.iconst 1, 1) := by decide +kernel
theorem dX6_readsPin_65 : decode cX6_readsPin 65 = .ok (.iadd, 1) := by decide +kernel
theorem dX6_readsPin_66 : decode cX6_readsPin 66 = .ok (.putfield 75, 3) := by decide +kernel
theorem dX6_readsPin_69 : decode cX6_readsPin 69 = .ok (.aload_n 0, 1) := by decide +kernel
theorem dX6_readsPin_70 : decode cX6_readsPin 70 = .ok (.iload_n 1, 1) := by decide +kernel
theorem dX6_readsPin_71 : decode cX6_readsPin 71 = .ok (.iload_n 2, 1) := by decide +kernel
theorem dX6_readsPin_72 : decode cX6_readsPin 72 = .ok (.iconst 0, 1) := by decide +kernel
theorem dX6_readsPin_73 : decode cX6_readsPin 73 = .ok (.iconst 0, 1) := by decide +kernel
theorem dX6_readsPin_74 : decode cX6_readsPin 74 = .ok (.bipush 9, 2) := by decide +kernel
theorem dX6_readsPin_76 : decode cX6_readsPin 76 = .ok (.invokevirtual 85, 3) := by decide +kernel
theorem dX6_readsPin_79 : decode cX6_readsPin 79 = .ok (.istore 4, 2) := by decide +kernel
theorem dX6_readsPin_81 : decode cX6_readsPin 81 = .ok (.aload_n 0, 1) := by decide +kernel
theorem dX6_readsPin_82 : decode cX6_readsPin 82 = .ok (.iload_n 1, 1) := by decide +kernel
theorem dX6_readsPin_83 : decode cX6_readsPin 83 = .ok (.iload_n 2, 1) := by decide +kernel
theorem dX6_readsPin_84 : decode cX6_readsPin 84 = .ok (.iload 4, 2) := by decide +kernel
theorem dX6_readsPin_86 : decode cX6_readsPin 86 = .ok (.iconst 0, 1) := by decide +kernel
theorem dX6_readsPin_87 : decode cX6_readsPin 87 = .ok (.bipush 9, 2) := by decide +kernel
theorem dX6_readsPin_89 : decode cX6_readsPin 89 = .ok (.invokevirtual 85, 3) := by decide +kernel
theorem dX6_readsPin_92 : decode cX6_readsPin 92 = .ok (.istore 5, 2) := by decide +kernel
theorem dX6_readsPin_94 : decode cX6_readsPin 94 = .ok (.aload_n 0, 1) := by decide +kernel
theorem dX6_readsPin_95 : decode cX6_readsPin 95 = .ok (.dup, 1) := by decide +kernel
theorem dX6_readsPin_96 : decode cX6_readsPin 96 = .ok (.getfield 89, 3) := by decide +kernel
theorem dX6_readsPin_99 : decode cX6_readsPin 99 = .ok (.iload 5, 2) := by decide +kernel
theorem dX6_readsPin_101 : decode cX6_readsPin 101 = .ok (.ifCond .ge 7, 3) := by decide +kernel
theorem dX6_readsPin_104 : decode cX6_readsPin 104 = .ok (.iconst 0, 1) := by decide +kernel
theorem dX6_readsPin_105 : decode cX6_readsPin 105 = .ok (.goto 5, 3) := by decide +kernel
theorem dX6_readsPin_108 : decode cX6_readsPin 108 = .ok (.iload 5, 2) := by decide +kernel
theorem dX6_readsPin_110 : decode cX6_readsPin 110 = .ok (.iadd, 1) := by decide +kernel
theorem dX6_readsPin_111 : decode cX6_readsPin 111 = .ok (.putfield 89, 3) := by decide +kernel
theorem dX6_readsPin_114 : decode cX6_readsPin 114 = .ok (.aload_n 0, 1) := by decide +kernel
theorem dX6_readsPin_115 : decode cX6_readsPin 115 = .ok (.getfield 19, 3) := by decide +kernel
theorem dX6_readsPin_118 : decode cX6_readsPin 118 = .ok (.aload_n 0, 1) := by decide +kernel
theorem dX6_readsPin_119 : decode cX6_readsPin 119 = .ok (.getfield 82, 3) := by decide +kernel
theorem dX6_readsPin_122 : decode cX6_readsPin 122 = .ok (.iload_n 3, 1) := by decide +kernel
theorem dX6_readsPin_123 : decode cX6_readsPin 123 = .ok (.bipush 112, 2) := by decide +kernel
theorem dX6_readsPin_125 : decode cX6_readsPin 125 = .ok (.if_icmp .ne 7, 3) := by decide +kernel
theorem dX6_readsPin_128 : decode cX6_readsPin 128 = .ok (.iconst 0, 1) := by decide +kernel
theorem dX6_readsPin_129 : decode cX6_readsPin 129 = .ok (.goto 14, 3) := by decide +kernel
theorem dX6_readsPin_132 : decode cX6_readsPin 132 = .ok (.iload_n 3, 1) := by decide +kernel
theorem dX6_readsPin_133 : decode cX6_readsPin 133 = .ok (.bipush 99, 2) := by decide +kernel
theorem dX6_readsPin_135 : decode cX6_readsPin 135 = .ok (.if_icmp .ne 7, 3) := by decide +kernel
theorem dX6_readsPin_138 : decode cX6_readsPin 138 = .ok (.iconst 1, 1) := by decide +kernel
theorem dX6_readsPin_139 : decode cX6_readsPin 139 = .ok (.goto 4, 3) := by decide +kernel
theorem dX6_readsPin_142 : decode cX6_readsPin 142 = .ok (.iconst 2, 1) := by decide +kernel
theorem dX6_readsPin_143 : decode cX6_readsPin 143 = .ok (.iastore, 1) := by decide +kernel
theorem dX6_readsPin_144 : decode cX6_readsPin 144 = .ok (.aload_n 0, 1) := by decide +kernel
theorem dX6_readsPin_145 : decode cX6_readsPin 145 = .ok (.getfield 22, 3) := by decide +kernel
theorem dX6_readsPin_148 : decode cX6_readsPin 148 = .ok (.aload_n 0, 1) := by decide +kernel
theorem dX6_readsPin_149 : decode cX6_readsPin 149 = .ok (.getfield 82, 3) := by decide +kernel
theorem dX6_readsPin_152 : decode cX6_readsPin 152 = .ok (.iload 4, 2) := by decide +kernel
theorem dX6_readsPin_154 : decode cX6_readsPin 154 = .ok (.iastore, 1) := by decide +kernel
theorem dX6_readsPin_155 : decode cX6_readsPin 155 = .ok (.aload_n 0, 1) := by decide +kernel
theorem dX6_readsPin_156 : decode cX6_readsPin 156 = .ok (.getfield 25, 3) := by decide +kernel
theorem dX6_readsPin_159 : decode cX6_readsPin 159 = .ok (.aload_n 0, 1) := by decide +kernel
theorem dX6_readsPin_160 : decode cX6_readsPin 160 = .ok (.getfield 82, 3) := by decide +kernel
theorem dX6_readsPin_163 : decode cX6_readsPin 163 = .ok (.aload_n 0, 1) := by decide +kernel
theorem dX6_readsPin_164 : decode cX6_readsPin 164 = .ok (.getfield 89, 3) := by decide +kernel
theorem dX6_readsPin_167 : decode cX6_readsPin 167 = .ok (.iastore, 1) := by decide +kernel
theorem dX6_readsPin_168 : decode cX6_readsPin 168 = .ok (.aload_n 0, 1) := by decide +kernel
theorem dX6_readsPin_169 : decode cX6_readsPin 169 = .ok (.dup, 1) := by decide +kernel
theorem dX6_readsPin_170 : decode cX6_readsPin 170 = .ok (.getfield 82, 3) := by decide +kernel
theorem dX6_readsPin_173 : decode cX6_readsPin 173 = .ok (.iconst 1, 1) := by decide +kernel
theorem dX6_readsPin_174 : decode cX6_readsPin 174 = .ok (.iadd, 1) := by decide +kernel
theorem dX6_readsPin_175 : decode cX6_readsPin 175 = .ok (.putfield 82, 3) := by decide +kernel
theorem dX6_readsPin_178 : decode cX6_readsPin 178 = .ok (.iload 5, 2) := by decide +kernel
theorem dX6_readsPin_180 : decode cX6_readsPin 180 = .ok (.ifCond .lt 7, 3) := by decide +kernel
theorem dX6_readsPin_183 : decode cX6_readsPin 183 = .ok (.iconst 1, 1) := by decide +kernel
theorem dX6_readsPin_184 : decode cX6_readsPin 184 = .ok (.goto 4, 3) := by decide +kernel
theorem dX6_readsPin_187 : decode cX6_readsPin 187 = .ok (.iconst 0, 1) := by decide +kernel
theorem dX6_readsPin_188 : decode cX6_readsPin 188 = .ok (.ireturn, 1) := by decide +kernel
set_option maxRecDepth 20000 in
theorem ggX6_readsWell_X6_codeAt : GoodIn wsX6_readsWell wsX6_codeAt := goodIn_r _ [10, 1, 11, 26, 27, 28, 29, 30, 31, 32, 33, 34, 35, 36, 37, 38, 39, 40, 41, 42, 43, 44, 45, 46, 47, 48, 49, 50, 51, 52, 53, 54, 55] (by decide +kernel) (by decide +kernel)
set_option maxRecDepth 20000 in
theorem gX6_readsWell_X6_codeAt : GoodIn wsX6_readsWell (wsV RX6 78 RX6 yX6_codeAt wsX6_codeAt) := goodIn_app (goodIn_of _ (by decide +kernel)) ggX6_readsWell_X6_codeAt
set_option maxRecDepth 20000 in
theorem ggX6_readsWell_X6_figure : GoodIn wsX6_readsWell wsX6_figure := goodIn_r _ [15, 1, 6, 7, 8, 9, 10, 11, 16, 17, 18, 26, 27, 28, 29, 30, 31, 32, 33, 34, 35, 36, 37, 38, 39, 40, 41, 42, 43, 44, 45, 46, 47, 48, 49, 50, 51, 52, 53, 54, 55] (by decide +kernel) (by decide +kernel)
set_option maxRecDepth 20000 in
theorem gX6_readsWell_X6_figure : GoodIn wsX6_readsWell (wsV RX6 85 RX6 yX6_figure wsX6_figure) := goodIn_app (goodIn_of _ (by decide +kernel)) ggX6_readsWell_X6_figure
set_option maxRecDepth 20000 in
theorem ggX6_readsWell_X6_readsPin : GoodIn wsX6_readsWell wsX6_readsPin := goodIn_r _ [22, 2, 1, 3, 23, 24, 25, 6, 7, 8, 9, 10, 11, 12, 13, 14, 15, 16, 17, 18, 26, 27, 28, 29, 30, 31, 32, 33, 34, 35, 36, 37, 38, 39, 40, 41, 42, 43, 44, 45, 46, 47, 48, 49, 50, 51, 52, 53, 54, 55] (by decide +kernel) (by decide +kernel)
set_option maxRecDepth 20000 in
theorem gX6_readsWell_X6_readsPin : GoodIn wsX6_readsWell (wsV RX6 98 RX6 yX6_readsPin wsX6_readsPin) := goodIn_app (goodIn_of _ (by decide +kernel)) ggX6_readsWell_X6_readsPin
theorem dX6_readsWell_0 : decode cX6_readsWell 0 = .ok (.aload_n 0, 1) := by decide +kernel
theorem dX6_readsWell_1 : decode cX6_readsWell 1 = .ok (.iconst 0, 1) := by decide +kernel
theorem dX6_readsWell_2 : decode cX6_readsWell 2 = .ok (.putfield 75, 3) := by decide +kernel
theorem dX6_readsWell_5 : decode cX6_readsWell 5 = .ok (.aload_n 0, 1) := by decide +kernel
theorem dX6_readsWell_6 : decode cX6_readsWell 6 = .ok (.iconst 0, 1) := by decide +kernel
theorem dX6_readsWell_7 : decode cX6_readsWell 7 = .ok (.putfield 82, 3) := by decide +kernel
theorem dX6_readsWell_10 : decode cX6_readsWell 10 = .ok (.aload_n 0, 1) := by decide +kernel
theorem dX6_readsWell_11 : decode cX6_readsWell 11 = .ok (.iconst 0, 1) := by decide +kernel
theorem dX6_readsWell_12 : decode cX6_readsWell 12 = .ok (.putfield 89, 3) := by decide +kernel
theorem dX6_readsWell_15 : decode cX6_readsWell 15 = .ok (.aload_n 0, 1) := by decide +kernel
theorem dX6_readsWell_16 : decode cX6_readsWell 16 = .ok (.iload_n 1, 1) := by decide +kernel
theorem dX6_readsWell_17 : decode cX6_readsWell 17 = .ok (.iload_n 2, 1) := by decide +kernel
theorem dX6_readsWell_18 : decode cX6_readsWell 18 = .ok (.invokevirtual 78, 3) := by decide +kernel
theorem dX6_readsWell_21 : decode cX6_readsWell 21 = .ok (.bipush 119, 2) := by decide +kernel
theorem dX6_readsWell_23 : decode cX6_readsWell 23 = .ok (.if_icmp .eq 5, 3) := by decide +kernel
theorem dX6_readsWell_26 : decode cX6_readsWell 26 = .ok (.iconst 0, 1) := by decide +kernel
theorem dX6_readsWell_27 : decode cX6_readsWell 27 = .ok (.ireturn, 1) := by decide +kernel
theorem dX6_readsWell_28 : decode cX6_readsWell 28 = .ok (.aload_n 0, 1) := by decide +kernel
theorem dX6_readsWell_29 : decode cX6_readsWell 29 = .ok (.dup, 1) := by decide +kernel
theorem dX6_readsWell_30 : decode cX6_readsWell 30 = .ok (.getfield 75, 3) := by decide +kernel
theorem dX6_readsWell_33 : decode cX6_readsWell 33 = .ok (.iconst 1, 1) := by decide +kernel
theorem dX6_readsWell_34 : decode cX6_readsWell 34 = .ok (.iadd, 1) := by decide +kernel
theorem dX6_readsWell_35 : decode cX6_readsWell 35 = .ok (.putfield 75, 3) := by decide +kernel
theorem dX6_readsWell_38 : decode cX6_readsWell 38 = .ok (.aload_n 0, 1) := by decide +kernel
theorem dX6_readsWell_39 : decode cX6_readsWell 39 = .ok (.aload_n 0, 1) := by decide +kernel
theorem dX6_readsWell_40 : decode cX6_readsWell 40 = .ok (.iload_n 1, 1) := by decide +kernel
theorem dX6_readsWell_41 : decode cX6_readsWell 41 = .ok (.iload_n 2, 1) := by decide +kernel
theorem dX6_readsWell_42 : decode cX6_readsWell 42 = .ok (.iconst 0, 1) := by decide +kernel
theorem dX6_readsWell_43 : decode cX6_readsWell 43 = .ok (.iconst 1, 1) := by decide +kernel
theorem dX6_readsWell_44 : decode cX6_readsWell 44 = .ok (.iconst 5, 1) := by decide +kernel
theorem dX6_readsWell_45 : decode cX6_readsWell 45 = .ok (.invokevirtual 85, 3) := by decide +kernel
theorem dX6_readsWell_48 : decode cX6_readsWell 48 = .ok (.putfield 92, 3) := by decide +kernel
theorem dX6_readsWell_51 : decode cX6_readsWell 51 = .ok (.aload_n 0, 1) := by decide +kernel
theorem dX6_readsWell_52 : decode cX6_readsWell 52 = .ok (.aload_n 0, 1) := by decide +kernel
theorem dX6_readsWell_53 : decode cX6_readsWell 53 = .ok (.iload_n 1, 1) := by decide +kernel
theorem dX6_readsWell_54 : decode cX6_readsWell 54 = .ok (.iload_n 2, 1) := by decide +kernel
theorem dX6_readsWell_55 : decode cX6_readsWell 55 = .ok (.aload_n 0, 1) := by decide +kernel
theorem dX6_readsWell_56 : decode cX6_readsWell 56 = .ok (.getfield 92, 3) := by decide +kernel
theorem dX6_readsWell_59 : decode cX6_readsWell 59 = .ok (.iconst 0, 1) := by decide +kernel
theorem dX6_readsWell_60 : decode cX6_readsWell 60 = .ok (.iconst 5, 1) := by decide +kernel
theorem dX6_readsWell_61 : decode cX6_readsWell 61 = .ok (.invokevirtual 85, 3) := by decide +kernel
theorem dX6_readsWell_64 : decode cX6_readsWell 64 = .ok (.putfield 95, 3) := by decide +kernel
theorem dX6_readsWell_67 : decode cX6_readsWell 67 = .ok (.aload_n 0, 1) := by decide +kernel
theorem dX6_readsWell_68 : decode cX6_readsWell 68 = .ok (.getfield 95, 3) := by decide +kernel
theorem dX6_readsWell_71 : decode cX6_readsWell 71 = .ok (.ifCond .lt 7, 3) := by decide +kernel
theorem dX6_readsWell_74 : decode cX6_readsWell 74 = .ok (.iconst 1, 1) := by decide +kernel
theorem dX6_readsWell_75 : decode cX6_readsWell 75 = .ok (.goto 4, 3) := by decide +kernel
theorem dX6_readsWell_78 : decode cX6_readsWell 78 = .ok (.iconst 0, 1) := by decide +kernel
theorem dX6_readsWell_79 : decode cX6_readsWell 79 = .ok (.istore_n 3, 1) := by decide +kernel
theorem dX6_readsWell_80 : decode cX6_readsWell 80 = .ok (.iload_n 3, 1) := by decide +kernel
theorem dX6_readsWell_81 : decode cX6_readsWell 81 = .ok (.ifCond .eq 29, 3) := by decide +kernel
theorem dX6_readsWell_84 : decode cX6_readsWell 84 = .ok (.aload_n 0, 1) := by decide +kernel
theorem dX6_readsWell_85 : decode cX6_readsWell 85 = .ok (.getfield 82, 3) := by decide +kernel
theorem dX6_readsWell_88 : decode cX6_readsWell 88 = .ok (.iconst 1, 1) := by decide +kernel
theorem dX6_readsWell_89 : decode cX6_readsWell 89 = .ok (.if_icmp .lt 11, 3) := by decide +kernel
theorem dX6_readsWell_92 : decode cX6_readsWell 92 = .ok (.aload_n 0, 1) := by decide +kernel
theorem dX6_readsWell_93 : decode cX6_readsWell 93 = .ok (.getfield 75, 3) := by decide +kernel
theorem dX6_readsWell_96 : decode cX6_readsWell 96 = .ok (.iload_n 2, 1) := by decide +kernel
theorem dX6_readsWell_97 : decode cX6_readsWell 97 = .ok (.if_icmp .ge 13, 3) := by decide +kernel
theorem dX6_readsWell_100 : decode cX6_readsWell 100 = .ok (.aload_n 0, 1) := by decide +kernel
theorem dX6_readsWell_101 : decode cX6_readsWell 101 = .ok (.iload_n 1, 1) := by decide +kernel
theorem dX6_readsWell_102 : decode cX6_readsWell 102 = .ok (.iload_n 2, 1) := by decide +kernel
theorem dX6_readsWell_103 : decode cX6_readsWell 103 = .ok (.invokevirtual 98, 3) := by decide +kernel
theorem dX6_readsWell_106 : decode cX6_readsWell 106 = .ok (.istore_n 3, 1) := by decide +kernel
theorem dX6_readsWell_107 : decode cX6_readsWell 107 = .ok (.goto (-27), 3) := by decide +kernel
theorem dX6_readsWell_110 : decode cX6_readsWell 110 = .ok (.iload_n 3, 1) := by decide +kernel
theorem dX6_readsWell_111 : decode cX6_readsWell 111 = .ok (.ireturn, 1) := by decide +kernel
set_option maxRecDepth 20000 in
theorem ggX6_cellsBarred_X6_failed : GoodIn wsX6_cellsBarred wsX6_failed := goodIn_r _ [7, 8, 12, 13, 14, 15, 16, 17, 18, 19, 20, 21, 22, 23, 24, 25, 26, 27, 28, 29, 30, 31, 32, 33, 34, 35, 36, 37, 38, 39, 40, 41] (by decide +kernel) (by decide +kernel)
set_option maxRecDepth 20000 in
theorem gX6_cellsBarred_X6_failed : GoodIn wsX6_cellsBarred (wsV RX6 102 RX6 yX6_failed wsX6_failed) := goodIn_app (goodIn_of _ (by decide +kernel)) ggX6_cellsBarred_X6_failed
set_option maxRecDepth 20000 in
theorem ggX6_cellsBarred_X6_isBeyond : GoodIn wsX6_cellsBarred wsX6_isBeyond := goodIn_r _ [11] (by decide +kernel) (by decide +kernel)
set_option maxRecDepth 20000 in
theorem gX6_cellsBarred_X6_isBeyond : GoodIn wsX6_cellsBarred (va_wsS RX6 106 yX6_isBeyond wsX6_isBeyond) := goodIn_app (goodIn_of _ (by decide +kernel)) ggX6_cellsBarred_X6_isBeyond
theorem dX6_cellsBarred_0 : decode cX6_cellsBarred 0 = .ok (.aload_n 0, 1) := by decide +kernel
theorem dX6_cellsBarred_1 : decode cX6_cellsBarred 1 = .ok (.getfield 46, 3) := by decide +kernel
theorem dX6_cellsBarred_4 : decode cX6_cellsBarred 4 = .ok (.iload_n 1, 1) := by decide +kernel
theorem dX6_cellsBarred_5 : decode cX6_cellsBarred 5 = .ok (.iaload, 1) := by decide +kernel
theorem dX6_cellsBarred_6 : decode cX6_cellsBarred 6 = .ok (.ifCond .lt 19, 3) := by decide +kernel
theorem dX6_cellsBarred_9 : decode cX6_cellsBarred 9 = .ok (.aload_n 0, 1) := by decide +kernel
theorem dX6_cellsBarred_10 : decode cX6_cellsBarred 10 = .ok (.getfield 49, 3) := by decide +kernel
theorem dX6_cellsBarred_13 : decode cX6_cellsBarred 13 = .ok (.iload_n 1, 1) := by decide +kernel
theorem dX6_cellsBarred_14 : decode cX6_cellsBarred 14 = .ok (.iaload, 1) := by decide +kernel
theorem dX6_cellsBarred_15 : decode cX6_cellsBarred 15 = .ok (.iload_n 2, 1) := by decide +kernel
theorem dX6_cellsBarred_16 : decode cX6_cellsBarred 16 = .ok (.if_icmp .eq 9, 3) := by decide +kernel
theorem dX6_cellsBarred_19 : decode cX6_cellsBarred 19 = .ok (.aload_n 0, 1) := by decide +kernel
theorem dX6_cellsBarred_20 : decode cX6_cellsBarred 20 = .ok (.iconst 2, 1) := by decide +kernel
theorem dX6_cellsBarred_21 : decode cX6_cellsBarred 21 = .ok (.invokevirtual 102, 3) := by decide +kernel
theorem dX6_cellsBarred_24 : decode cX6_cellsBarred 24 = .ok (.ireturn, 1) := by decide +kernel
theorem dX6_cellsBarred_25 : decode cX6_cellsBarred 25 = .ok (.aload_n 0, 1) := by decide +kernel
theorem dX6_cellsBarred_26 : decode cX6_cellsBarred 26 = .ok (.getfield 46, 3) := by decide +kernel
theorem dX6_cellsBarred_29 : decode cX6_cellsBarred 29 = .ok (.iload_n 1, 1) := by decide +kernel
theorem dX6_cellsBarred_30 : decode cX6_cellsBarred 30 = .ok (.iaload, 1) := by decide +kernel
theorem dX6_cellsBarred_31 : decode cX6_cellsBarred 31 = .ok (.ifCond .ge 9, 3) := by decide +kernel
theorem dX6_cellsBarred_34 : decode cX6_cellsBarred 34 = .ok (.aload_n 0, 1) := by decide +kernel
theorem dX6_cellsBarred_35 : decode cX6_cellsBarred 35 = .ok (.iconst 1, 1) := by decide +kernel
theorem dX6_cellsBarred_36 : decode cX6_cellsBarred 36 = .ok (.invokevirtual 102, 3) := by decide +kernel
theorem dX6_cellsBarred_39 : decode cX6_cellsBarred 39 = .ok (.ireturn, 1) := by decide +kernel
theorem dX6_cellsBarred_40 : decode cX6_cellsBarred 40 = .ok (.lload 4, 2) := by decide +kernel
theorem dX6_cellsBarred_42 : decode cX6_cellsBarred 42 = .ok (.lconst 0, 1) := by decide +kernel
theorem dX6_cellsBarred_43 : decode cX6_cellsBarred 43 = .ok (.lcmp, 1) := by decide +kernel
theorem dX6_cellsBarred_44 : decode cX6_cellsBarred 44 = .ok (.ifCond .ge 9, 3) := by decide +kernel
theorem dX6_cellsBarred_47 : decode cX6_cellsBarred 47 = .ok (.aload_n 0, 1) := by decide +kernel
theorem dX6_cellsBarred_48 : decode cX6_cellsBarred 48 = .ok (.iconst 4, 1) := by decide +kernel
theorem dX6_cellsBarred_49 : decode cX6_cellsBarred 49 = .ok (.invokevirtual 102, 3) := by decide +kernel
theorem dX6_cellsBarred_52 : decode cX6_cellsBarred 52 = .ok (.ireturn, 1) := by decide +kernel
theorem dX6_cellsBarred_53 : decode cX6_cellsBarred 53 = .ok (.iload_n 3, 1) := by decide +kernel
theorem dX6_cellsBarred_54 : decode cX6_cellsBarred 54 = .ok (.lload 4, 2) := by decide +kernel
theorem dX6_cellsBarred_56 : decode cX6_cellsBarred 56 = .ok (.aload_n 0, 1) := by decide +kernel
theorem dX6_cellsBarred_57 : decode cX6_cellsBarred 57 = .ok (.getfield 46, 3) := by decide +kernel
theorem dX6_cellsBarred_60 : decode cX6_cellsBarred 60 = .ok (.iload_n 1, 1) := by decide +kernel
theorem dX6_cellsBarred_61 : decode cX6_cellsBarred 61 = .ok (.iaload, 1) := by decide +kernel
theorem dX6_cellsBarred_62 : decode cX6_cellsBarred 62 = .ok (.invokestatic 106, 3) := by decide +kernel
theorem dX6_cellsBarred_65 : decode cX6_cellsBarred 65 = .ok (.ifCond .eq 11, 3) := by decide +kernel
theorem dX6_cellsBarred_68 : decode cX6_cellsBarred 68 = .ok (.aload_n 0, 1) := by decide +kernel
theorem dX6_cellsBarred_69 : decode cX6_cellsBarred 69 = .ok (.iconst 3, 1) := by decide +kernel
theorem dX6_cellsBarred_70 : decode cX6_cellsBarred 70 = .ok (.invokevirtual 102, 3) := by decide +kernel
theorem dX6_cellsBarred_73 : decode cX6_cellsBarred 73 = .ok (.goto 4, 3) := by decide +kernel
theorem dX6_cellsBarred_76 : decode cX6_cellsBarred 76 = .ok (.iconst 0, 1) := by decide +kernel
theorem dX6_cellsBarred_77 : decode cX6_cellsBarred 77 = .ok (.ireturn, 1) := by decide +kernel
set_option maxRecDepth 20000 in
theorem ggX6_well_X6_noSheet : GoodIn wsX6_well wsX6_noSheet := goodIn_r _ [21, 22, 23, 24, 20, 25] (by decide +kernel) (by decide +kernel)
set_option maxRecDepth 20000 in
theorem gX6_well_X6_noSheet : GoodIn wsX6_well (va_wsS RX6 110 yX6_noSheet wsX6_noSheet) := goodIn_app (goodIn_of _ (by decide +kernel)) ggX6_well_X6_noSheet
set_option maxRecDepth 20000 in
theorem ggX6_well_X6_refused : GoodIn wsX6_well wsX6_refused := goodIn_r _ [29, 30, 61, 62, 63, 64, 65, 66, 67, 68, 69, 70, 71, 72, 73, 74, 75, 76, 77, 78, 79, 80, 81, 82, 83, 84, 85, 86, 87, 88, 89, 90] (by decide +kernel) (by decide +kernel)
set_option maxRecDepth 20000 in
theorem gX6_well_X6_refused : GoodIn wsX6_well (wsV RX6 114 RX6 yX6_refused wsX6_refused) := goodIn_app (goodIn_of _ (by decide +kernel)) ggX6_well_X6_refused
set_option maxRecDepth 20000 in
theorem ggX6_well_X6_in : GoodIn wsX6_well wsX6_in := goodIn_r _ [25] (by decide +kernel) (by decide +kernel)
set_option maxRecDepth 20000 in
theorem gX6_well_X6_in : GoodIn wsX6_well (va_wsS RX6 71 yX6_in wsX6_in) := goodIn_app (goodIn_of _ (by decide +kernel)) ggX6_well_X6_in
set_option maxRecDepth 20000 in
theorem ggX6_well_X6_cellsBarred : GoodIn wsX6_well wsX6_cellsBarred := goodIn_r _ [34, 35, 36, 37, 38, 39, 20, 40, 30, 41, 42, 43, 61, 62, 63, 64, 65, 66, 67, 68, 69, 70, 71, 72, 73, 74, 75, 76, 77, 78, 79, 80, 81, 82, 83, 84, 85, 86, 87, 88, 89, 90] (by decide +kernel) (by decide +kernel)
set_option maxRecDepth 20000 in
theorem gX6_well_X6_cellsBarred : GoodIn wsX6_well (wsV RX6 119 RX6 yX6_cellsBarred wsX6_cellsBarred) := goodIn_app (goodIn_of _ (by decide +kernel)) ggX6_well_X6_cellsBarred
set_option maxRecDepth 20000 in
theorem ggX6_well_X6_readsWell : GoodIn wsX6_well wsX6_readsWell := goodIn_r _ [47, 2, 3, 9, 5, 7, 48, 49, 50, 20, 51, 52, 53, 54, 55, 56, 23, 24, 25, 57, 58, 59, 60, 12, 14, 16, 61, 62, 63, 64, 65, 66, 67, 68, 69, 70, 71, 72, 73, 74, 75, 76, 77, 78, 79, 80, 81, 82, 83, 84, 85, 86, 87, 88, 89, 90] (by decide +kernel) (by decide +kernel)
set_option maxRecDepth 20000 in
theorem gX6_well_X6_readsWell : GoodIn wsX6_well (wsV RX6 123 RX6 yX6_readsWell wsX6_readsWell) := goodIn_app (goodIn_of _ (by decide +kernel)) ggX6_well_X6_readsWell
theorem dX6_well_0 : decode cX6_well 0 = .ok (.iload_n 1, 1) := by decide +kernel
theorem dX6_well_1 : decode cX6_well 1 = .ok (.invokestatic 110, 3) := by decide +kernel
theorem dX6_well_4 : decode cX6_well 4 = .ok (.ifCond .eq 9, 3) := by decide +kernel
theorem dX6_well_7 : decode cX6_well 7 = .ok (.aload_n 0, 1) := by decide +kernel
theorem dX6_well_8 : decode cX6_well 8 = .ok (.iconst (-1), 1) := by decide +kernel
theorem dX6_well_9 : decode cX6_well 9 = .ok (.invokevirtual 114, 3) := by decide +kernel
theorem dX6_well_12 : decode cX6_well 12 = .ok (.ireturn, 1) := by decide +kernel
theorem dX6_well_13 : decode cX6_well 13 = .ok (.iload_n 2, 1) := by decide +kernel
theorem dX6_well_14 : decode cX6_well 14 = .ok (.i2l, 1) := by decide +kernel
theorem dX6_well_15 : decode cX6_well 15 = .ok (.lconst 0, 1) := by decide +kernel
theorem dX6_well_16 : decode cX6_well 16 = .ok (.ldc2_w 117, 3) := by decide +kernel
theorem dX6_well_19 : decode cX6_well 19 = .ok (.invokestatic 71, 3) := by decide +kernel
theorem dX6_well_22 : decode cX6_well 22 = .ok (.ifCond .ne 10, 3) := by decide +kernel
theorem dX6_well_25 : decode cX6_well 25 = .ok (.aload_n 0, 1) := by decide +kernel
theorem dX6_well_26 : decode cX6_well 26 = .ok (.bipush (-2), 2) := by decide +kernel
theorem dX6_well_28 : decode cX6_well 28 = .ok (.invokevirtual 114, 3) := by decide +kernel
theorem dX6_well_31 : decode cX6_well 31 = .ok (.ireturn, 1) := by decide +kernel
theorem dX6_well_32 : decode cX6_well 32 = .ok (.aload_n 0, 1) := by decide +kernel
theorem dX6_well_33 : decode cX6_well 33 = .ok (.iload_n 1, 1) := by decide +kernel
theorem dX6_well_34 : decode cX6_well 34 = .ok (.iload_n 2, 1) := by decide +kernel
theorem dX6_well_35 : decode cX6_well 35 = .ok (.iload_n 3, 1) := by decide +kernel
theorem dX6_well_36 : decode cX6_well 36 = .ok (.iload 4, 2) := by decide +kernel
theorem dX6_well_38 : decode cX6_well 38 = .ok (.i2l, 1) := by decide +kernel
theorem dX6_well_39 : decode cX6_well 39 = .ok (.invokevirtual 119, 3) := by decide +kernel
theorem dX6_well_42 : decode cX6_well 42 = .ok (.istore 5, 2) := by decide +kernel
theorem dX6_well_44 : decode cX6_well 44 = .ok (.iload 5, 2) := by decide +kernel
theorem dX6_well_46 : decode cX6_well 46 = .ok (.ifCond .ge 6, 3) := by decide +kernel
theorem dX6_well_49 : decode cX6_well 49 = .ok (.iload 5, 2) := by decide +kernel
theorem dX6_well_51 : decode cX6_well 51 = .ok (.ireturn, 1) := by decide +kernel
theorem dX6_well_52 : decode cX6_well 52 = .ok (.aload_n 0, 1) := by decide +kernel
theorem dX6_well_53 : decode cX6_well 53 = .ok (.bipush 60, 2) := by decide +kernel
theorem dX6_well_55 : decode cX6_well 55 = .ok (.iload_n 1, 1) := by decide +kernel
theorem dX6_well_56 : decode cX6_well 56 = .ok (.imul, 1) := by decide +kernel
theorem dX6_well_57 : decode cX6_well 57 = .ok (.iload_n 3, 1) := by decide +kernel
theorem dX6_well_58 : decode cX6_well 58 = .ok (.iadd, 1) := by decide +kernel
theorem dX6_well_59 : decode cX6_well 59 = .ok (.iload 4, 2) := by decide +kernel
theorem dX6_well_61 : decode cX6_well 61 = .ok (.invokevirtual 123, 3) := by decide +kernel
theorem dX6_well_64 : decode cX6_well 64 = .ok (.ifCond .ne 15, 3) := by decide +kernel
theorem dX6_well_67 : decode cX6_well 67 = .ok (.aload_n 0, 1) := by decide +kernel
theorem dX6_well_68 : decode cX6_well 68 = .ok (.bipush (-100), 2) := by decide +kernel
theorem dX6_well_70 : decode cX6_well 70 = .ok (.aload_n 0, 1) := by decide +kernel
theorem dX6_well_71 : decode cX6_well 71 = .ok (.getfield 75, 3) := by decide +kernel
theorem dX6_well_74 : decode cX6_well 74 = .ok (.isub, 1) := by decide +kernel
theorem dX6_well_75 : decode cX6_well 75 = .ok (.invokevirtual 114, 3) := by decide +kernel
theorem dX6_well_78 : decode cX6_well 78 = .ok (.ireturn, 1) := by decide +kernel
theorem dX6_well_79 : decode cX6_well 79 = .ok (.aload_n 0, 1) := by decide +kernel
theorem dX6_well_80 : decode cX6_well 80 = .ok (.aload_n 0, 1) := by decide +kernel
theorem dX6_well_81 : decode cX6_well 81 = .ok (.getfield 82, 3) := by decide +kernel
theorem dX6_well_84 : decode cX6_well 84 = .ok (.putfield 68, 3) := by decide +kernel
theorem dX6_well_87 : decode cX6_well 87 = .ok (.aload_n 0, 1) := by decide +kernel
theorem dX6_well_88 : decode cX6_well 88 = .ok (.aload_n 0, 1) := by decide +kernel
theorem dX6_well_89 : decode cX6_well 89 = .ok (.getfield 92, 3) := by decide +kernel
theorem dX6_well_92 : decode cX6_well 92 = .ok (.putfield 126, 3) := by decide +kernel
theorem dX6_well_95 : decode cX6_well 95 = .ok (.aload_n 0, 1) := by decide +kernel
theorem dX6_well_96 : decode cX6_well 96 = .ok (.aload_n 0, 1) := by decide +kernel
theorem dX6_well_97 : decode cX6_well 97 = .ok (.getfield 95, 3) := by decide +kernel
theorem dX6_well_100 : decode cX6_well 100 = .ok (.putfield 129, 3) := by decide +kernel
theorem dX6_well_103 : decode cX6_well 103 = .ok (.aload_n 0, 1) := by decide +kernel
theorem dX6_well_104 : decode cX6_well 104 = .ok (.aload_n 0, 1) := by decide +kernel
theorem dX6_well_105 : decode cX6_well 105 = .ok (.getfield 89, 3) := by decide +kernel
theorem dX6_well_108 : decode cX6_well 108 = .ok (.putfield 132, 3) := by decide +kernel
theorem dX6_well_111 : decode cX6_well 111 = .ok (.iconst 0, 1) := by decide +kernel
theorem dX6_well_112 : decode cX6_well 112 = .ok (.istore 6, 2) := by decide +kernel
theorem dX6_well_114 : decode cX6_well 114 = .ok (.iload 6, 2) := by decide +kernel
theorem dX6_well_116 : decode cX6_well 116 = .ok (.aload_n 0, 1) := by decide +kernel
theorem dX6_well_117 : decode cX6_well 117 = .ok (.getfield 68, 3) := by decide +kernel
theorem dX6_well_120 : decode cX6_well 120 = .ok (.if_icmp .ge 51, 3) := by decide +kernel
theorem dX6_well_123 : decode cX6_well 123 = .ok (.aload_n 0, 1) := by decide +kernel
theorem dX6_well_124 : decode cX6_well 124 = .ok (.getfield 7, 3) := by decide +kernel
theorem dX6_well_127 : decode cX6_well 127 = .ok (.iload 6, 2) := by decide +kernel
theorem dX6_well_129 : decode cX6_well 129 = .ok (.aload_n 0, 1) := by decide +kernel
theorem dX6_well_130 : decode cX6_well 130 = .ok (.getfield 19, 3) := by decide +kernel
theorem dX6_well_133 : decode cX6_well 133 = .ok (.iload 6, 2) := by decide +kernel
theorem dX6_well_135 : decode cX6_well 135 = .ok (.iaload, 1) := by decide +kernel
theorem dX6_well_136 : decode cX6_well 136 = .ok (.iastore, 1) := by decide +kernel
theorem dX6_well_137 : decode cX6_well 137 = .ok (.aload_n 0, 1) := by decide +kernel
theorem dX6_well_138 : decode cX6_well 138 = .ok (.getfield 13, 3) := by decide +kernel
theorem dX6_well_141 : decode cX6_well 141 = .ok (.iload 6, 2) := by decide +kernel
theorem dX6_well_143 : decode cX6_well 143 = .ok (.aload_n 0, 1) := by decide +kernel
theorem dX6_well_144 : decode cX6_well 144 = .ok (.getfield 22, 3) := by decide +kernel
theorem dX6_well_147 : decode cX6_well 147 = .ok (.iload 6, 2) := by decide +kernel
theorem dX6_well_149 : decode cX6_well 149 = .ok (.iaload, 1) := by decide +kernel
theorem dX6_well_150 : decode cX6_well 150 = .ok (.iastore, 1) := by decide +kernel
theorem dX6_well_151 : decode cX6_well 151 = .ok (.aload_n 0, 1) := by decide +kernel
theorem dX6_well_152 : decode cX6_well 152 = .ok (.getfield 16, 3) := by decide +kernel
theorem dX6_well_155 : decode cX6_well 155 = .ok (.iload 6, 2) := by decide +kernel
theorem dX6_well_157 : decode cX6_well 157 = .ok (.aload_n 0, 1) := by decide +kernel
theorem dX6_well_158 : decode cX6_well 158 = .ok (.getfield 25, 3) := by decide +kernel
theorem dX6_well_161 : decode cX6_well 161 = .ok (.iload 6, 2) := by decide +kernel
theorem dX6_well_163 : decode cX6_well 163 = .ok (.iaload, 1) := by decide +kernel
theorem dX6_well_164 : decode cX6_well 164 = .ok (.iastore, 1) := by decide +kernel
theorem dX6_well_165 : decode cX6_well 165 = .ok (.iinc 6 1, 3) := by decide +kernel
theorem dX6_well_168 : decode cX6_well 168 = .ok (.goto (-54), 3) := by decide +kernel
theorem dX6_well_171 : decode cX6_well 171 = .ok (.aload_n 0, 1) := by decide +kernel
theorem dX6_well_172 : decode cX6_well 172 = .ok (.iconst 0, 1) := by decide +kernel
theorem dX6_well_173 : decode cX6_well 173 = .ok (.putfield 135, 3) := by decide +kernel
theorem dX6_well_176 : decode cX6_well 176 = .ok (.aload_n 0, 1) := by decide +kernel
theorem dX6_well_177 : decode cX6_well 177 = .ok (.aload_n 0, 1) := by decide +kernel
theorem dX6_well_178 : decode cX6_well 178 = .ok (.getfield 68, 3) := by decide +kernel
theorem dX6_well_181 : decode cX6_well 181 = .ok (.invokevirtual 114, 3) := by decide +kernel
theorem dX6_well_184 : decode cX6_well 184 = .ok (.ireturn, 1) := by decide +kernel
theorem dX6_turnBy_0 : decode cX6_turnBy 0 = .ok (.iload_n 0, 1) := by decide +kernel
theorem dX6_turnBy_1 : decode cX6_turnBy 1 = .ok (.ifCond .ne 7, 3) := by decide +kernel
theorem dX6_turnBy_4 : decode cX6_turnBy 4 = .ok (.iload_n 1, 1) := by decide +kernel
theorem dX6_turnBy_5 : decode cX6_turnBy 5 = .ok (.goto 19, 3) := by decide +kernel
theorem dX6_turnBy_8 : decode cX6_turnBy 8 = .ok (.iload_n 0, 1) := by decide +kernel
theorem dX6_turnBy_9 : decode cX6_turnBy 9 = .ok (.iconst 1, 1) := by decide +kernel
theorem dX6_turnBy_10 : decode cX6_turnBy 10 = .ok (.if_icmp .ne 9, 3) := by decide +kernel
theorem dX6_turnBy_13 : decode cX6_turnBy 13 = .ok (.iload_n 1, 1) := by decide +kernel
theorem dX6_turnBy_14 : decode cX6_turnBy 14 = .ok (.iconst 1, 1) := by decide +kernel
theorem dX6_turnBy_15 : decode cX6_turnBy 15 = .ok (.iadd, 1) := by decide +kernel
theorem dX6_turnBy_16 : decode cX6_turnBy 16 = .ok (.goto 8, 3) := by decide +kernel
theorem dX6_turnBy_19 : decode cX6_turnBy 19 = .ok (.iconst 2, 1) := by decide +kernel
theorem dX6_turnBy_20 : decode cX6_turnBy 20 = .ok (.iload_n 1, 1) := by decide +kernel
theorem dX6_turnBy_21 : decode cX6_turnBy 21 = .ok (.imul, 1) := by decide +kernel
theorem dX6_turnBy_22 : decode cX6_turnBy 22 = .ok (.iconst 2, 1) := by decide +kernel
theorem dX6_turnBy_23 : decode cX6_turnBy 23 = .ok (.iadd, 1) := by decide +kernel
theorem dX6_turnBy_24 : decode cX6_turnBy 24 = .ok (.ireturn, 1) := by decide +kernel
set_option maxRecDepth 20000 in
theorem ggX6_turnOf_X6_turnBy : GoodIn wsX6_turnOf wsX6_turnBy := goodIn_r _ [6] (by decide +kernel) (by decide +kernel)
set_option maxRecDepth 20000 in
theorem gX6_turnOf_X6_turnBy : GoodIn wsX6_turnOf (va_wsS RX6 138 yX6_turnBy wsX6_turnBy) := goodIn_app (goodIn_of _ (by decide +kernel)) ggX6_turnOf_X6_turnBy
theorem dX6_turnOf_0 : decode cX6_turnOf 0 = .ok (.aload_n 0, 1) := by decide +kernel
theorem dX6_turnOf_1 : decode cX6_turnOf 1 = .ok (.getfield 7, 3) := by decide +kernel
theorem dX6_turnOf_4 : decode cX6_turnOf 4 = .ok (.iload_n 1, 1) := by decide +kernel
theorem dX6_turnOf_5 : decode cX6_turnOf 5 = .ok (.iaload, 1) := by decide +kernel
theorem dX6_turnOf_6 : decode cX6_turnOf 6 = .ok (.aload_n 0, 1) := by decide +kernel
theorem dX6_turnOf_7 : decode cX6_turnOf 7 = .ok (.getfield 13, 3) := by decide +kernel
theorem dX6_turnOf_10 : decode cX6_turnOf 10 = .ok (.iload_n 1, 1) := by decide +kernel
theorem dX6_turnOf_11 : decode cX6_turnOf 11 = .ok (.iaload, 1) := by decide +kernel
theorem dX6_turnOf_12 : decode cX6_turnOf 12 = .ok (.invokestatic 138, 3) := by decide +kernel
theorem dX6_turnOf_15 : decode cX6_turnOf 15 = .ok (.ireturn, 1) := by decide +kernel
theorem dX6_wishBy_0 : decode cX6_wishBy 0 = .ok (.aload_n 0, 1) := by decide +kernel
theorem dX6_wishBy_1 : decode cX6_wishBy 1 = .ok (.getfield 126, 3) := by decide +kernel
theorem dX6_wishBy_4 : decode cX6_wishBy 4 = .ok (.iload_n 1, 1) := by decide +kernel
theorem dX6_wishBy_5 : decode cX6_wishBy 5 = .ok (.imul, 1) := by decide +kernel
theorem dX6_wishBy_6 : decode cX6_wishBy 6 = .ok (.aload_n 0, 1) := by decide +kernel
theorem dX6_wishBy_7 : decode cX6_wishBy 7 = .ok (.getfield 129, 3) := by decide +kernel
theorem dX6_wishBy_10 : decode cX6_wishBy 10 = .ok (.iload_n 2, 1) := by decide +kernel
theorem dX6_wishBy_11 : decode cX6_wishBy 11 = .ok (.imul, 1) := by decide +kernel
theorem dX6_wishBy_12 : decode cX6_wishBy 12 = .ok (.iadd, 1) := by decide +kernel
theorem dX6_wishBy_13 : decode cX6_wishBy 13 = .ok (.bipush 6, 2) := by decide +kernel
theorem dX6_wishBy_15 : decode cX6_wishBy 15 = .ok (.irem, 1) := by decide +kernel
theorem dX6_wishBy_16 : decode cX6_wishBy 16 = .ok (.ireturn, 1) := by decide +kernel
set_option maxRecDepth 20000 in
theorem ggX6_wishOf_X6_turnOf : GoodIn wsX6_wishOf wsX6_turnOf := goodIn_r _ [6, 7, 8, 9, 10, 5, 11, 18, 19, 20, 21, 22, 23, 24, 25, 26, 27, 28, 29, 30, 31, 32, 33, 34, 35, 36, 37, 38, 39, 40, 41, 42, 43, 44, 45, 46, 47] (by decide +kernel) (by decide +kernel)
set_option maxRecDepth 20000 in
theorem gX6_wishOf_X6_turnOf : GoodIn wsX6_wishOf (wsV RX6 141 RX6 yX6_turnOf wsX6_turnOf) := goodIn_app (goodIn_of _ (by decide +kernel)) ggX6_wishOf_X6_turnOf
set_option maxRecDepth 20000 in
theorem ggX6_wishOf_X6_wishBy : GoodIn wsX6_wishOf wsX6_wishBy := goodIn_r _ [15, 16, 17, 18, 19, 20, 21, 22, 23, 24, 25, 26, 27, 28, 29, 30, 31, 32, 33, 34, 35, 36, 37, 38, 39, 40, 41, 42, 43, 44, 45, 46, 47] (by decide +kernel) (by decide +kernel)
set_option maxRecDepth 20000 in
theorem gX6_wishOf_X6_wishBy : GoodIn wsX6_wishOf (wsV RX6 144 RX6 yX6_wishBy wsX6_wishBy) := goodIn_app (goodIn_of _ (by decide +kernel)) ggX6_wishOf_X6_wishBy
theorem dX6_wishOf_0 : decode cX6_wishOf 0 = .ok (.aload_n 0, 1) := by decide +kernel
theorem dX6_wishOf_1 : decode cX6_wishOf 1 = .ok (.aload_n 0, 1) := by decide +kernel
theorem dX6_wishOf_2 : decode cX6_wishOf 2 = .ok (.iload_n 1, 1) := by decide +kernel
theorem dX6_wishOf_3 : decode cX6_wishOf 3 = .ok (.invokevirtual 141, 3) := by decide +kernel
theorem dX6_wishOf_6 : decode cX6_wishOf 6 = .ok (.aload_n 0, 1) := by decide +kernel
theorem dX6_wishOf_7 : decode cX6_wishOf 7 = .ok (.getfield 16, 3) := by decide +kernel
theorem dX6_wishOf_10 : decode cX6_wishOf 10 = .ok (.iload_n 1, 1) := by decide +kernel
theorem dX6_wishOf_11 : decode cX6_wishOf 11 = .ok (.iaload, 1) := by decide +kernel
theorem dX6_wishOf_12 : decode cX6_wishOf 12 = .ok (.invokevirtual 144, 3) := by decide +kernel
theorem dX6_wishOf_15 : decode cX6_wishOf 15 = .ok (.ireturn, 1) := by decide +kernel
set_option maxRecDepth 20000 in
theorem ggX6_ofPin_X6_noPin : GoodIn wsX6_ofPin wsX6_noPin := goodIn_r _ [9, 10, 11, 12, 8, 13, 31, 32, 33, 34, 35, 36, 37, 38, 39, 40, 41, 42, 43, 44, 45, 46, 47, 48, 49, 50, 51, 52, 53, 54, 55, 56, 57, 58, 59, 60] (by decide +kernel) (by decide +kernel)
set_option maxRecDepth 20000 in
theorem gX6_ofPin_X6_noPin : GoodIn wsX6_ofPin (wsV RX6 147 RX6 yX6_noPin wsX6_noPin) := goodIn_app (goodIn_of _ (by decide +kernel)) ggX6_ofPin_X6_noPin
set_option maxRecDepth 20000 in
theorem ggX6_ofPin_X6_turnOf : GoodIn wsX6_ofPin wsX6_turnOf := goodIn_r _ [17, 1, 2, 18, 19, 8, 20, 31, 32, 33, 34, 35, 36, 37, 38, 39, 40, 41, 42, 43, 44, 45, 46, 47, 48, 49, 50, 51, 52, 53, 54, 55, 56, 57, 58, 59, 60] (by decide +kernel) (by decide +kernel)
set_option maxRecDepth 20000 in
theorem gX6_ofPin_X6_turnOf : GoodIn wsX6_ofPin (wsV RX6 141 RX6 yX6_turnOf wsX6_turnOf) := goodIn_app (goodIn_of _ (by decide +kernel)) ggX6_ofPin_X6_turnOf
set_option maxRecDepth 20000 in
theorem ggX6_ofPin_X6_wishOf : GoodIn wsX6_ofPin wsX6_wishOf := goodIn_r _ [24, 3, 14, 15, 16, 8, 17, 1, 2, 18, 19, 20, 25, 26, 27, 28, 29, 30, 31, 32, 33, 34, 35, 36, 37, 38, 39, 40, 41, 42, 43, 44, 45, 46, 47, 48, 49, 50, 51, 52, 53, 54, 55, 56, 57, 58, 59, 60] (by decide +kernel) (by decide +kernel)
set_option maxRecDepth 20000 in
theorem gX6_ofPin_X6_wishOf : GoodIn wsX6_ofPin (wsV RX6 150 RX6 yX6_wishOf wsX6_wishOf) := goodIn_app (goodIn_of _ (by decide +kernel)) ggX6_ofPin_X6_wishOf
theorem dX6_ofPin_0 : decode cX6_ofPin 0 = .ok (.aload_n 0, 1) := by decide +kernel
theorem dX6_ofPin_1 : decode cX6_ofPin 1 = .ok (.iload_n 1, 1) := by decide +kernel
theorem dX6_ofPin_2 : decode cX6_ofPin 2 = .ok (.invokevirtual 147, 3) := by decide +kernel
theorem dX6_ofPin_5 : decode cX6_ofPin 5 = .ok (.ifCond .eq 5, 3) := by decide +kernel
theorem dX6_ofPin_8 : decode cX6_ofPin 8 = .ok (.iconst (-1), 1) := by decide +kernel
theorem dX6_ofPin_9 : decode cX6_ofPin 9 = .ok (.ireturn, 1) := by decide +kernel
theorem dX6_ofPin_10 : decode cX6_ofPin 10 = .ok (.iload_n 2, 1) := by decide +kernel
theorem dX6_ofPin_11 : decode cX6_ofPin 11 = .ok (.tableswitch 82 0 5 #[37, 44, 51, 58, 64, 70], 37) := by decide +kernel
theorem dX6_ofPin_48 : decode cX6_ofPin 48 = .ok (.aload_n 0, 1) := by decide +kernel
theorem dX6_ofPin_49 : decode cX6_ofPin 49 = .ok (.getfield 7, 3) := by decide +kernel
theorem dX6_ofPin_52 : decode cX6_ofPin 52 = .ok (.iload_n 1, 1) := by decide +kernel
theorem dX6_ofPin_53 : decode cX6_ofPin 53 = .ok (.iaload, 1) := by decide +kernel
theorem dX6_ofPin_54 : decode cX6_ofPin 54 = .ok (.ireturn, 1) := by decide +kernel
theorem dX6_ofPin_55 : decode cX6_ofPin 55 = .ok (.aload_n 0, 1) := by decide +kernel
theorem dX6_ofPin_56 : decode cX6_ofPin 56 = .ok (.getfield 13, 3) := by decide +kernel
theorem dX6_ofPin_59 : decode cX6_ofPin 59 = .ok (.iload_n 1, 1) := by decide +kernel
theorem dX6_ofPin_60 : decode cX6_ofPin 60 = .ok (.iaload, 1) := by decide +kernel
theorem dX6_ofPin_61 : decode cX6_ofPin 61 = .ok (.ireturn, 1) := by decide +kernel
theorem dX6_ofPin_62 : decode cX6_ofPin 62 = .ok (.aload_n 0, 1) := by decide +kernel
theorem dX6_ofPin_63 : decode cX6_ofPin 63 = .ok (.getfield 16, 3) := by decide +kernel
theorem dX6_ofPin_66 : decode cX6_ofPin 66 = .ok (.iload_n 1, 1) := by decide +kernel
theorem dX6_ofPin_67 : decode cX6_ofPin 67 = .ok (.iaload, 1) := by decide +kernel
theorem dX6_ofPin_68 : decode cX6_ofPin 68 = .ok (.ireturn, 1) := by decide +kernel
theorem dX6_ofPin_69 : decode cX6_ofPin 69 = .ok (.aload_n 0, 1) := by decide +kernel
theorem dX6_ofPin_70 : decode cX6_ofPin 70 = .ok (.iload_n 1, 1) := by decide +kernel
theorem dX6_ofPin_71 : decode cX6_ofPin 71 = .ok (.invokevirtual 141, 3) := by decide +kernel
theorem dX6_ofPin_74 : decode cX6_ofPin 74 = .ok (.ireturn, 1) := by decide +kernel
theorem dX6_ofPin_75 : decode cX6_ofPin 75 = .ok (.aload_n 0, 1) := by decide +kernel
theorem dX6_ofPin_76 : decode cX6_ofPin 76 = .ok (.iload_n 1, 1) := by decide +kernel
theorem dX6_ofPin_77 : decode cX6_ofPin 77 = .ok (.invokevirtual 150, 3) := by decide +kernel
theorem dX6_ofPin_80 : decode cX6_ofPin 80 = .ok (.ireturn, 1) := by decide +kernel
theorem dX6_ofPin_81 : decode cX6_ofPin 81 = .ok (.aload_n 0, 1) := by decide +kernel
theorem dX6_ofPin_82 : decode cX6_ofPin 82 = .ok (.getfield 132, 3) := by decide +kernel
theorem dX6_ofPin_85 : decode cX6_ofPin 85 = .ok (.aload_n 0, 1) := by decide +kernel
theorem dX6_ofPin_86 : decode cX6_ofPin 86 = .ok (.getfield 16, 3) := by decide +kernel
theorem dX6_ofPin_89 : decode cX6_ofPin 89 = .ok (.iload_n 1, 1) := by decide +kernel
theorem dX6_ofPin_90 : decode cX6_ofPin 90 = .ok (.iaload, 1) := by decide +kernel
theorem dX6_ofPin_91 : decode cX6_ofPin 91 = .ok (.isub, 1) := by decide +kernel
theorem dX6_ofPin_92 : decode cX6_ofPin 92 = .ok (.ireturn, 1) := by decide +kernel
theorem dX6_ofPin_93 : decode cX6_ofPin 93 = .ok (.bipush (-2), 2) := by decide +kernel
theorem dX6_ofPin_95 : decode cX6_ofPin 95 = .ok (.ireturn, 1) := by decide +kernel
set_option maxRecDepth 20000 in
theorem ggX6_bend_X6_noPin : GoodIn wsX6_bend wsX6_noPin := goodIn_r _ [7, 8, 9, 10, 6, 11, 12, 13, 14, 15, 16, 17, 18, 19, 20, 21, 22, 23, 24, 25, 26, 27, 28, 29, 30, 31, 32, 33, 34, 35, 36, 37, 38, 39, 40, 41] (by decide +kernel) (by decide +kernel)
set_option maxRecDepth 20000 in
theorem gX6_bend_X6_noPin : GoodIn wsX6_bend (wsV RX6 147 RX6 yX6_noPin wsX6_noPin) := goodIn_app (goodIn_of _ (by decide +kernel)) ggX6_bend_X6_noPin
set_option maxRecDepth 20000 in
theorem ggX6_bend_X6_in : GoodIn wsX6_bend wsX6_in := goodIn_r _ [11] (by decide +kernel) (by decide +kernel)
set_option maxRecDepth 20000 in
theorem gX6_bend_X6_in : GoodIn wsX6_bend (va_wsS RX6 71 yX6_in wsX6_in) := goodIn_app (goodIn_of _ (by decide +kernel)) ggX6_bend_X6_in
theorem dX6_bend_0 : decode cX6_bend 0 = .ok (.aload_n 0, 1) := by decide +kernel
theorem dX6_bend_1 : decode cX6_bend 1 = .ok (.iload_n 1, 1) := by decide +kernel
theorem dX6_bend_2 : decode cX6_bend 2 = .ok (.invokevirtual 147, 3) := by decide +kernel
theorem dX6_bend_5 : decode cX6_bend 5 = .ok (.ifCond .eq 5, 3) := by decide +kernel
theorem dX6_bend_8 : decode cX6_bend 8 = .ok (.iconst (-1), 1) := by decide +kernel
theorem dX6_bend_9 : decode cX6_bend 9 = .ok (.ireturn, 1) := by decide +kernel
theorem dX6_bend_10 : decode cX6_bend 10 = .ok (.iload_n 2, 1) := by decide +kernel
theorem dX6_bend_11 : decode cX6_bend 11 = .ok (.i2l, 1) := by decide +kernel
theorem dX6_bend_12 : decode cX6_bend 12 = .ok (.lconst 0, 1) := by decide +kernel
theorem dX6_bend_13 : decode cX6_bend 13 = .ok (.ldc2_w 153, 3) := by decide +kernel
theorem dX6_bend_16 : decode cX6_bend 16 = .ok (.invokestatic 71, 3) := by decide +kernel
theorem dX6_bend_19 : decode cX6_bend 19 = .ok (.ifCond .ne 6, 3) := by decide +kernel
theorem dX6_bend_22 : decode cX6_bend 22 = .ok (.bipush (-2), 2) := by decide +kernel
theorem dX6_bend_24 : decode cX6_bend 24 = .ok (.ireturn, 1) := by decide +kernel
theorem dX6_bend_25 : decode cX6_bend 25 = .ok (.aload_n 0, 1) := by decide +kernel
theorem dX6_bend_26 : decode cX6_bend 26 = .ok (.getfield 13, 3) := by decide +kernel
theorem dX6_bend_29 : decode cX6_bend 29 = .ok (.iload_n 1, 1) := by decide +kernel
theorem dX6_bend_30 : decode cX6_bend 30 = .ok (.iaload, 1) := by decide +kernel
theorem dX6_bend_31 : decode cX6_bend 31 = .ok (.istore_n 3, 1) := by decide +kernel
theorem dX6_bend_32 : decode cX6_bend 32 = .ok (.aload_n 0, 1) := by decide +kernel
theorem dX6_bend_33 : decode cX6_bend 33 = .ok (.getfield 13, 3) := by decide +kernel
theorem dX6_bend_36 : decode cX6_bend 36 = .ok (.iload_n 1, 1) := by decide +kernel
theorem dX6_bend_37 : decode cX6_bend 37 = .ok (.iload_n 2, 1) := by decide +kernel
theorem dX6_bend_38 : decode cX6_bend 38 = .ok (.iastore, 1) := by decide +kernel
theorem dX6_bend_39 : decode cX6_bend 39 = .ok (.iload_n 3, 1) := by decide +kernel
theorem dX6_bend_40 : decode cX6_bend 40 = .ok (.ireturn, 1) := by decide +kernel
set_option maxRecDepth 20000 in
theorem ggX6_rekey_X6_in : GoodIn wsX6_rekey wsX6_in := goodIn_r _ [8] (by decide +kernel) (by decide +kernel)
set_option maxRecDepth 20000 in
theorem gX6_rekey_X6_in : GoodIn wsX6_rekey (va_wsS RX6 71 yX6_in wsX6_in) := goodIn_app (goodIn_of _ (by decide +kernel)) ggX6_rekey_X6_in
theorem dX6_rekey_0 : decode cX6_rekey 0 = .ok (.aload_n 0, 1) := by decide +kernel
theorem dX6_rekey_1 : decode cX6_rekey 1 = .ok (.getfield 68, 3) := by decide +kernel
theorem dX6_rekey_4 : decode cX6_rekey 4 = .ok (.ifCond .ne 6, 3) := by decide +kernel
theorem dX6_rekey_7 : decode cX6_rekey 7 = .ok (.bipush (-3), 2) := by decide +kernel
theorem dX6_rekey_9 : decode cX6_rekey 9 = .ok (.ireturn, 1) := by decide +kernel
theorem dX6_rekey_10 : decode cX6_rekey 10 = .ok (.iload_n 1, 1) := by decide +kernel
theorem dX6_rekey_11 : decode cX6_rekey 11 = .ok (.i2l, 1) := by decide +kernel
theorem dX6_rekey_12 : decode cX6_rekey 12 = .ok (.lconst 1, 1) := by decide +kernel
theorem dX6_rekey_13 : decode cX6_rekey 13 = .ok (.ldc2_w 155, 3) := by decide +kernel
theorem dX6_rekey_16 : decode cX6_rekey 16 = .ok (.invokestatic 71, 3) := by decide +kernel
theorem dX6_rekey_19 : decode cX6_rekey 19 = .ok (.ifCond .eq 15, 3) := by decide +kernel
theorem dX6_rekey_22 : decode cX6_rekey 22 = .ok (.iload_n 2, 1) := by decide +kernel
theorem dX6_rekey_23 : decode cX6_rekey 23 = .ok (.i2l, 1) := by decide +kernel
theorem dX6_rekey_24 : decode cX6_rekey 24 = .ok (.lconst 0, 1) := by decide +kernel
theorem dX6_rekey_25 : decode cX6_rekey 25 = .ok (.ldc2_w 155, 3) := by decide +kernel
theorem dX6_rekey_28 : decode cX6_rekey 28 = .ok (.invokestatic 71, 3) := by decide +kernel
theorem dX6_rekey_31 : decode cX6_rekey 31 = .ok (.ifCond .ne 6, 3) := by decide +kernel
theorem dX6_rekey_34 : decode cX6_rekey 34 = .ok (.bipush (-2), 2) := by decide +kernel
theorem dX6_rekey_36 : decode cX6_rekey 36 = .ok (.ireturn, 1) := by decide +kernel
theorem dX6_rekey_37 : decode cX6_rekey 37 = .ok (.bipush 10, 2) := by decide +kernel
theorem dX6_rekey_39 : decode cX6_rekey 39 = .ok (.aload_n 0, 1) := by decide +kernel
theorem dX6_rekey_40 : decode cX6_rekey 40 = .ok (.getfield 126, 3) := by decide +kernel
theorem dX6_rekey_43 : decode cX6_rekey 43 = .ok (.imul, 1) := by decide +kernel
theorem dX6_rekey_44 : decode cX6_rekey 44 = .ok (.aload_n 0, 1) := by decide +kernel
theorem dX6_rekey_45 : decode cX6_rekey 45 = .ok (.getfield 129, 3) := by decide +kernel
theorem dX6_rekey_48 : decode cX6_rekey 48 = .ok (.iadd, 1) := by decide +kernel
theorem dX6_rekey_49 : decode cX6_rekey 49 = .ok (.istore_n 3, 1) := by decide +kernel
theorem dX6_rekey_50 : decode cX6_rekey 50 = .ok (.aload_n 0, 1) := by decide +kernel
theorem dX6_rekey_51 : decode cX6_rekey 51 = .ok (.iload_n 1, 1) := by decide +kernel
theorem dX6_rekey_52 : decode cX6_rekey 52 = .ok (.putfield 126, 3) := by decide +kernel
theorem dX6_rekey_55 : decode cX6_rekey 55 = .ok (.aload_n 0, 1) := by decide +kernel
theorem dX6_rekey_56 : decode cX6_rekey 56 = .ok (.iload_n 2, 1) := by decide +kernel
theorem dX6_rekey_57 : decode cX6_rekey 57 = .ok (.putfield 129, 3) := by decide +kernel
theorem dX6_rekey_60 : decode cX6_rekey 60 = .ok (.iload_n 3, 1) := by decide +kernel
theorem dX6_rekey_61 : decode cX6_rekey 61 = .ok (.ireturn, 1) := by decide +kernel
set_option maxRecDepth 20000 in
theorem ggX6_wished_X6_in : GoodIn wsX6_wished wsX6_in := goodIn_r _ [6] (by decide +kernel) (by decide +kernel)
set_option maxRecDepth 20000 in
theorem gX6_wished_X6_in : GoodIn wsX6_wished (va_wsS RX6 71 yX6_in wsX6_in) := goodIn_app (goodIn_of _ (by decide +kernel)) ggX6_wished_X6_in
set_option maxRecDepth 20000 in
theorem ggX6_wished_X6_wishOf : GoodIn wsX6_wished wsX6_wishOf := goodIn_r _ [10, 11, 12, 13, 14, 5, 15, 16, 17, 18, 19, 20, 21, 22, 23, 24, 25, 26, 27, 28, 29, 30, 31, 32, 33, 34, 35, 36, 37, 38, 39, 40, 41, 42, 43, 44, 45, 46, 47, 48, 49, 50, 51, 52, 53, 54, 55, 56] (by decide +kernel) (by decide +kernel)
set_option maxRecDepth 20000 in
theorem gX6_wished_X6_wishOf : GoodIn wsX6_wished (wsV RX6 150 RX6 yX6_wishOf wsX6_wishOf) := goodIn_app (goodIn_of _ (by decide +kernel)) ggX6_wished_X6_wishOf
theorem dX6_wished_0 : decode cX6_wished 0 = .ok (.aload_n 0, 1) := by decide +kernel
theorem dX6_wished_1 : decode cX6_wished 1 = .ok (.getfield 68, 3) := by decide +kernel
theorem dX6_wished_4 : decode cX6_wished 4 = .ok (.ifCond .ne 6, 3) := by decide +kernel
theorem dX6_wished_7 : decode cX6_wished 7 = .ok (.bipush (-3), 2) := by decide +kernel
theorem dX6_wished_9 : decode cX6_wished 9 = .ok (.ireturn, 1) := by decide +kernel
theorem dX6_wished_10 : decode cX6_wished 10 = .ok (.iload_n 1, 1) := by decide +kernel
theorem dX6_wished_11 : decode cX6_wished 11 = .ok (.i2l, 1) := by decide +kernel
theorem dX6_wished_12 : decode cX6_wished 12 = .ok (.lconst 0, 1) := by decide +kernel
theorem dX6_wished_13 : decode cX6_wished 13 = .ok (.ldc2_w 155, 3) := by decide +kernel
theorem dX6_wished_16 : decode cX6_wished 16 = .ok (.invokestatic 71, 3) := by decide +kernel
theorem dX6_wished_19 : decode cX6_wished 19 = .ok (.ifCond .ne 6, 3) := by decide +kernel
theorem dX6_wished_22 : decode cX6_wished 22 = .ok (.bipush (-2), 2) := by decide +kernel
theorem dX6_wished_24 : decode cX6_wished 24 = .ok (.ireturn, 1) := by decide +kernel
theorem dX6_wished_25 : decode cX6_wished 25 = .ok (.iconst 0, 1) := by decide +kernel
theorem dX6_wished_26 : decode cX6_wished 26 = .ok (.istore_n 2, 1) := by decide +kernel
theorem dX6_wished_27 : decode cX6_wished 27 = .ok (.iconst 0, 1) := by decide +kernel
theorem dX6_wished_28 : decode cX6_wished 28 = .ok (.istore_n 3, 1) := by decide +kernel
theorem dX6_wished_29 : decode cX6_wished 29 = .ok (.iload_n 3, 1) := by decide +kernel
theorem dX6_wished_30 : decode cX6_wished 30 = .ok (.aload_n 0, 1) := by decide +kernel
theorem dX6_wished_31 : decode cX6_wished 31 = .ok (.getfield 68, 3) := by decide +kernel
theorem dX6_wished_34 : decode cX6_wished 34 = .ok (.if_icmp .ge 28, 3) := by decide +kernel
theorem dX6_wished_37 : decode cX6_wished 37 = .ok (.iload_n 2, 1) := by decide +kernel
theorem dX6_wished_38 : decode cX6_wished 38 = .ok (.aload_n 0, 1) := by decide +kernel
theorem dX6_wished_39 : decode cX6_wished 39 = .ok (.iload_n 3, 1) := by decide +kernel
theorem dX6_wished_40 : decode cX6_wished 40 = .ok (.invokevirtual 150, 3) := by decide +kernel
theorem dX6_wished_43 : decode cX6_wished 43 = .ok (.iload_n 1, 1) := by decide +kernel
theorem dX6_wished_44 : decode cX6_wished 44 = .ok (.if_icmp .ne 9, 3) := by decide +kernel
theorem dX6_wished_47 : decode cX6_wished 47 = .ok (.iconst 1, 1) := by decide +kernel
theorem dX6_wished_48 : decode cX6_wished 48 = .ok (.iload_n 3, 1) := by decide +kernel
theorem dX6_wished_49 : decode cX6_wished 49 = .ok (.ishl, 1) := by decide +kernel
theorem dX6_wished_50 : decode cX6_wished 50 = .ok (.goto 4, 3) := by decide +kernel
theorem dX6_wished_53 : decode cX6_wished 53 = .ok (.iconst 0, 1) := by decide +kernel
theorem dX6_wished_54 : decode cX6_wished 54 = .ok (.ior, 1) := by decide +kernel
theorem dX6_wished_55 : decode cX6_wished 55 = .ok (.istore_n 2, 1) := by decide +kernel
theorem dX6_wished_56 : decode cX6_wished 56 = .ok (.iinc 3 1, 3) := by decide +kernel
theorem dX6_wished_59 : decode cX6_wished 59 = .ok (.goto (-30), 3) := by decide +kernel
theorem dX6_wished_62 : decode cX6_wished 62 = .ok (.iload_n 2, 1) := by decide +kernel
theorem dX6_wished_63 : decode cX6_wished 63 = .ok (.ireturn, 1) := by decide +kernel
theorem dX6_threw_0 : decode cX6_threw 0 = .ok (.aload_n 0, 1) := by decide +kernel
theorem dX6_threw_1 : decode cX6_threw 1 = .ok (.getfield 68, 3) := by decide +kernel
theorem dX6_threw_4 : decode cX6_threw 4 = .ok (.bipush 9, 2) := by decide +kernel
theorem dX6_threw_6 : decode cX6_threw 6 = .ok (.if_icmp .ne 5, 3) := by decide +kernel
theorem dX6_threw_9 : decode cX6_threw 9 = .ok (.iconst 0, 1) := by decide +kernel
theorem dX6_threw_10 : decode cX6_threw 10 = .ok (.ireturn, 1) := by decide +kernel
theorem dX6_threw_11 : decode cX6_threw 11 = .ok (.aload_n 0, 1) := by decide +kernel
theorem dX6_threw_12 : decode cX6_threw 12 = .ok (.getfield 7, 3) := by decide +kernel
theorem dX6_threw_15 : decode cX6_threw 15 = .ok (.aload_n 0, 1) := by decide +kernel
theorem dX6_threw_16 : decode cX6_threw 16 = .ok (.getfield 68, 3) := by decide +kernel
theorem dX6_threw_19 : decode cX6_threw 19 = .ok (.iload_n 1, 1) := by decide +kernel
theorem dX6_threw_20 : decode cX6_threw 20 = .ok (.iastore, 1) := by decide +kernel
theorem dX6_threw_21 : decode cX6_threw 21 = .ok (.aload_n 0, 1) := by decide +kernel
theorem dX6_threw_22 : decode cX6_threw 22 = .ok (.getfield 13, 3) := by decide +kernel
theorem dX6_threw_25 : decode cX6_threw 25 = .ok (.aload_n 0, 1) := by decide +kernel
theorem dX6_threw_26 : decode cX6_threw 26 = .ok (.getfield 68, 3) := by decide +kernel
theorem dX6_threw_29 : decode cX6_threw 29 = .ok (.iload_n 2, 1) := by decide +kernel
theorem dX6_threw_30 : decode cX6_threw 30 = .ok (.iastore, 1) := by decide +kernel
theorem dX6_threw_31 : decode cX6_threw 31 = .ok (.aload_n 0, 1) := by decide +kernel
theorem dX6_threw_32 : decode cX6_threw 32 = .ok (.getfield 16, 3) := by decide +kernel
theorem dX6_threw_35 : decode cX6_threw 35 = .ok (.aload_n 0, 1) := by decide +kernel
theorem dX6_threw_36 : decode cX6_threw 36 = .ok (.getfield 68, 3) := by decide +kernel
theorem dX6_threw_39 : decode cX6_threw 39 = .ok (.aload_n 0, 1) := by decide +kernel
theorem dX6_threw_40 : decode cX6_threw 40 = .ok (.getfield 132, 3) := by decide +kernel
theorem dX6_threw_43 : decode cX6_threw 43 = .ok (.iastore, 1) := by decide +kernel
theorem dX6_threw_44 : decode cX6_threw 44 = .ok (.aload_n 0, 1) := by decide +kernel
theorem dX6_threw_45 : decode cX6_threw 45 = .ok (.dup, 1) := by decide +kernel
theorem dX6_threw_46 : decode cX6_threw 46 = .ok (.getfield 68, 3) := by decide +kernel
theorem dX6_threw_49 : decode cX6_threw 49 = .ok (.iconst 1, 1) := by decide +kernel
theorem dX6_threw_50 : decode cX6_threw 50 = .ok (.iadd, 1) := by decide +kernel
theorem dX6_threw_51 : decode cX6_threw 51 = .ok (.putfield 68, 3) := by decide +kernel
theorem dX6_threw_54 : decode cX6_threw 54 = .ok (.iconst 1, 1) := by decide +kernel
theorem dX6_threw_55 : decode cX6_threw 55 = .ok (.ireturn, 1) := by decide +kernel
set_option maxRecDepth 20000 in
theorem ggX6_throwIn_X6_in : GoodIn wsX6_throwIn wsX6_in := goodIn_r _ [7] (by decide +kernel) (by decide +kernel)
set_option maxRecDepth 20000 in
theorem gX6_throwIn_X6_in : GoodIn wsX6_throwIn (va_wsS RX6 71 yX6_in wsX6_in) := goodIn_app (goodIn_of _ (by decide +kernel)) ggX6_throwIn_X6_in
set_option maxRecDepth 20000 in
theorem ggX6_throwIn_X6_threw : GoodIn wsX6_throwIn wsX6_threw := goodIn_r _ [11, 3, 12, 13, 14, 15, 33, 34, 35, 36, 37, 38, 39, 40, 41, 42, 43, 44, 45, 46, 47, 48, 49, 50, 51, 52, 53, 54, 55, 56, 57, 58, 59, 60, 61, 62] (by decide +kernel) (by decide +kernel)
set_option maxRecDepth 20000 in
theorem gX6_throwIn_X6_threw : GoodIn wsX6_throwIn (wsV RX6 157 RX6 yX6_threw wsX6_threw) := goodIn_app (goodIn_of _ (by decide +kernel)) ggX6_throwIn_X6_threw
set_option maxRecDepth 20000 in
theorem ggX6_throwIn_X6_wishOf : GoodIn wsX6_throwIn wsX6_wishOf := goodIn_r _ [19, 14, 20, 21, 22, 6, 23, 12, 13, 24, 25, 26, 27, 28, 29, 30, 31, 32, 33, 34, 35, 36, 37, 38, 39, 40, 41, 42, 43, 44, 45, 46, 47, 48, 49, 50, 51, 52, 53, 54, 55, 56, 57, 58, 59, 60, 61, 62] (by decide +kernel) (by decide +kernel)
set_option maxRecDepth 20000 in
theorem gX6_throwIn_X6_wishOf : GoodIn wsX6_throwIn (wsV RX6 150 RX6 yX6_wishOf wsX6_wishOf) := goodIn_app (goodIn_of _ (by decide +kernel)) ggX6_throwIn_X6_wishOf
theorem dX6_throwIn_0 : decode cX6_throwIn 0 = .ok (.iload_n 1, 1) := by decide +kernel
theorem dX6_throwIn_1 : decode cX6_throwIn 1 = .ok (.i2l, 1) := by decide +kernel
theorem dX6_throwIn_2 : decode cX6_throwIn 2 = .ok (.lconst 0, 1) := by decide +kernel
theorem dX6_throwIn_3 : decode cX6_throwIn 3 = .ok (.ldc2_w 117, 3) := by decide +kernel
theorem dX6_throwIn_6 : decode cX6_throwIn 6 = .ok (.invokestatic 71, 3) := by decide +kernel
theorem dX6_throwIn_9 : decode cX6_throwIn 9 = .ok (.ifCond .eq 15, 3) := by decide +kernel
theorem dX6_throwIn_12 : decode cX6_throwIn 12 = .ok (.iload_n 2, 1) := by decide +kernel
theorem dX6_throwIn_13 : decode cX6_throwIn 13 = .ok (.i2l, 1) := by decide +kernel
theorem dX6_throwIn_14 : decode cX6_throwIn 14 = .ok (.lconst 0, 1) := by decide +kernel
theorem dX6_throwIn_15 : decode cX6_throwIn 15 = .ok (.ldc2_w 153, 3) := by decide +kernel
theorem dX6_throwIn_18 : decode cX6_throwIn 18 = .ok (.invokestatic 71, 3) := by decide +kernel
theorem dX6_throwIn_21 : decode cX6_throwIn 21 = .ok (.ifCond .ne 6, 3) := by decide +kernel
theorem dX6_throwIn_24 : decode cX6_throwIn 24 = .ok (.bipush (-2), 2) := by decide +kernel
theorem dX6_throwIn_26 : decode cX6_throwIn 26 = .ok (.ireturn, 1) := by decide +kernel
theorem dX6_throwIn_27 : decode cX6_throwIn 27 = .ok (.aload_n 0, 1) := by decide +kernel
theorem dX6_throwIn_28 : decode cX6_throwIn 28 = .ok (.getfield 68, 3) := by decide +kernel
theorem dX6_throwIn_31 : decode cX6_throwIn 31 = .ok (.ifCond .ne 6, 3) := by decide +kernel
theorem dX6_throwIn_34 : decode cX6_throwIn 34 = .ok (.bipush (-3), 2) := by decide +kernel
theorem dX6_throwIn_36 : decode cX6_throwIn 36 = .ok (.ireturn, 1) := by decide +kernel
theorem dX6_throwIn_37 : decode cX6_throwIn 37 = .ok (.aload_n 0, 1) := by decide +kernel
theorem dX6_throwIn_38 : decode cX6_throwIn 38 = .ok (.iload_n 1, 1) := by decide +kernel
theorem dX6_throwIn_39 : decode cX6_throwIn 39 = .ok (.iload_n 2, 1) := by decide +kernel
theorem dX6_throwIn_40 : decode cX6_throwIn 40 = .ok (.invokevirtual 157, 3) := by decide +kernel
theorem dX6_throwIn_43 : decode cX6_throwIn 43 = .ok (.ifCond .eq 16, 3) := by decide +kernel
theorem dX6_throwIn_46 : decode cX6_throwIn 46 = .ok (.aload_n 0, 1) := by decide +kernel
theorem dX6_throwIn_47 : decode cX6_throwIn 47 = .ok (.aload_n 0, 1) := by decide +kernel
theorem dX6_throwIn_48 : decode cX6_throwIn 48 = .ok (.getfield 68, 3) := by decide +kernel
theorem dX6_throwIn_51 : decode cX6_throwIn 51 = .ok (.iconst 1, 1) := by decide +kernel
theorem dX6_throwIn_52 : decode cX6_throwIn 52 = .ok (.isub, 1) := by decide +kernel
theorem dX6_throwIn_53 : decode cX6_throwIn 53 = .ok (.invokevirtual 150, 3) := by decide +kernel
theorem dX6_throwIn_56 : decode cX6_throwIn 56 = .ok (.goto 5, 3) := by decide +kernel
theorem dX6_throwIn_59 : decode cX6_throwIn 59 = .ok (.bipush (-4), 2) := by decide +kernel
theorem dX6_throwIn_61 : decode cX6_throwIn 61 = .ok (.ireturn, 1) := by decide +kernel
set_option maxRecDepth 20000 in
theorem ggX6_fish_X6_wishOf : GoodIn wsX6_fish wsX6_wishOf := goodIn_r _ [7, 8, 9, 10, 11, 6, 12, 13, 14, 15, 16, 17, 18, 19, 20, 21, 22, 23, 24, 25, 26, 27, 28, 29, 30, 31, 32, 33, 34, 35, 36, 37, 38, 39, 40, 41, 42, 43, 44, 45, 46, 47, 48, 49, 50, 51, 52, 53] (by decide +kernel) (by decide +kernel)
set_option maxRecDepth 20000 in
theorem gX6_fish_X6_wishOf : GoodIn wsX6_fish (wsV RX6 150 RX6 yX6_wishOf wsX6_wishOf) := goodIn_app (goodIn_of _ (by decide +kernel)) ggX6_fish_X6_wishOf
theorem dX6_fish_0 : decode cX6_fish 0 = .ok (.aload_n 0, 1) := by decide +kernel
theorem dX6_fish_1 : decode cX6_fish 1 = .ok (.getfield 68, 3) := by decide +kernel
theorem dX6_fish_4 : decode cX6_fish 4 = .ok (.iconst 2, 1) := by decide +kernel
theorem dX6_fish_5 : decode cX6_fish 5 = .ok (.if_icmp .ge 6, 3) := by decide +kernel
theorem dX6_fish_8 : decode cX6_fish 8 = .ok (.bipush (-3), 2) := by decide +kernel
theorem dX6_fish_10 : decode cX6_fish 10 = .ok (.ireturn, 1) := by decide +kernel
theorem dX6_fish_11 : decode cX6_fish 11 = .ok (.aload_n 0, 1) := by decide +kernel
theorem dX6_fish_12 : decode cX6_fish 12 = .ok (.dup, 1) := by decide +kernel
theorem dX6_fish_13 : decode cX6_fish 13 = .ok (.getfield 68, 3) := by decide +kernel
theorem dX6_fish_16 : decode cX6_fish 16 = .ok (.iconst 1, 1) := by decide +kernel
theorem dX6_fish_17 : decode cX6_fish 17 = .ok (.isub, 1) := by decide +kernel
theorem dX6_fish_18 : decode cX6_fish 18 = .ok (.putfield 68, 3) := by decide +kernel
theorem dX6_fish_21 : decode cX6_fish 21 = .ok (.aload_n 0, 1) := by decide +kernel
theorem dX6_fish_22 : decode cX6_fish 22 = .ok (.iconst 0, 1) := by decide +kernel
theorem dX6_fish_23 : decode cX6_fish 23 = .ok (.putfield 135, 3) := by decide +kernel
theorem dX6_fish_26 : decode cX6_fish 26 = .ok (.aload_n 0, 1) := by decide +kernel
theorem dX6_fish_27 : decode cX6_fish 27 = .ok (.aload_n 0, 1) := by decide +kernel
theorem dX6_fish_28 : decode cX6_fish 28 = .ok (.getfield 68, 3) := by decide +kernel
theorem dX6_fish_31 : decode cX6_fish 31 = .ok (.invokevirtual 150, 3) := by decide +kernel
theorem dX6_fish_34 : decode cX6_fish 34 = .ok (.ireturn, 1) := by decide +kernel
set_option maxRecDepth 20000 in
theorem ggX6_years_X6_in : GoodIn wsX6_years wsX6_in := goodIn_r _ [7] (by decide +kernel) (by decide +kernel)
set_option maxRecDepth 20000 in
theorem gX6_years_X6_in : GoodIn wsX6_years (va_wsS RX6 71 yX6_in wsX6_in) := goodIn_app (goodIn_of _ (by decide +kernel)) ggX6_years_X6_in
theorem dX6_years_0 : decode cX6_years 0 = .ok (.iload_n 1, 1) := by decide +kernel
theorem dX6_years_1 : decode cX6_years 1 = .ok (.i2l, 1) := by decide +kernel
theorem dX6_years_2 : decode cX6_years 2 = .ok (.lconst 1, 1) := by decide +kernel
theorem dX6_years_3 : decode cX6_years 3 = .ok (.ldc2_w 160, 3) := by decide +kernel
theorem dX6_years_6 : decode cX6_years 6 = .ok (.invokestatic 71, 3) := by decide +kernel
theorem dX6_years_9 : decode cX6_years 9 = .ok (.ifCond .ne 6, 3) := by decide +kernel
theorem dX6_years_12 : decode cX6_years 12 = .ok (.bipush (-2), 2) := by decide +kernel
theorem dX6_years_14 : decode cX6_years 14 = .ok (.ireturn, 1) := by decide +kernel
theorem dX6_years_15 : decode cX6_years 15 = .ok (.aload_n 0, 1) := by decide +kernel
theorem dX6_years_16 : decode cX6_years 16 = .ok (.getfield 68, 3) := by decide +kernel
theorem dX6_years_19 : decode cX6_years 19 = .ok (.ifCond .ne 6, 3) := by decide +kernel
theorem dX6_years_22 : decode cX6_years 22 = .ok (.bipush (-3), 2) := by decide +kernel
theorem dX6_years_24 : decode cX6_years 24 = .ok (.ireturn, 1) := by decide +kernel
theorem dX6_years_25 : decode cX6_years 25 = .ok (.aload_n 0, 1) := by decide +kernel
theorem dX6_years_26 : decode cX6_years 26 = .ok (.dup, 1) := by decide +kernel
theorem dX6_years_27 : decode cX6_years 27 = .ok (.getfield 132, 3) := by decide +kernel
theorem dX6_years_30 : decode cX6_years 30 = .ok (.iload_n 1, 1) := by decide +kernel
theorem dX6_years_31 : decode cX6_years 31 = .ok (.iadd, 1) := by decide +kernel
theorem dX6_years_32 : decode cX6_years 32 = .ok (.putfield 132, 3) := by decide +kernel
theorem dX6_years_35 : decode cX6_years 35 = .ok (.aload_n 0, 1) := by decide +kernel
theorem dX6_years_36 : decode cX6_years 36 = .ok (.getfield 132, 3) := by decide +kernel
theorem dX6_years_39 : decode cX6_years 39 = .ok (.ireturn, 1) := by decide +kernel
theorem dX6_keepAll_0 : decode cX6_keepAll 0 = .ok (.aload_n 0, 1) := by decide +kernel
theorem dX6_keepAll_1 : decode cX6_keepAll 1 = .ok (.aload_n 0, 1) := by decide +kernel
theorem dX6_keepAll_2 : decode cX6_keepAll 2 = .ok (.getfield 68, 3) := by decide +kernel
theorem dX6_keepAll_5 : decode cX6_keepAll 5 = .ok (.putfield 162, 3) := by decide +kernel
theorem dX6_keepAll_8 : decode cX6_keepAll 8 = .ok (.aload_n 0, 1) := by decide +kernel
theorem dX6_keepAll_9 : decode cX6_keepAll 9 = .ok (.aload_n 0, 1) := by decide +kernel
theorem dX6_keepAll_10 : decode cX6_keepAll 10 = .ok (.getfield 132, 3) := by decide +kernel
theorem dX6_keepAll_13 : decode cX6_keepAll 13 = .ok (.putfield 165, 3) := by decide +kernel
theorem dX6_keepAll_16 : decode cX6_keepAll 16 = .ok (.iconst 0, 1) := by decide +kernel
theorem dX6_keepAll_17 : decode cX6_keepAll 17 = .ok (.istore_n 1, 1) := by decide +kernel
theorem dX6_keepAll_18 : decode cX6_keepAll 18 = .ok (.iload_n 1, 1) := by decide +kernel
theorem dX6_keepAll_19 : decode cX6_keepAll 19 = .ok (.bipush 9, 2) := by decide +kernel
theorem dX6_keepAll_21 : decode cX6_keepAll 21 = .ok (.if_icmp .ge 45, 3) := by decide +kernel
theorem dX6_keepAll_24 : decode cX6_keepAll 24 = .ok (.aload_n 0, 1) := by decide +kernel
theorem dX6_keepAll_25 : decode cX6_keepAll 25 = .ok (.getfield 28, 3) := by decide +kernel
theorem dX6_keepAll_28 : decode cX6_keepAll 28 = .ok (.iload_n 1, 1) := by decide +kernel
theorem dX6_keepAll_29 : decode cX6_keepAll 29 = .ok (.aload_n 0, 1) := by decide +kernel
theorem dX6_keepAll_30 : decode cX6_keepAll 30 = .ok (.getfield 7, 3) := by decide +kernel
theorem dX6_keepAll_33 : decode cX6_keepAll 33 = .ok (.iload_n 1, 1) := by decide +kernel
theorem dX6_keepAll_34 : decode cX6_keepAll 34 = .ok (.iaload, 1) := by decide +kernel
theorem dX6_keepAll_35 : decode cX6_keepAll 35 = .ok (.iastore, 1) := by decide +kernel
theorem dX6_keepAll_36 : decode cX6_keepAll 36 = .ok (.aload_n 0, 1) := by decide +kernel
theorem dX6_keepAll_37 : decode cX6_keepAll 37 = .ok (.getfield 31, 3) := by decide +kernel
theorem dX6_keepAll_40 : decode cX6_keepAll 40 = .ok (.iload_n 1, 1) := by decide +kernel
theorem dX6_keepAll_41 : decode cX6_keepAll 41 = .ok (.aload_n 0, 1) := by decide +kernel
theorem dX6_keepAll_42 : decode cX6_keepAll 42 = .ok (.getfield 13, 3) := by decide +kernel
theorem dX6_keepAll_45 : decode cX6_keepAll 45 = .ok (.iload_n 1, 1) := by decide +kernel
theorem dX6_keepAll_46 : decode cX6_keepAll 46 = .ok (.iaload, 1) := by decide +kernel
theorem dX6_keepAll_47 : decode cX6_keepAll 47 = .ok (.iastore, 1) := by decide +kernel
theorem dX6_keepAll_48 : decode cX6_keepAll 48 = .ok (.aload_n 0, 1) := by decide +kernel
theorem dX6_keepAll_49 : decode cX6_keepAll 49 = .ok (.getfield 34, 3) := by decide +kernel
theorem dX6_keepAll_52 : decode cX6_keepAll 52 = .ok (.iload_n 1, 1) := by decide +kernel
theorem dX6_keepAll_53 : decode cX6_keepAll 53 = .ok (.aload_n 0, 1) := by decide +kernel
theorem dX6_keepAll_54 : decode cX6_keepAll 54 = .ok (.getfield 16, 3) := by decide +kernel
theorem dX6_keepAll_57 : decode cX6_keepAll 57 = .ok (.iload_n 1, 1) := by decide +kernel
theorem dX6_keepAll_58 : decode cX6_keepAll 58 = .ok (.iaload, 1) := by decide +kernel
theorem dX6_keepAll_59 : decode cX6_keepAll 59 = .ok (.iastore, 1) := by decide +kernel
theorem dX6_keepAll_60 : decode cX6_keepAll 60 = .ok (.iinc 1 1, 3) := by decide +kernel
theorem dX6_keepAll_63 : decode cX6_keepAll 63 = .ok (.goto (-45), 3) := by decide +kernel
theorem dX6_keepAll_66 : decode cX6_keepAll 66 = .ok (.return_, 1) := by decide +kernel
theorem dX6_bringBack_0 : decode cX6_bringBack 0 = .ok (.aload_n 0, 1) := by decide +kernel
theorem dX6_bringBack_1 : decode cX6_bringBack 1 = .ok (.aload_n 0, 1) := by decide +kernel
theorem dX6_bringBack_2 : decode cX6_bringBack 2 = .ok (.getfield 162, 3) := by decide +kernel
theorem dX6_bringBack_5 : decode cX6_bringBack 5 = .ok (.putfield 68, 3) := by decide +kernel
theorem dX6_bringBack_8 : decode cX6_bringBack 8 = .ok (.aload_n 0, 1) := by decide +kernel
theorem dX6_bringBack_9 : decode cX6_bringBack 9 = .ok (.aload_n 0, 1) := by decide +kernel
theorem dX6_bringBack_10 : decode cX6_bringBack 10 = .ok (.getfield 165, 3) := by decide +kernel
theorem dX6_bringBack_13 : decode cX6_bringBack 13 = .ok (.putfield 132, 3) := by decide +kernel
theorem dX6_bringBack_16 : decode cX6_bringBack 16 = .ok (.iconst 0, 1) := by decide +kernel
theorem dX6_bringBack_17 : decode cX6_bringBack 17 = .ok (.istore_n 1, 1) := by decide +kernel
theorem dX6_bringBack_18 : decode cX6_bringBack 18 = .ok (.iload_n 1, 1) := by decide +kernel
theorem dX6_bringBack_19 : decode cX6_bringBack 19 = .ok (.bipush 9, 2) := by decide +kernel
theorem dX6_bringBack_21 : decode cX6_bringBack 21 = .ok (.if_icmp .ge 45, 3) := by decide +kernel
theorem dX6_bringBack_24 : decode cX6_bringBack 24 = .ok (.aload_n 0, 1) := by decide +kernel
theorem dX6_bringBack_25 : decode cX6_bringBack 25 = .ok (.getfield 7, 3) := by decide +kernel
theorem dX6_bringBack_28 : decode cX6_bringBack 28 = .ok (.iload_n 1, 1) := by decide +kernel
theorem dX6_bringBack_29 : decode cX6_bringBack 29 = .ok (.aload_n 0, 1) := by decide +kernel
theorem dX6_bringBack_30 : decode cX6_bringBack 30 = .ok (.getfield 28, 3) := by decide +kernel
theorem dX6_bringBack_33 : decode cX6_bringBack 33 = .ok (.iload_n 1, 1) := by decide +kernel
theorem dX6_bringBack_34 : decode cX6_bringBack 34 = .ok (.iaload, 1) := by decide +kernel
theorem dX6_bringBack_35 : decode cX6_bringBack 35 = .ok (.iastore, 1) := by decide +kernel
theorem dX6_bringBack_36 : decode cX6_bringBack 36 = .ok (.aload_n 0, 1) := by decide +kernel
theorem dX6_bringBack_37 : decode cX6_bringBack 37 = .ok (.getfield 13, 3) := by decide +kernel
theorem dX6_bringBack_40 : decode cX6_bringBack 40 = .ok (.iload_n 1, 1) := by decide +kernel
theorem dX6_bringBack_41 : decode cX6_bringBack 41 = .ok (.aload_n 0, 1) := by decide +kernel
theorem dX6_bringBack_42 : decode cX6_bringBack 42 = .ok (.getfield 31, 3) := by decide +kernel
theorem dX6_bringBack_45 : decode cX6_bringBack 45 = .ok (.iload_n 1, 1) := by decide +kernel
theorem dX6_bringBack_46 : decode cX6_bringBack 46 = .ok (.iaload, 1) := by decide +kernel
theorem dX6_bringBack_47 : decode cX6_bringBack 47 = .ok (.iastore, 1) := by decide +kernel
theorem dX6_bringBack_48 : decode cX6_bringBack 48 = .ok (.aload_n 0, 1) := by decide +kernel
theorem dX6_bringBack_49 : decode cX6_bringBack 49 = .ok (.getfield 16, 3) := by decide +kernel
theorem dX6_bringBack_52 : decode cX6_bringBack 52 = .ok (.iload_n 1, 1) := by decide +kernel
theorem dX6_bringBack_53 : decode cX6_bringBack 53 = .ok (.aload_n 0, 1) := by decide +kernel
theorem dX6_bringBack_54 : decode cX6_bringBack 54 = .ok (.getfield 34, 3) := by decide +kernel
theorem dX6_bringBack_57 : decode cX6_bringBack 57 = .ok (.iload_n 1, 1) := by decide +kernel
theorem dX6_bringBack_58 : decode cX6_bringBack 58 = .ok (.iaload, 1) := by decide +kernel
theorem dX6_bringBack_59 : decode cX6_bringBack 59 = .ok (.iastore, 1) := by decide +kernel
theorem dX6_bringBack_60 : decode cX6_bringBack 60 = .ok (.iinc 1 1, 3) := by decide +kernel
theorem dX6_bringBack_63 : decode cX6_bringBack 63 = .ok (.goto (-45), 3) := by decide +kernel
theorem dX6_bringBack_66 : decode cX6_bringBack 66 = .ok (.return_, 1) := by decide +kernel
set_option maxRecDepth 20000 in
theorem ggX6_isPair_X6_in : GoodIn wsX6_isPair wsX6_in := goodIn_r _ [7] (by decide +kernel) (by decide +kernel)
set_option maxRecDepth 20000 in
theorem gX6_isPair_X6_in : GoodIn wsX6_isPair (va_wsS RX6 71 yX6_in wsX6_in) := goodIn_app (goodIn_of _ (by decide +kernel)) ggX6_isPair_X6_in
theorem dX6_isPair_0 : decode cX6_isPair 0 = .ok (.iload_n 1, 1) := by decide +kernel
theorem dX6_isPair_1 : decode cX6_isPair 1 = .ok (.i2l, 1) := by decide +kernel
theorem dX6_isPair_2 : decode cX6_isPair 2 = .ok (.lconst 0, 1) := by decide +kernel
theorem dX6_isPair_3 : decode cX6_isPair 3 = .ok (.ldc2_w 168, 3) := by decide +kernel
theorem dX6_isPair_6 : decode cX6_isPair 6 = .ok (.invokestatic 71, 3) := by decide +kernel
theorem dX6_isPair_9 : decode cX6_isPair 9 = .ok (.ifCond .eq 39, 3) := by decide +kernel
theorem dX6_isPair_12 : decode cX6_isPair 12 = .ok (.iload_n 0, 1) := by decide +kernel
theorem dX6_isPair_13 : decode cX6_isPair 13 = .ok (.i2l, 1) := by decide +kernel
theorem dX6_isPair_14 : decode cX6_isPair 14 = .ok (.lconst 0, 1) := by decide +kernel
theorem dX6_isPair_15 : decode cX6_isPair 15 = .ok (.iload_n 1, 1) := by decide +kernel
theorem dX6_isPair_16 : decode cX6_isPair 16 = .ok (.iconst 3, 1) := by decide +kernel
theorem dX6_isPair_17 : decode cX6_isPair 17 = .ok (.if_icmp .ge 9, 3) := by decide +kernel
theorem dX6_isPair_20 : decode cX6_isPair 20 = .ok (.ldc2_w 153, 3) := by decide +kernel
theorem dX6_isPair_23 : decode cX6_isPair 23 = .ok (.goto 15, 3) := by decide +kernel
theorem dX6_isPair_26 : decode cX6_isPair 26 = .ok (.iload_n 1, 1) := by decide +kernel
theorem dX6_isPair_27 : decode cX6_isPair 27 = .ok (.iconst 3, 1) := by decide +kernel
theorem dX6_isPair_28 : decode cX6_isPair 28 = .ok (.if_icmp .ne 9, 3) := by decide +kernel
theorem dX6_isPair_31 : decode cX6_isPair 31 = .ok (.ldc2_w 160, 3) := by decide +kernel
theorem dX6_isPair_34 : decode cX6_isPair 34 = .ok (.goto 4, 3) := by decide +kernel
theorem dX6_isPair_37 : decode cX6_isPair 37 = .ok (.lconst 0, 1) := by decide +kernel
theorem dX6_isPair_38 : decode cX6_isPair 38 = .ok (.invokestatic 71, 3) := by decide +kernel
theorem dX6_isPair_41 : decode cX6_isPair 41 = .ok (.ifCond .eq 7, 3) := by decide +kernel
theorem dX6_isPair_44 : decode cX6_isPair 44 = .ok (.iconst 1, 1) := by decide +kernel
theorem dX6_isPair_45 : decode cX6_isPair 45 = .ok (.goto 4, 3) := by decide +kernel
theorem dX6_isPair_48 : decode cX6_isPair 48 = .ok (.iconst 0, 1) := by decide +kernel
theorem dX6_isPair_49 : decode cX6_isPair 49 = .ok (.ireturn, 1) := by decide +kernel
set_option maxRecDepth 20000 in
theorem ggX6_centuryBy_X6_threw : GoodIn wsX6_centuryBy wsX6_threw := goodIn_r _ [8, 2, 9, 10, 11, 3, 36, 37, 38, 39, 40, 41, 42, 43, 44, 45, 46, 47, 48, 49, 50, 51, 52, 53, 54, 55, 56, 57, 58, 59, 60, 61, 62, 63, 64, 65] (by decide +kernel) (by decide +kernel)
set_option maxRecDepth 20000 in
theorem gX6_centuryBy_X6_threw : GoodIn wsX6_centuryBy (wsV RX6 157 RX6 yX6_threw wsX6_threw) := goodIn_app (goodIn_of _ (by decide +kernel)) ggX6_centuryBy_X6_threw
set_option maxRecDepth 20000 in
theorem ggX6_centuryBy_X6_wishOf : GoodIn wsX6_centuryBy wsX6_wishOf := goodIn_r _ [15, 11, 16, 17, 18, 7, 19, 9, 10, 20, 21, 22, 23, 24, 25, 26, 27, 28, 36, 37, 38, 39, 40, 41, 42, 43, 44, 45, 46, 47, 48, 49, 50, 51, 52, 53, 54, 55, 56, 57, 58, 59, 60, 61, 62, 63, 64, 65] (by decide +kernel) (by decide +kernel)
set_option maxRecDepth 20000 in
theorem gX6_centuryBy_X6_wishOf : GoodIn wsX6_centuryBy (wsV RX6 150 RX6 yX6_wishOf wsX6_wishOf) := goodIn_app (goodIn_of _ (by decide +kernel)) ggX6_centuryBy_X6_wishOf
set_option maxRecDepth 20000 in
theorem ggX6_centuryBy_X6_noPin : GoodIn wsX6_centuryBy wsX6_noPin := goodIn_r _ [32, 2, 33, 34, 7, 35, 36, 37, 38, 39, 40, 41, 42, 43, 44, 45, 46, 47, 48, 49, 50, 51, 52, 53, 54, 55, 56, 57, 58, 59, 60, 61, 62, 63, 64, 65] (by decide +kernel) (by decide +kernel)
set_option maxRecDepth 20000 in
theorem gX6_centuryBy_X6_noPin : GoodIn wsX6_centuryBy (wsV RX6 147 RX6 yX6_noPin wsX6_noPin) := goodIn_app (goodIn_of _ (by decide +kernel)) ggX6_centuryBy_X6_noPin
theorem dX6_centuryBy_0 : decode cX6_centuryBy 0 = .ok (.bipush (-9), 2) := by decide +kernel
theorem dX6_centuryBy_2 : decode cX6_centuryBy 2 = .ok (.istore 4, 2) := by decide +kernel
theorem dX6_centuryBy_4 : decode cX6_centuryBy 4 = .ok (.iconst 0, 1) := by decide +kernel
theorem dX6_centuryBy_5 : decode cX6_centuryBy 5 = .ok (.istore 5, 2) := by decide +kernel
theorem dX6_centuryBy_7 : decode cX6_centuryBy 7 = .ok (.iconst 0, 1) := by decide +kernel
theorem dX6_centuryBy_8 : decode cX6_centuryBy 8 = .ok (.istore 6, 2) := by decide +kernel
theorem dX6_centuryBy_10 : decode cX6_centuryBy 10 = .ok (.iload 6, 2) := by decide +kernel
theorem dX6_centuryBy_12 : decode cX6_centuryBy 12 = .ok (.iload_n 2, 1) := by decide +kernel
theorem dX6_centuryBy_13 : decode cX6_centuryBy 13 = .ok (.if_icmp .ge 184, 3) := by decide +kernel
theorem dX6_centuryBy_16 : decode cX6_centuryBy 16 = .ok (.iload 4, 2) := by decide +kernel
theorem dX6_centuryBy_18 : decode cX6_centuryBy 18 = .ok (.ifCond .ge 179, 3) := by decide +kernel
theorem dX6_centuryBy_21 : decode cX6_centuryBy 21 = .ok (.aload_n 0, 1) := by decide +kernel
theorem dX6_centuryBy_22 : decode cX6_centuryBy 22 = .ok (.getfield 52, 3) := by decide +kernel
theorem dX6_centuryBy_25 : decode cX6_centuryBy 25 = .ok (.iload_n 1, 1) := by decide +kernel
theorem dX6_centuryBy_26 : decode cX6_centuryBy 26 = .ok (.iconst 2, 1) := by decide +kernel
theorem dX6_centuryBy_27 : decode cX6_centuryBy 27 = .ok (.iload 6, 2) := by decide +kernel
theorem dX6_centuryBy_29 : decode cX6_centuryBy 29 = .ok (.imul, 1) := by decide +kernel
theorem dX6_centuryBy_30 : decode cX6_centuryBy 30 = .ok (.iadd, 1) := by decide +kernel
theorem dX6_centuryBy_31 : decode cX6_centuryBy 31 = .ok (.iaload, 1) := by decide +kernel
theorem dX6_centuryBy_32 : decode cX6_centuryBy 32 = .ok (.istore 7, 2) := by decide +kernel
theorem dX6_centuryBy_34 : decode cX6_centuryBy 34 = .ok (.aload_n 0, 1) := by decide +kernel
theorem dX6_centuryBy_35 : decode cX6_centuryBy 35 = .ok (.getfield 52, 3) := by decide +kernel
theorem dX6_centuryBy_38 : decode cX6_centuryBy 38 = .ok (.iload_n 1, 1) := by decide +kernel
theorem dX6_centuryBy_39 : decode cX6_centuryBy 39 = .ok (.iconst 2, 1) := by decide +kernel
theorem dX6_centuryBy_40 : decode cX6_centuryBy 40 = .ok (.iload 6, 2) := by decide +kernel
theorem dX6_centuryBy_42 : decode cX6_centuryBy 42 = .ok (.imul, 1) := by decide +kernel
theorem dX6_centuryBy_43 : decode cX6_centuryBy 43 = .ok (.iadd, 1) := by decide +kernel
theorem dX6_centuryBy_44 : decode cX6_centuryBy 44 = .ok (.iconst 1, 1) := by decide +kernel
theorem dX6_centuryBy_45 : decode cX6_centuryBy 45 = .ok (.iadd, 1) := by decide +kernel
theorem dX6_centuryBy_46 : decode cX6_centuryBy 46 = .ok (.iaload, 1) := by decide +kernel
theorem dX6_centuryBy_47 : decode cX6_centuryBy 47 = .ok (.istore 8, 2) := by decide +kernel
theorem dX6_centuryBy_49 : decode cX6_centuryBy 49 = .ok (.iload 8, 2) := by decide +kernel
theorem dX6_centuryBy_51 : decode cX6_centuryBy 51 = .ok (.iconst 3, 1) := by decide +kernel
theorem dX6_centuryBy_52 : decode cX6_centuryBy 52 = .ok (.if_icmp .ge 14, 3) := by decide +kernel
theorem dX6_centuryBy_55 : decode cX6_centuryBy 55 = .ok (.aload_n 0, 1) := by decide +kernel
theorem dX6_centuryBy_56 : decode cX6_centuryBy 56 = .ok (.iload 8, 2) := by decide +kernel
theorem dX6_centuryBy_58 : decode cX6_centuryBy 58 = .ok (.iload 7, 2) := by decide +kernel
theorem dX6_centuryBy_60 : decode cX6_centuryBy 60 = .ok (.invokevirtual 157, 3) := by decide +kernel
theorem dX6_centuryBy_63 : decode cX6_centuryBy 63 = .ok (.goto 22, 3) := by decide +kernel
theorem dX6_centuryBy_66 : decode cX6_centuryBy 66 = .ok (.iload 8, 2) := by decide +kernel
theorem dX6_centuryBy_68 : decode cX6_centuryBy 68 = .ok (.iconst 3, 1) := by decide +kernel
theorem dX6_centuryBy_69 : decode cX6_centuryBy 69 = .ok (.if_icmp .eq 11, 3) := by decide +kernel
theorem dX6_centuryBy_72 : decode cX6_centuryBy 72 = .ok (.aload_n 0, 1) := by decide +kernel
theorem dX6_centuryBy_73 : decode cX6_centuryBy 73 = .ok (.getfield 68, 3) := by decide +kernel
theorem dX6_centuryBy_76 : decode cX6_centuryBy 76 = .ok (.iconst 1, 1) := by decide +kernel
theorem dX6_centuryBy_77 : decode cX6_centuryBy 77 = .ok (.if_icmp .le 7, 3) := by decide +kernel
theorem dX6_centuryBy_80 : decode cX6_centuryBy 80 = .ok (.iconst 1, 1) := by decide +kernel
theorem dX6_centuryBy_81 : decode cX6_centuryBy 81 = .ok (.goto 4, 3) := by decide +kernel
theorem dX6_centuryBy_84 : decode cX6_centuryBy 84 = .ok (.iconst 0, 1) := by decide +kernel
theorem dX6_centuryBy_85 : decode cX6_centuryBy 85 = .ok (.istore 9, 2) := by decide +kernel
theorem dX6_centuryBy_87 : decode cX6_centuryBy 87 = .ok (.iload 5, 2) := by decide +kernel
theorem dX6_centuryBy_89 : decode cX6_centuryBy 89 = .ok (.iload 8, 2) := by decide +kernel
theorem dX6_centuryBy_91 : decode cX6_centuryBy 91 = .ok (.iconst 3, 1) := by decide +kernel
theorem dX6_centuryBy_92 : decode cX6_centuryBy 92 = .ok (.if_icmp .ge 35, 3) := by decide +kernel
theorem dX6_centuryBy_95 : decode cX6_centuryBy 95 = .ok (.iload 9, 2) := by decide +kernel
theorem dX6_centuryBy_97 : decode cX6_centuryBy 97 = .ok (.ifCond .eq 30, 3) := by decide +kernel
theorem dX6_centuryBy_100 : decode cX6_centuryBy 100 = .ok (.aload_n 0, 1) := by decide +kernel
theorem dX6_centuryBy_101 : decode cX6_centuryBy 101 = .ok (.aload_n 0, 1) := by decide +kernel
theorem dX6_centuryBy_102 : decode cX6_centuryBy 102 = .ok (.getfield 68, 3) := by decide +kernel
theorem dX6_centuryBy_105 : decode cX6_centuryBy 105 = .ok (.iconst 1, 1) := by decide +kernel
theorem dX6_centuryBy_106 : decode cX6_centuryBy 106 = .ok (.isub, 1) := by decide +kernel
theorem dX6_centuryBy_107 : decode cX6_centuryBy 107 = .ok (.invokevirtual 150, 3) := by decide +kernel
theorem dX6_centuryBy_110 : decode cX6_centuryBy 110 = .ok (.aload_n 0, 1) := by decide +kernel
theorem dX6_centuryBy_111 : decode cX6_centuryBy 111 = .ok (.aload_n 0, 1) := by decide +kernel
theorem dX6_centuryBy_112 : decode cX6_centuryBy 112 = .ok (.getfield 68, 3) := by decide +kernel
theorem dX6_centuryBy_115 : decode cX6_centuryBy 115 = .ok (.iconst 2, 1) := by decide +kernel
theorem dX6_centuryBy_116 : decode cX6_centuryBy 116 = .ok (.isub, 1) := by decide +kernel
theorem dX6_centuryBy_117 : decode cX6_centuryBy 117 = .ok (.invokevirtual 150, 3) := by decide +kernel
theorem dX6_centuryBy_120 : decode cX6_centuryBy 120 = .ok (.if_icmp .ne 7, 3) := by decide +kernel
theorem dX6_centuryBy_123 : decode cX6_centuryBy 123 = .ok (.iconst 1, 1) := by decide +kernel
theorem dX6_centuryBy_124 : decode cX6_centuryBy 124 = .ok (.goto 4, 3) := by decide +kernel
theorem dX6_centuryBy_127 : decode cX6_centuryBy 127 = .ok (.iconst 0, 1) := by decide +kernel
theorem dX6_centuryBy_128 : decode cX6_centuryBy 128 = .ok (.iadd, 1) := by decide +kernel
theorem dX6_centuryBy_129 : decode cX6_centuryBy 129 = .ok (.istore 5, 2) := by decide +kernel
theorem dX6_centuryBy_131 : decode cX6_centuryBy 131 = .ok (.aload_n 0, 1) := by decide +kernel
theorem dX6_centuryBy_132 : decode cX6_centuryBy 132 = .ok (.dup, 1) := by decide +kernel
theorem dX6_centuryBy_133 : decode cX6_centuryBy 133 = .ok (.getfield 132, 3) := by decide +kernel
theorem dX6_centuryBy_136 : decode cX6_centuryBy 136 = .ok (.iload 8, 2) := by decide +kernel
theorem dX6_centuryBy_138 : decode cX6_centuryBy 138 = .ok (.iconst 3, 1) := by decide +kernel
theorem dX6_centuryBy_139 : decode cX6_centuryBy 139 = .ok (.if_icmp .ne 8, 3) := by decide +kernel
theorem dX6_centuryBy_142 : decode cX6_centuryBy 142 = .ok (.iload 7, 2) := by decide +kernel
theorem dX6_centuryBy_144 : decode cX6_centuryBy 144 = .ok (.goto 4, 3) := by decide +kernel
theorem dX6_centuryBy_147 : decode cX6_centuryBy 147 = .ok (.iconst 0, 1) := by decide +kernel
theorem dX6_centuryBy_148 : decode cX6_centuryBy 148 = .ok (.iadd, 1) := by decide +kernel
theorem dX6_centuryBy_149 : decode cX6_centuryBy 149 = .ok (.putfield 132, 3) := by decide +kernel
theorem dX6_centuryBy_152 : decode cX6_centuryBy 152 = .ok (.aload_n 0, 1) := by decide +kernel
theorem dX6_centuryBy_153 : decode cX6_centuryBy 153 = .ok (.dup, 1) := by decide +kernel
theorem dX6_centuryBy_154 : decode cX6_centuryBy 154 = .ok (.getfield 68, 3) := by decide +kernel
theorem dX6_centuryBy_157 : decode cX6_centuryBy 157 = .ok (.iload 8, 2) := by decide +kernel
theorem dX6_centuryBy_159 : decode cX6_centuryBy 159 = .ok (.iconst 4, 1) := by decide +kernel
theorem dX6_centuryBy_160 : decode cX6_centuryBy 160 = .ok (.if_icmp .ne 12, 3) := by decide +kernel
theorem dX6_centuryBy_163 : decode cX6_centuryBy 163 = .ok (.iload 9, 2) := by decide +kernel
theorem dX6_centuryBy_165 : decode cX6_centuryBy 165 = .ok (.ifCond .eq 7, 3) := by decide +kernel
theorem dX6_centuryBy_168 : decode cX6_centuryBy 168 = .ok (.iconst 1, 1) := by decide +kernel
theorem dX6_centuryBy_169 : decode cX6_centuryBy 169 = .ok (.goto 4, 3) := by decide +kernel
theorem dX6_centuryBy_172 : decode cX6_centuryBy 172 = .ok (.iconst 0, 1) := by decide +kernel
theorem dX6_centuryBy_173 : decode cX6_centuryBy 173 = .ok (.isub, 1) := by decide +kernel
theorem dX6_centuryBy_174 : decode cX6_centuryBy 174 = .ok (.putfield 68, 3) := by decide +kernel
theorem dX6_centuryBy_177 : decode cX6_centuryBy 177 = .ok (.iload 9, 2) := by decide +kernel
theorem dX6_centuryBy_179 : decode cX6_centuryBy 179 = .ok (.ifCond .eq 8, 3) := by decide +kernel
theorem dX6_centuryBy_182 : decode cX6_centuryBy 182 = .ok (.bipush (-9), 2) := by decide +kernel
theorem dX6_centuryBy_184 : decode cX6_centuryBy 184 = .ok (.goto 5, 3) := by decide +kernel
theorem dX6_centuryBy_187 : decode cX6_centuryBy 187 = .ok (.iload 6, 2) := by decide +kernel
theorem dX6_centuryBy_189 : decode cX6_centuryBy 189 = .ok (.istore 4, 2) := by decide +kernel
theorem dX6_centuryBy_191 : decode cX6_centuryBy 191 = .ok (.iinc 6 1, 3) := by decide +kernel
theorem dX6_centuryBy_194 : decode cX6_centuryBy 194 = .ok (.goto (-184), 3) := by decide +kernel
theorem dX6_centuryBy_197 : decode cX6_centuryBy 197 = .ok (.iload_n 3, 1) := by decide +kernel
theorem dX6_centuryBy_198 : decode cX6_centuryBy 198 = .ok (.iconst 1, 1) := by decide +kernel
theorem dX6_centuryBy_199 : decode cX6_centuryBy 199 = .ok (.if_icmp .ne 6, 3) := by decide +kernel
theorem dX6_centuryBy_202 : decode cX6_centuryBy 202 = .ok (.iload 4, 2) := by decide +kernel
theorem dX6_centuryBy_204 : decode cX6_centuryBy 204 = .ok (.ireturn, 1) := by decide +kernel
theorem dX6_centuryBy_205 : decode cX6_centuryBy 205 = .ok (.iload 4, 2) := by decide +kernel
theorem dX6_centuryBy_207 : decode cX6_centuryBy 207 = .ok (.ifCond .lt 9, 3) := by decide +kernel
theorem dX6_centuryBy_210 : decode cX6_centuryBy 210 = .ok (.bipush (-100), 2) := by decide +kernel
theorem dX6_centuryBy_212 : decode cX6_centuryBy 212 = .ok (.iload 4, 2) := by decide +kernel
theorem dX6_centuryBy_214 : decode cX6_centuryBy 214 = .ok (.isub, 1) := by decide +kernel
theorem dX6_centuryBy_215 : decode cX6_centuryBy 215 = .ok (.ireturn, 1) := by decide +kernel
theorem dX6_centuryBy_216 : decode cX6_centuryBy 216 = .ok (.iload_n 3, 1) := by decide +kernel
theorem dX6_centuryBy_217 : decode cX6_centuryBy 217 = .ok (.bipush 10, 2) := by decide +kernel
theorem dX6_centuryBy_219 : decode cX6_centuryBy 219 = .ok (.if_icmp .lt 28, 3) := by decide +kernel
theorem dX6_centuryBy_222 : decode cX6_centuryBy 222 = .ok (.aload_n 0, 1) := by decide +kernel
theorem dX6_centuryBy_223 : decode cX6_centuryBy 223 = .ok (.iload_n 3, 1) := by decide +kernel
theorem dX6_centuryBy_224 : decode cX6_centuryBy 224 = .ok (.bipush 10, 2) := by decide +kernel
theorem dX6_centuryBy_226 : decode cX6_centuryBy 226 = .ok (.isub, 1) := by decide +kernel
theorem dX6_centuryBy_227 : decode cX6_centuryBy 227 = .ok (.invokevirtual 147, 3) := by decide +kernel
theorem dX6_centuryBy_230 : decode cX6_centuryBy 230 = .ok (.ifCond .eq 8, 3) := by decide +kernel
theorem dX6_centuryBy_233 : decode cX6_centuryBy 233 = .ok (.bipush (-9), 2) := by decide +kernel
theorem dX6_centuryBy_235 : decode cX6_centuryBy 235 = .ok (.goto 11, 3) := by decide +kernel
theorem dX6_centuryBy_238 : decode cX6_centuryBy 238 = .ok (.aload_n 0, 1) := by decide +kernel
theorem dX6_centuryBy_239 : decode cX6_centuryBy 239 = .ok (.iload_n 3, 1) := by decide +kernel
theorem dX6_centuryBy_240 : decode cX6_centuryBy 240 = .ok (.bipush 10, 2) := by decide +kernel
theorem dX6_centuryBy_242 : decode cX6_centuryBy 242 = .ok (.isub, 1) := by decide +kernel
theorem dX6_centuryBy_243 : decode cX6_centuryBy 243 = .ok (.invokevirtual 150, 3) := by decide +kernel
theorem dX6_centuryBy_246 : decode cX6_centuryBy 246 = .ok (.ireturn, 1) := by decide +kernel
theorem dX6_centuryBy_247 : decode cX6_centuryBy 247 = .ok (.iconst 0, 1) := by decide +kernel
theorem dX6_centuryBy_248 : decode cX6_centuryBy 248 = .ok (.istore 6, 2) := by decide +kernel
theorem dX6_centuryBy_250 : decode cX6_centuryBy 250 = .ok (.iconst 0, 1) := by decide +kernel
theorem dX6_centuryBy_251 : decode cX6_centuryBy 251 = .ok (.istore 7, 2) := by decide +kernel
theorem dX6_centuryBy_253 : decode cX6_centuryBy 253 = .ok (.iload 7, 2) := by decide +kernel
theorem dX6_centuryBy_255 : decode cX6_centuryBy 255 = .ok (.aload_n 0, 1) := by decide +kernel
theorem dX6_centuryBy_256 : decode cX6_centuryBy 256 = .ok (.getfield 68, 3) := by decide +kernel
theorem dX6_centuryBy_259 : decode cX6_centuryBy 259 = .ok (.if_icmp .ge 22, 3) := by decide +kernel
theorem dX6_centuryBy_262 : decode cX6_centuryBy 262 = .ok (.iload 6, 2) := by decide +kernel
theorem dX6_centuryBy_264 : decode cX6_centuryBy 264 = .ok (.iconst 1, 1) := by decide +kernel
theorem dX6_centuryBy_265 : decode cX6_centuryBy 265 = .ok (.aload_n 0, 1) := by decide +kernel
theorem dX6_centuryBy_266 : decode cX6_centuryBy 266 = .ok (.iload 7, 2) := by decide +kernel
theorem dX6_centuryBy_268 : decode cX6_centuryBy 268 = .ok (.invokevirtual 150, 3) := by decide +kernel
theorem dX6_centuryBy_271 : decode cX6_centuryBy 271 = .ok (.ishl, 1) := by decide +kernel
theorem dX6_centuryBy_272 : decode cX6_centuryBy 272 = .ok (.ior, 1) := by decide +kernel
theorem dX6_centuryBy_273 : decode cX6_centuryBy 273 = .ok (.istore 6, 2) := by decide +kernel
theorem dX6_centuryBy_275 : decode cX6_centuryBy 275 = .ok (.iinc 7 1, 3) := by decide +kernel
theorem dX6_centuryBy_278 : decode cX6_centuryBy 278 = .ok (.goto (-25), 3) := by decide +kernel
theorem dX6_centuryBy_281 : decode cX6_centuryBy 281 = .ok (.iload_n 3, 1) := by decide +kernel
theorem dX6_centuryBy_282 : decode cX6_centuryBy 282 = .ok (.ifCond .ne 10, 3) := by decide +kernel
theorem dX6_centuryBy_285 : decode cX6_centuryBy 285 = .ok (.aload_n 0, 1) := by decide +kernel
theorem dX6_centuryBy_286 : decode cX6_centuryBy 286 = .ok (.getfield 68, 3) := by decide +kernel
theorem dX6_centuryBy_289 : decode cX6_centuryBy 289 = .ok (.goto 27, 3) := by decide +kernel
theorem dX6_centuryBy_292 : decode cX6_centuryBy 292 = .ok (.iload_n 3, 1) := by decide +kernel
theorem dX6_centuryBy_293 : decode cX6_centuryBy 293 = .ok (.iconst 2, 1) := by decide +kernel
theorem dX6_centuryBy_294 : decode cX6_centuryBy 294 = .ok (.if_icmp .ne 8, 3) := by decide +kernel
theorem dX6_centuryBy_297 : decode cX6_centuryBy 297 = .ok (.iload 5, 2) := by decide +kernel
theorem dX6_centuryBy_299 : decode cX6_centuryBy 299 = .ok (.goto 17, 3) := by decide +kernel
theorem dX6_centuryBy_302 : decode cX6_centuryBy 302 = .ok (.iload_n 3, 1) := by decide +kernel
theorem dX6_centuryBy_303 : decode cX6_centuryBy 303 = .ok (.iconst 3, 1) := by decide +kernel
theorem dX6_centuryBy_304 : decode cX6_centuryBy 304 = .ok (.if_icmp .ne 10, 3) := by decide +kernel
theorem dX6_centuryBy_307 : decode cX6_centuryBy 307 = .ok (.aload_n 0, 1) := by decide +kernel
theorem dX6_centuryBy_308 : decode cX6_centuryBy 308 = .ok (.getfield 132, 3) := by decide +kernel
theorem dX6_centuryBy_311 : decode cX6_centuryBy 311 = .ok (.goto 5, 3) := by decide +kernel
theorem dX6_centuryBy_314 : decode cX6_centuryBy 314 = .ok (.iload 6, 2) := by decide +kernel
theorem dX6_centuryBy_316 : decode cX6_centuryBy 316 = .ok (.ireturn, 1) := by decide +kernel
set_option maxRecDepth 20000 in
theorem ggX6_century_X6_noSheet : GoodIn wsX6_century wsX6_noSheet := goodIn_r _ [11, 12, 13, 14, 10, 15] (by decide +kernel) (by decide +kernel)
set_option maxRecDepth 20000 in
theorem gX6_century_X6_noSheet : GoodIn wsX6_century (va_wsS RX6 110 yX6_noSheet wsX6_noSheet) := goodIn_app (goodIn_of _ (by decide +kernel)) ggX6_century_X6_noSheet
set_option maxRecDepth 20000 in
theorem ggX6_century_X6_refused : GoodIn wsX6_century wsX6_refused := goodIn_r _ [19, 20, 85, 86, 87, 88, 89, 90, 91, 92, 93, 94, 95, 96, 97, 98, 99, 100, 101, 102, 103, 104, 105, 106, 107, 108, 109, 110, 111, 112, 113, 114] (by decide +kernel) (by decide +kernel)
set_option maxRecDepth 20000 in
theorem gX6_century_X6_refused : GoodIn wsX6_century (wsV RX6 114 RX6 yX6_refused wsX6_refused) := goodIn_app (goodIn_of _ (by decide +kernel)) ggX6_century_X6_refused
set_option maxRecDepth 20000 in
theorem ggX6_century_X6_in : GoodIn wsX6_century wsX6_in := goodIn_r _ [15] (by decide +kernel) (by decide +kernel)
set_option maxRecDepth 20000 in
theorem gX6_century_X6_in : GoodIn wsX6_century (va_wsS RX6 71 yX6_in wsX6_in) := goodIn_app (goodIn_of _ (by decide +kernel)) ggX6_century_X6_in
set_option maxRecDepth 20000 in
theorem ggX6_century_X6_cellsBarred : GoodIn wsX6_century wsX6_cellsBarred := goodIn_r _ [24, 25, 26, 27, 28, 29, 10, 30, 20, 31, 32, 33, 85, 86, 87, 88, 89, 90, 91, 92, 93, 94, 95, 96, 97, 98, 99, 100, 101, 102, 103, 104, 105, 106, 107, 108, 109, 110, 111, 112, 113, 114] (by decide +kernel) (by decide +kernel)
set_option maxRecDepth 20000 in
theorem gX6_century_X6_cellsBarred : GoodIn wsX6_century (wsV RX6 119 RX6 yX6_cellsBarred wsX6_cellsBarred) := goodIn_app (goodIn_of _ (by decide +kernel)) ggX6_century_X6_cellsBarred
set_option maxRecDepth 20000 in
theorem ggX6_century_X6_isPair : GoodIn wsX6_century wsX6_isPair := goodIn_r _ [36, 3, 37, 38, 13, 14, 10, 15] (by decide +kernel) (by decide +kernel)
set_option maxRecDepth 20000 in
theorem gX6_century_X6_isPair : GoodIn wsX6_century (va_wsS RX6 176 yX6_isPair wsX6_isPair) := goodIn_app (goodIn_of _ (by decide +kernel)) ggX6_century_X6_isPair
set_option maxRecDepth 20000 in
theorem ggX6_century_X6_keepAll : GoodIn wsX6_century wsX6_keepAll := goodIn_r _ [42, 6, 43, 44, 45, 46, 47, 48, 49, 50, 51, 85, 86, 87, 88, 89, 90, 91, 92, 93, 94, 95, 96, 97, 98, 99, 100, 101, 102, 103, 104, 105, 106, 107, 108, 109, 110, 111, 112, 113, 114] (by decide +kernel) (by decide +kernel)
set_option maxRecDepth 20000 in
theorem gX6_century_X6_keepAll : GoodIn wsX6_century (wsV RX6 179 RX6 yX6_keepAll wsX6_keepAll) := goodIn_app (goodIn_of _ (by decide +kernel)) ggX6_century_X6_keepAll
set_option maxRecDepth 20000 in
theorem ggX6_century_X6_centuryBy : GoodIn wsX6_century wsX6_centuryBy := goodIn_r _ [55, 7, 6, 44, 56, 57, 58, 10, 59, 47, 49, 51, 60, 61, 62, 63, 64, 65, 66, 67, 68, 69, 70, 71, 72, 73, 74, 75, 76, 77, 78, 79, 80, 13, 14, 15, 85, 86, 87, 88, 89, 90, 91, 92, 93, 94, 95, 96, 97, 98, 99, 100, 101, 102, 103, 104, 105, 106, 107, 108, 109, 110, 111, 112, 113, 114] (by decide +kernel) (by decide +kernel)
set_option maxRecDepth 20000 in
theorem gX6_century_X6_centuryBy : GoodIn wsX6_century (wsV RX6 182 RX6 yX6_centuryBy wsX6_centuryBy) := goodIn_app (goodIn_of _ (by decide +kernel)) ggX6_century_X6_centuryBy
set_option maxRecDepth 20000 in
theorem ggX6_century_X6_bringBack : GoodIn wsX6_century wsX6_bringBack := goodIn_r _ [84, 43, 6, 45, 44, 47, 46, 49, 48, 51, 50, 85, 86, 87, 88, 89, 90, 91, 92, 93, 94, 95, 96, 97, 98, 99, 100, 101, 102, 103, 104, 105, 106, 107, 108, 109, 110, 111, 112, 113, 114] (by decide +kernel) (by decide +kernel)
set_option maxRecDepth 20000 in
theorem gX6_century_X6_bringBack : GoodIn wsX6_century (wsV RX6 186 RX6 yX6_bringBack wsX6_bringBack) := goodIn_app (goodIn_of _ (by decide +kernel)) ggX6_century_X6_bringBack
theorem dX6_century_0 : decode cX6_century 0 = .ok (.iload_n 1, 1) := by decide +kernel
theorem dX6_century_1 : decode cX6_century 1 = .ok (.invokestatic 110, 3) := by decide +kernel
theorem dX6_century_4 : decode cX6_century 4 = .ok (.ifCond .eq 9, 3) := by decide +kernel
theorem dX6_century_7 : decode cX6_century 7 = .ok (.aload_n 0, 1) := by decide +kernel
theorem dX6_century_8 : decode cX6_century 8 = .ok (.iconst (-1), 1) := by decide +kernel
theorem dX6_century_9 : decode cX6_century 9 = .ok (.invokevirtual 114, 3) := by decide +kernel
theorem dX6_century_12 : decode cX6_century 12 = .ok (.ireturn, 1) := by decide +kernel
theorem dX6_century_13 : decode cX6_century 13 = .ok (.iload_n 2, 1) := by decide +kernel
theorem dX6_century_14 : decode cX6_century 14 = .ok (.i2l, 1) := by decide +kernel
theorem dX6_century_15 : decode cX6_century 15 = .ok (.lconst 0, 1) := by decide +kernel
theorem dX6_century_16 : decode cX6_century 16 = .ok (.ldc2_w 117, 3) := by decide +kernel
theorem dX6_century_19 : decode cX6_century 19 = .ok (.invokestatic 71, 3) := by decide +kernel
theorem dX6_century_22 : decode cX6_century 22 = .ok (.ifCond .eq 44, 3) := by decide +kernel
theorem dX6_century_25 : decode cX6_century 25 = .ok (.iload 4, 2) := by decide +kernel
theorem dX6_century_27 : decode cX6_century 27 = .ok (.i2l, 1) := by decide +kernel
theorem dX6_century_28 : decode cX6_century 28 = .ok (.lconst 0, 1) := by decide +kernel
theorem dX6_century_29 : decode cX6_century 29 = .ok (.ldc2_w 170, 3) := by decide +kernel
theorem dX6_century_32 : decode cX6_century 32 = .ok (.invokestatic 71, 3) := by decide +kernel
theorem dX6_century_35 : decode cX6_century 35 = .ok (.ifCond .eq 31, 3) := by decide +kernel
theorem dX6_century_38 : decode cX6_century 38 = .ok (.iload 5, 2) := by decide +kernel
theorem dX6_century_40 : decode cX6_century 40 = .ok (.i2l, 1) := by decide +kernel
theorem dX6_century_41 : decode cX6_century 41 = .ok (.lconst 0, 1) := by decide +kernel
theorem dX6_century_42 : decode cX6_century 42 = .ok (.ldc2_w 168, 3) := by decide +kernel
theorem dX6_century_45 : decode cX6_century 45 = .ok (.invokestatic 71, 3) := by decide +kernel
theorem dX6_century_48 : decode cX6_century 48 = .ok (.ifCond .ne 25, 3) := by decide +kernel
theorem dX6_century_51 : decode cX6_century 51 = .ok (.iload 5, 2) := by decide +kernel
theorem dX6_century_53 : decode cX6_century 53 = .ok (.i2l, 1) := by decide +kernel
theorem dX6_century_54 : decode cX6_century 54 = .ok (.ldc2_w 172, 3) := by decide +kernel
theorem dX6_century_57 : decode cX6_century 57 = .ok (.ldc2_w 174, 3) := by decide +kernel
theorem dX6_century_60 : decode cX6_century 60 = .ok (.invokestatic 71, 3) := by decide +kernel
theorem dX6_century_63 : decode cX6_century 63 = .ok (.ifCond .ne 10, 3) := by decide +kernel
theorem dX6_century_66 : decode cX6_century 66 = .ok (.aload_n 0, 1) := by decide +kernel
theorem dX6_century_67 : decode cX6_century 67 = .ok (.bipush (-2), 2) := by decide +kernel
theorem dX6_century_69 : decode cX6_century 69 = .ok (.invokevirtual 114, 3) := by decide +kernel
theorem dX6_century_72 : decode cX6_century 72 = .ok (.ireturn, 1) := by decide +kernel
theorem dX6_century_73 : decode cX6_century 73 = .ok (.aload_n 0, 1) := by decide +kernel
theorem dX6_century_74 : decode cX6_century 74 = .ok (.getfield 68, 3) := by decide +kernel
theorem dX6_century_77 : decode cX6_century 77 = .ok (.ifCond .ne 10, 3) := by decide +kernel
theorem dX6_century_80 : decode cX6_century 80 = .ok (.aload_n 0, 1) := by decide +kernel
theorem dX6_century_81 : decode cX6_century 81 = .ok (.bipush (-3), 2) := by decide +kernel
theorem dX6_century_83 : decode cX6_century 83 = .ok (.invokevirtual 114, 3) := by decide +kernel
theorem dX6_century_86 : decode cX6_century 86 = .ok (.ireturn, 1) := by decide +kernel
theorem dX6_century_87 : decode cX6_century 87 = .ok (.aload_n 0, 1) := by decide +kernel
theorem dX6_century_88 : decode cX6_century 88 = .ok (.iload_n 1, 1) := by decide +kernel
theorem dX6_century_89 : decode cX6_century 89 = .ok (.iload_n 2, 1) := by decide +kernel
theorem dX6_century_90 : decode cX6_century 90 = .ok (.iload_n 3, 1) := by decide +kernel
theorem dX6_century_91 : decode cX6_century 91 = .ok (.ldc2_w 117, 3) := by decide +kernel
theorem dX6_century_94 : decode cX6_century 94 = .ok (.iload 4, 2) := by decide +kernel
theorem dX6_century_96 : decode cX6_century 96 = .ok (.i2l, 1) := by decide +kernel
theorem dX6_century_97 : decode cX6_century 97 = .ok (.lmul, 1) := by decide +kernel
theorem dX6_century_98 : decode cX6_century 98 = .ok (.invokevirtual 119, 3) := by decide +kernel
theorem dX6_century_101 : decode cX6_century 101 = .ok (.istore 6, 2) := by decide +kernel
theorem dX6_century_103 : decode cX6_century 103 = .ok (.iload 6, 2) := by decide +kernel
theorem dX6_century_105 : decode cX6_century 105 = .ok (.ifCond .ge 6, 3) := by decide +kernel
theorem dX6_century_108 : decode cX6_century 108 = .ok (.iload 6, 2) := by decide +kernel
theorem dX6_century_110 : decode cX6_century 110 = .ok (.ireturn, 1) := by decide +kernel
theorem dX6_century_111 : decode cX6_century 111 = .ok (.iconst 0, 1) := by decide +kernel
theorem dX6_century_112 : decode cX6_century 112 = .ok (.istore 7, 2) := by decide +kernel
theorem dX6_century_114 : decode cX6_century 114 = .ok (.iload 7, 2) := by decide +kernel
theorem dX6_century_116 : decode cX6_century 116 = .ok (.iload 4, 2) := by decide +kernel
theorem dX6_century_118 : decode cX6_century 118 = .ok (.if_icmp .ge 56, 3) := by decide +kernel
theorem dX6_century_121 : decode cX6_century 121 = .ok (.aload_n 0, 1) := by decide +kernel
theorem dX6_century_122 : decode cX6_century 122 = .ok (.getfield 52, 3) := by decide +kernel
theorem dX6_century_125 : decode cX6_century 125 = .ok (.bipush 60, 2) := by decide +kernel
theorem dX6_century_127 : decode cX6_century 127 = .ok (.iload_n 1, 1) := by decide +kernel
theorem dX6_century_128 : decode cX6_century 128 = .ok (.imul, 1) := by decide +kernel
theorem dX6_century_129 : decode cX6_century 129 = .ok (.iload_n 3, 1) := by decide +kernel
theorem dX6_century_130 : decode cX6_century 130 = .ok (.iadd, 1) := by decide +kernel
theorem dX6_century_131 : decode cX6_century 131 = .ok (.iconst 2, 1) := by decide +kernel
theorem dX6_century_132 : decode cX6_century 132 = .ok (.iload 7, 2) := by decide +kernel
theorem dX6_century_134 : decode cX6_century 134 = .ok (.imul, 1) := by decide +kernel
theorem dX6_century_135 : decode cX6_century 135 = .ok (.iadd, 1) := by decide +kernel
theorem dX6_century_136 : decode cX6_century 136 = .ok (.iaload, 1) := by decide +kernel
theorem dX6_century_137 : decode cX6_century 137 = .ok (.aload_n 0, 1) := by decide +kernel
theorem dX6_century_138 : decode cX6_century 138 = .ok (.getfield 52, 3) := by decide +kernel
theorem dX6_century_141 : decode cX6_century 141 = .ok (.bipush 60, 2) := by decide +kernel
theorem dX6_century_143 : decode cX6_century 143 = .ok (.iload_n 1, 1) := by decide +kernel
theorem dX6_century_144 : decode cX6_century 144 = .ok (.imul, 1) := by decide +kernel
theorem dX6_century_145 : decode cX6_century 145 = .ok (.iload_n 3, 1) := by decide +kernel
theorem dX6_century_146 : decode cX6_century 146 = .ok (.iadd, 1) := by decide +kernel
theorem dX6_century_147 : decode cX6_century 147 = .ok (.iconst 2, 1) := by decide +kernel
theorem dX6_century_148 : decode cX6_century 148 = .ok (.iload 7, 2) := by decide +kernel
theorem dX6_century_150 : decode cX6_century 150 = .ok (.imul, 1) := by decide +kernel
theorem dX6_century_151 : decode cX6_century 151 = .ok (.iadd, 1) := by decide +kernel
theorem dX6_century_152 : decode cX6_century 152 = .ok (.iconst 1, 1) := by decide +kernel
theorem dX6_century_153 : decode cX6_century 153 = .ok (.iadd, 1) := by decide +kernel
theorem dX6_century_154 : decode cX6_century 154 = .ok (.iaload, 1) := by decide +kernel
theorem dX6_century_155 : decode cX6_century 155 = .ok (.invokestatic 176, 3) := by decide +kernel
theorem dX6_century_158 : decode cX6_century 158 = .ok (.ifCond .ne 10, 3) := by decide +kernel
theorem dX6_century_161 : decode cX6_century 161 = .ok (.aload_n 0, 1) := by decide +kernel
theorem dX6_century_162 : decode cX6_century 162 = .ok (.bipush (-2), 2) := by decide +kernel
theorem dX6_century_164 : decode cX6_century 164 = .ok (.invokevirtual 114, 3) := by decide +kernel
theorem dX6_century_167 : decode cX6_century 167 = .ok (.ireturn, 1) := by decide +kernel
theorem dX6_century_168 : decode cX6_century 168 = .ok (.iinc 7 1, 3) := by decide +kernel
theorem dX6_century_171 : decode cX6_century 171 = .ok (.goto (-57), 3) := by decide +kernel
theorem dX6_century_174 : decode cX6_century 174 = .ok (.aload_n 0, 1) := by decide +kernel
theorem dX6_century_175 : decode cX6_century 175 = .ok (.invokevirtual 179, 3) := by decide +kernel
theorem dX6_century_178 : decode cX6_century 178 = .ok (.aload_n 0, 1) := by decide +kernel
theorem dX6_century_179 : decode cX6_century 179 = .ok (.bipush 60, 2) := by decide +kernel
theorem dX6_century_181 : decode cX6_century 181 = .ok (.iload_n 1, 1) := by decide +kernel
theorem dX6_century_182 : decode cX6_century 182 = .ok (.imul, 1) := by decide +kernel
theorem dX6_century_183 : decode cX6_century 183 = .ok (.iload_n 3, 1) := by decide +kernel
theorem dX6_century_184 : decode cX6_century 184 = .ok (.iadd, 1) := by decide +kernel
theorem dX6_century_185 : decode cX6_century 185 = .ok (.iload 4, 2) := by decide +kernel
theorem dX6_century_187 : decode cX6_century 187 = .ok (.iload 5, 2) := by decide +kernel
theorem dX6_century_189 : decode cX6_century 189 = .ok (.invokevirtual 182, 3) := by decide +kernel
theorem dX6_century_192 : decode cX6_century 192 = .ok (.istore 7, 2) := by decide +kernel
theorem dX6_century_194 : decode cX6_century 194 = .ok (.aload_n 0, 1) := by decide +kernel
theorem dX6_century_195 : decode cX6_century 195 = .ok (.invokevirtual 186, 3) := by decide +kernel
theorem dX6_century_198 : decode cX6_century 198 = .ok (.aload_n 0, 1) := by decide +kernel
theorem dX6_century_199 : decode cX6_century 199 = .ok (.iload 7, 2) := by decide +kernel
theorem dX6_century_201 : decode cX6_century 201 = .ok (.invokevirtual 114, 3) := by decide +kernel
theorem dX6_century_204 : decode cX6_century 204 = .ok (.ireturn, 1) := by decide +kernel
set_option maxRecDepth 20000 in
theorem ggX6_quiet_X6_in : GoodIn wsX6_quiet wsX6_in := goodIn_r _ [7] (by decide +kernel) (by decide +kernel)
set_option maxRecDepth 20000 in
theorem gX6_quiet_X6_in : GoodIn wsX6_quiet (va_wsS RX6 71 yX6_in wsX6_in) := goodIn_app (goodIn_of _ (by decide +kernel)) ggX6_quiet_X6_in
theorem dX6_quiet_0 : decode cX6_quiet 0 = .ok (.aload_n 0, 1) := by decide +kernel
theorem dX6_quiet_1 : decode cX6_quiet 1 = .ok (.getfield 68, 3) := by decide +kernel
theorem dX6_quiet_4 : decode cX6_quiet 4 = .ok (.ifCond .ne 6, 3) := by decide +kernel
theorem dX6_quiet_7 : decode cX6_quiet 7 = .ok (.bipush (-3), 2) := by decide +kernel
theorem dX6_quiet_9 : decode cX6_quiet 9 = .ok (.ireturn, 1) := by decide +kernel
theorem dX6_quiet_10 : decode cX6_quiet 10 = .ok (.iload_n 1, 1) := by decide +kernel
theorem dX6_quiet_11 : decode cX6_quiet 11 = .ok (.i2l, 1) := by decide +kernel
theorem dX6_quiet_12 : decode cX6_quiet 12 = .ok (.lconst 0, 1) := by decide +kernel
theorem dX6_quiet_13 : decode cX6_quiet 13 = .ok (.lconst 1, 1) := by decide +kernel
theorem dX6_quiet_14 : decode cX6_quiet 14 = .ok (.invokestatic 71, 3) := by decide +kernel
theorem dX6_quiet_17 : decode cX6_quiet 17 = .ok (.ifCond .ne 6, 3) := by decide +kernel
theorem dX6_quiet_20 : decode cX6_quiet 20 = .ok (.bipush (-2), 2) := by decide +kernel
theorem dX6_quiet_22 : decode cX6_quiet 22 = .ok (.ireturn, 1) := by decide +kernel
theorem dX6_quiet_23 : decode cX6_quiet 23 = .ok (.bipush (-9), 2) := by decide +kernel
theorem dX6_quiet_25 : decode cX6_quiet 25 = .ok (.istore_n 2, 1) := by decide +kernel
theorem dX6_quiet_26 : decode cX6_quiet 26 = .ok (.bipush (-9), 2) := by decide +kernel
theorem dX6_quiet_28 : decode cX6_quiet 28 = .ok (.istore_n 3, 1) := by decide +kernel
theorem dX6_quiet_29 : decode cX6_quiet 29 = .ok (.iconst 0, 1) := by decide +kernel
theorem dX6_quiet_30 : decode cX6_quiet 30 = .ok (.istore 4, 2) := by decide +kernel
theorem dX6_quiet_32 : decode cX6_quiet 32 = .ok (.iconst 0, 1) := by decide +kernel
theorem dX6_quiet_33 : decode cX6_quiet 33 = .ok (.istore 5, 2) := by decide +kernel
theorem dX6_quiet_35 : decode cX6_quiet 35 = .ok (.iload 5, 2) := by decide +kernel
theorem dX6_quiet_37 : decode cX6_quiet 37 = .ok (.aload_n 0, 1) := by decide +kernel
theorem dX6_quiet_38 : decode cX6_quiet 38 = .ok (.getfield 68, 3) := by decide +kernel
theorem dX6_quiet_41 : decode cX6_quiet 41 = .ok (.if_icmp .gt 73, 3) := by decide +kernel
theorem dX6_quiet_44 : decode cX6_quiet 44 = .ok (.iload 5, 2) := by decide +kernel
theorem dX6_quiet_46 : decode cX6_quiet 46 = .ok (.aload_n 0, 1) := by decide +kernel
theorem dX6_quiet_47 : decode cX6_quiet 47 = .ok (.getfield 68, 3) := by decide +kernel
theorem dX6_quiet_50 : decode cX6_quiet 50 = .ok (.if_icmp .ne 10, 3) := by decide +kernel
theorem dX6_quiet_53 : decode cX6_quiet 53 = .ok (.aload_n 0, 1) := by decide +kernel
theorem dX6_quiet_54 : decode cX6_quiet 54 = .ok (.getfield 132, 3) := by decide +kernel
theorem dX6_quiet_57 : decode cX6_quiet 57 = .ok (.goto 10, 3) := by decide +kernel
theorem dX6_quiet_60 : decode cX6_quiet 60 = .ok (.aload_n 0, 1) := by decide +kernel
theorem dX6_quiet_61 : decode cX6_quiet 61 = .ok (.getfield 16, 3) := by decide +kernel
theorem dX6_quiet_64 : decode cX6_quiet 64 = .ok (.iload 5, 2) := by decide +kernel
theorem dX6_quiet_66 : decode cX6_quiet 66 = .ok (.iaload, 1) := by decide +kernel
theorem dX6_quiet_67 : decode cX6_quiet 67 = .ok (.istore 6, 2) := by decide +kernel
theorem dX6_quiet_69 : decode cX6_quiet 69 = .ok (.iload 6, 2) := by decide +kernel
theorem dX6_quiet_71 : decode cX6_quiet 71 = .ok (.iload 4, 2) := by decide +kernel
theorem dX6_quiet_73 : decode cX6_quiet 73 = .ok (.isub, 1) := by decide +kernel
theorem dX6_quiet_74 : decode cX6_quiet 74 = .ok (.iload_n 2, 1) := by decide +kernel
theorem dX6_quiet_75 : decode cX6_quiet 75 = .ok (.if_icmp .le 8, 3) := by decide +kernel
theorem dX6_quiet_78 : decode cX6_quiet 78 = .ok (.iload 4, 2) := by decide +kernel
theorem dX6_quiet_80 : decode cX6_quiet 80 = .ok (.goto 4, 3) := by decide +kernel
theorem dX6_quiet_83 : decode cX6_quiet 83 = .ok (.iload_n 3, 1) := by decide +kernel
theorem dX6_quiet_84 : decode cX6_quiet 84 = .ok (.istore_n 3, 1) := by decide +kernel
theorem dX6_quiet_85 : decode cX6_quiet 85 = .ok (.iload 6, 2) := by decide +kernel
theorem dX6_quiet_87 : decode cX6_quiet 87 = .ok (.iload 4, 2) := by decide +kernel
theorem dX6_quiet_89 : decode cX6_quiet 89 = .ok (.isub, 1) := by decide +kernel
theorem dX6_quiet_90 : decode cX6_quiet 90 = .ok (.iload_n 2, 1) := by decide +kernel
theorem dX6_quiet_91 : decode cX6_quiet 91 = .ok (.if_icmp .le 11, 3) := by decide +kernel
theorem dX6_quiet_94 : decode cX6_quiet 94 = .ok (.iload 6, 2) := by decide +kernel
theorem dX6_quiet_96 : decode cX6_quiet 96 = .ok (.iload 4, 2) := by decide +kernel
theorem dX6_quiet_98 : decode cX6_quiet 98 = .ok (.isub, 1) := by decide +kernel
theorem dX6_quiet_99 : decode cX6_quiet 99 = .ok (.goto 4, 3) := by decide +kernel
theorem dX6_quiet_102 : decode cX6_quiet 102 = .ok (.iload_n 2, 1) := by decide +kernel
theorem dX6_quiet_103 : decode cX6_quiet 103 = .ok (.istore_n 2, 1) := by decide +kernel
theorem dX6_quiet_104 : decode cX6_quiet 104 = .ok (.iload 6, 2) := by decide +kernel
theorem dX6_quiet_106 : decode cX6_quiet 106 = .ok (.istore 4, 2) := by decide +kernel
theorem dX6_quiet_108 : decode cX6_quiet 108 = .ok (.iinc 5 1, 3) := by decide +kernel
theorem dX6_quiet_111 : decode cX6_quiet 111 = .ok (.goto (-76), 3) := by decide +kernel
theorem dX6_quiet_114 : decode cX6_quiet 114 = .ok (.iload_n 1, 1) := by decide +kernel
theorem dX6_quiet_115 : decode cX6_quiet 115 = .ok (.ifCond .ne 7, 3) := by decide +kernel
theorem dX6_quiet_118 : decode cX6_quiet 118 = .ok (.iload_n 2, 1) := by decide +kernel
theorem dX6_quiet_119 : decode cX6_quiet 119 = .ok (.goto 4, 3) := by decide +kernel
theorem dX6_quiet_122 : decode cX6_quiet 122 = .ok (.iload_n 3, 1) := by decide +kernel
theorem dX6_quiet_123 : decode cX6_quiet 123 = .ok (.ireturn, 1) := by decide +kernel
set_option maxRecDepth 20000 in
theorem ggX6_run_X6_in : GoodIn wsX6_run wsX6_in := goodIn_r _ [5] (by decide +kernel) (by decide +kernel)
set_option maxRecDepth 20000 in
theorem gX6_run_X6_in : GoodIn wsX6_run (va_wsS RX6 71 yX6_in wsX6_in) := goodIn_app (goodIn_of _ (by decide +kernel)) ggX6_run_X6_in
set_option maxRecDepth 20000 in
theorem ggX6_run_X6_wishOf : GoodIn wsX6_run wsX6_wishOf := goodIn_r _ [9, 10, 11, 12, 13, 4, 14, 15, 16, 17, 18, 19, 20, 21, 22, 23, 24, 25, 26, 27, 28, 29, 30, 31, 32, 33, 34, 35, 36, 37, 38, 39, 40, 41, 42, 43, 44, 45, 46, 47, 48, 49, 50, 51, 52, 53, 54, 55] (by decide +kernel) (by decide +kernel)
set_option maxRecDepth 20000 in
theorem gX6_run_X6_wishOf : GoodIn wsX6_run (wsV RX6 150 RX6 yX6_wishOf wsX6_wishOf) := goodIn_app (goodIn_of _ (by decide +kernel)) ggX6_run_X6_wishOf
theorem dX6_run_0 : decode cX6_run 0 = .ok (.aload_n 0, 1) := by decide +kernel
theorem dX6_run_1 : decode cX6_run 1 = .ok (.getfield 68, 3) := by decide +kernel
theorem dX6_run_4 : decode cX6_run 4 = .ok (.ifCond .ne 6, 3) := by decide +kernel
theorem dX6_run_7 : decode cX6_run 7 = .ok (.bipush (-3), 2) := by decide +kernel
theorem dX6_run_9 : decode cX6_run 9 = .ok (.ireturn, 1) := by decide +kernel
theorem dX6_run_10 : decode cX6_run 10 = .ok (.iload_n 1, 1) := by decide +kernel
theorem dX6_run_11 : decode cX6_run 11 = .ok (.i2l, 1) := by decide +kernel
theorem dX6_run_12 : decode cX6_run 12 = .ok (.lconst 0, 1) := by decide +kernel
theorem dX6_run_13 : decode cX6_run 13 = .ok (.lconst 1, 1) := by decide +kernel
theorem dX6_run_14 : decode cX6_run 14 = .ok (.invokestatic 71, 3) := by decide +kernel
theorem dX6_run_17 : decode cX6_run 17 = .ok (.ifCond .ne 6, 3) := by decide +kernel
theorem dX6_run_20 : decode cX6_run 20 = .ok (.bipush (-2), 2) := by decide +kernel
theorem dX6_run_22 : decode cX6_run 22 = .ok (.ireturn, 1) := by decide +kernel
theorem dX6_run_23 : decode cX6_run 23 = .ok (.iconst 0, 1) := by decide +kernel
theorem dX6_run_24 : decode cX6_run 24 = .ok (.istore_n 2, 1) := by decide +kernel
theorem dX6_run_25 : decode cX6_run 25 = .ok (.bipush (-9), 2) := by decide +kernel
theorem dX6_run_27 : decode cX6_run 27 = .ok (.istore_n 3, 1) := by decide +kernel
theorem dX6_run_28 : decode cX6_run 28 = .ok (.iconst 0, 1) := by decide +kernel
theorem dX6_run_29 : decode cX6_run 29 = .ok (.istore 4, 2) := by decide +kernel
theorem dX6_run_31 : decode cX6_run 31 = .ok (.iconst 0, 1) := by decide +kernel
theorem dX6_run_32 : decode cX6_run 32 = .ok (.istore 5, 2) := by decide +kernel
theorem dX6_run_34 : decode cX6_run 34 = .ok (.iload 5, 2) := by decide +kernel
theorem dX6_run_36 : decode cX6_run 36 = .ok (.aload_n 0, 1) := by decide +kernel
theorem dX6_run_37 : decode cX6_run 37 = .ok (.getfield 68, 3) := by decide +kernel
theorem dX6_run_40 : decode cX6_run 40 = .ok (.if_icmp .ge 81, 3) := by decide +kernel
theorem dX6_run_43 : decode cX6_run 43 = .ok (.iload 5, 2) := by decide +kernel
theorem dX6_run_45 : decode cX6_run 45 = .ok (.ifCond .le 25, 3) := by decide +kernel
theorem dX6_run_48 : decode cX6_run 48 = .ok (.aload_n 0, 1) := by decide +kernel
theorem dX6_run_49 : decode cX6_run 49 = .ok (.iload 5, 2) := by decide +kernel
theorem dX6_run_51 : decode cX6_run 51 = .ok (.invokevirtual 150, 3) := by decide +kernel
theorem dX6_run_54 : decode cX6_run 54 = .ok (.aload_n 0, 1) := by decide +kernel
theorem dX6_run_55 : decode cX6_run 55 = .ok (.iload 5, 2) := by decide +kernel
theorem dX6_run_57 : decode cX6_run 57 = .ok (.iconst 1, 1) := by decide +kernel
theorem dX6_run_58 : decode cX6_run 58 = .ok (.isub, 1) := by decide +kernel
theorem dX6_run_59 : decode cX6_run 59 = .ok (.invokevirtual 150, 3) := by decide +kernel
theorem dX6_run_62 : decode cX6_run 62 = .ok (.if_icmp .ne 8, 3) := by decide +kernel
theorem dX6_run_65 : decode cX6_run 65 = .ok (.iload 4, 2) := by decide +kernel
theorem dX6_run_67 : decode cX6_run 67 = .ok (.goto 5, 3) := by decide +kernel
theorem dX6_run_70 : decode cX6_run 70 = .ok (.iload 5, 2) := by decide +kernel
theorem dX6_run_72 : decode cX6_run 72 = .ok (.istore 4, 2) := by decide +kernel
theorem dX6_run_74 : decode cX6_run 74 = .ok (.iload 5, 2) := by decide +kernel
theorem dX6_run_76 : decode cX6_run 76 = .ok (.iload 4, 2) := by decide +kernel
theorem dX6_run_78 : decode cX6_run 78 = .ok (.isub, 1) := by decide +kernel
theorem dX6_run_79 : decode cX6_run 79 = .ok (.iconst 1, 1) := by decide +kernel
theorem dX6_run_80 : decode cX6_run 80 = .ok (.iadd, 1) := by decide +kernel
theorem dX6_run_81 : decode cX6_run 81 = .ok (.iload_n 2, 1) := by decide +kernel
theorem dX6_run_82 : decode cX6_run 82 = .ok (.if_icmp .le 8, 3) := by decide +kernel
theorem dX6_run_85 : decode cX6_run 85 = .ok (.iload 4, 2) := by decide +kernel
theorem dX6_run_87 : decode cX6_run 87 = .ok (.goto 4, 3) := by decide +kernel
theorem dX6_run_90 : decode cX6_run 90 = .ok (.iload_n 3, 1) := by decide +kernel
theorem dX6_run_91 : decode cX6_run 91 = .ok (.istore_n 3, 1) := by decide +kernel
theorem dX6_run_92 : decode cX6_run 92 = .ok (.iload 5, 2) := by decide +kernel
theorem dX6_run_94 : decode cX6_run 94 = .ok (.iload 4, 2) := by decide +kernel
theorem dX6_run_96 : decode cX6_run 96 = .ok (.isub, 1) := by decide +kernel
theorem dX6_run_97 : decode cX6_run 97 = .ok (.iconst 1, 1) := by decide +kernel
theorem dX6_run_98 : decode cX6_run 98 = .ok (.iadd, 1) := by decide +kernel
theorem dX6_run_99 : decode cX6_run 99 = .ok (.iload_n 2, 1) := by decide +kernel
theorem dX6_run_100 : decode cX6_run 100 = .ok (.if_icmp .le 13, 3) := by decide +kernel
theorem dX6_run_103 : decode cX6_run 103 = .ok (.iload 5, 2) := by decide +kernel
theorem dX6_run_105 : decode cX6_run 105 = .ok (.iload 4, 2) := by decide +kernel
theorem dX6_run_107 : decode cX6_run 107 = .ok (.isub, 1) := by decide +kernel
theorem dX6_run_108 : decode cX6_run 108 = .ok (.iconst 1, 1) := by decide +kernel
theorem dX6_run_109 : decode cX6_run 109 = .ok (.iadd, 1) := by decide +kernel
theorem dX6_run_110 : decode cX6_run 110 = .ok (.goto 4, 3) := by decide +kernel
theorem dX6_run_113 : decode cX6_run 113 = .ok (.iload_n 2, 1) := by decide +kernel
theorem dX6_run_114 : decode cX6_run 114 = .ok (.istore_n 2, 1) := by decide +kernel
theorem dX6_run_115 : decode cX6_run 115 = .ok (.iinc 5 1, 3) := by decide +kernel
theorem dX6_run_118 : decode cX6_run 118 = .ok (.goto (-84), 3) := by decide +kernel
theorem dX6_run_121 : decode cX6_run 121 = .ok (.iload_n 1, 1) := by decide +kernel
theorem dX6_run_122 : decode cX6_run 122 = .ok (.ifCond .ne 7, 3) := by decide +kernel
theorem dX6_run_125 : decode cX6_run 125 = .ok (.iload_n 2, 1) := by decide +kernel
theorem dX6_run_126 : decode cX6_run 126 = .ok (.goto 4, 3) := by decide +kernel
theorem dX6_run_129 : decode cX6_run 129 = .ok (.iload_n 3, 1) := by decide +kernel
theorem dX6_run_130 : decode cX6_run 130 = .ok (.ireturn, 1) := by decide +kernel
set_option maxRecDepth 20000 in
theorem ggX6_shape_X6_in : GoodIn wsX6_shape wsX6_in := goodIn_r _ [8] (by decide +kernel) (by decide +kernel)
set_option maxRecDepth 20000 in
theorem gX6_shape_X6_in : GoodIn wsX6_shape (va_wsS RX6 71 yX6_in wsX6_in) := goodIn_app (goodIn_of _ (by decide +kernel)) ggX6_shape_X6_in
set_option maxRecDepth 20000 in
theorem ggX6_shape_X6_turnBy : GoodIn wsX6_shape wsX6_turnBy := goodIn_r _ [11] (by decide +kernel) (by decide +kernel)
set_option maxRecDepth 20000 in
theorem gX6_shape_X6_turnBy : GoodIn wsX6_shape (va_wsS RX6 138 yX6_turnBy wsX6_turnBy) := goodIn_app (goodIn_of _ (by decide +kernel)) ggX6_shape_X6_turnBy
set_option maxRecDepth 20000 in
theorem ggX6_shape_X6_wishBy : GoodIn wsX6_shape wsX6_wishBy := goodIn_r _ [15, 16, 17, 18, 19, 20, 21, 22, 23, 24, 25, 26, 27, 28, 29, 30, 31, 32, 33, 34, 35, 36, 37, 38, 39, 40, 41, 42, 43, 44, 45, 46, 47] (by decide +kernel) (by decide +kernel)
set_option maxRecDepth 20000 in
theorem gX6_shape_X6_wishBy : GoodIn wsX6_shape (wsV RX6 144 RX6 yX6_wishBy wsX6_wishBy) := goodIn_app (goodIn_of _ (by decide +kernel)) ggX6_shape_X6_wishBy
theorem dX6_shape_0 : decode cX6_shape 0 = .ok (.aload_n 0, 1) := by decide +kernel
theorem dX6_shape_1 : decode cX6_shape 1 = .ok (.getfield 68, 3) := by decide +kernel
theorem dX6_shape_4 : decode cX6_shape 4 = .ok (.ifCond .ne 6, 3) := by decide +kernel
theorem dX6_shape_7 : decode cX6_shape 7 = .ok (.bipush (-3), 2) := by decide +kernel
theorem dX6_shape_9 : decode cX6_shape 9 = .ok (.ireturn, 1) := by decide +kernel
theorem dX6_shape_10 : decode cX6_shape 10 = .ok (.iload_n 1, 1) := by decide +kernel
theorem dX6_shape_11 : decode cX6_shape 11 = .ok (.i2l, 1) := by decide +kernel
theorem dX6_shape_12 : decode cX6_shape 12 = .ok (.lconst 0, 1) := by decide +kernel
theorem dX6_shape_13 : decode cX6_shape 13 = .ok (.ldc2_w 117, 3) := by decide +kernel
theorem dX6_shape_16 : decode cX6_shape 16 = .ok (.invokestatic 71, 3) := by decide +kernel
theorem dX6_shape_19 : decode cX6_shape 19 = .ok (.ifCond .eq 15, 3) := by decide +kernel
theorem dX6_shape_22 : decode cX6_shape 22 = .ok (.iload_n 2, 1) := by decide +kernel
theorem dX6_shape_23 : decode cX6_shape 23 = .ok (.i2l, 1) := by decide +kernel
theorem dX6_shape_24 : decode cX6_shape 24 = .ok (.lconst 0, 1) := by decide +kernel
theorem dX6_shape_25 : decode cX6_shape 25 = .ok (.ldc2_w 155, 3) := by decide +kernel
theorem dX6_shape_28 : decode cX6_shape 28 = .ok (.invokestatic 71, 3) := by decide +kernel
theorem dX6_shape_31 : decode cX6_shape 31 = .ok (.ifCond .ne 6, 3) := by decide +kernel
theorem dX6_shape_34 : decode cX6_shape 34 = .ok (.bipush (-2), 2) := by decide +kernel
theorem dX6_shape_36 : decode cX6_shape 36 = .ok (.ireturn, 1) := by decide +kernel
theorem dX6_shape_37 : decode cX6_shape 37 = .ok (.bipush (-9), 2) := by decide +kernel
theorem dX6_shape_39 : decode cX6_shape 39 = .ok (.istore_n 3, 1) := by decide +kernel
theorem dX6_shape_40 : decode cX6_shape 40 = .ok (.bipush 9, 2) := by decide +kernel
theorem dX6_shape_42 : decode cX6_shape 42 = .ok (.istore 4, 2) := by decide +kernel
theorem dX6_shape_44 : decode cX6_shape 44 = .ok (.iload 4, 2) := by decide +kernel
theorem dX6_shape_46 : decode cX6_shape 46 = .ok (.ifCond .lt 34, 3) := by decide +kernel
theorem dX6_shape_49 : decode cX6_shape 49 = .ok (.aload_n 0, 1) := by decide +kernel
theorem dX6_shape_50 : decode cX6_shape 50 = .ok (.iload_n 1, 1) := by decide +kernel
theorem dX6_shape_51 : decode cX6_shape 51 = .ok (.iload 4, 2) := by decide +kernel
theorem dX6_shape_53 : decode cX6_shape 53 = .ok (.invokestatic 138, 3) := by decide +kernel
theorem dX6_shape_56 : decode cX6_shape 56 = .ok (.aload_n 0, 1) := by decide +kernel
theorem dX6_shape_57 : decode cX6_shape 57 = .ok (.getfield 132, 3) := by decide +kernel
theorem dX6_shape_60 : decode cX6_shape 60 = .ok (.invokevirtual 144, 3) := by decide +kernel
theorem dX6_shape_63 : decode cX6_shape 63 = .ok (.iload_n 2, 1) := by decide +kernel
theorem dX6_shape_64 : decode cX6_shape 64 = .ok (.if_icmp .ne 8, 3) := by decide +kernel
theorem dX6_shape_67 : decode cX6_shape 67 = .ok (.iload 4, 2) := by decide +kernel
theorem dX6_shape_69 : decode cX6_shape 69 = .ok (.goto 4, 3) := by decide +kernel
theorem dX6_shape_72 : decode cX6_shape 72 = .ok (.iload_n 3, 1) := by decide +kernel
theorem dX6_shape_73 : decode cX6_shape 73 = .ok (.istore_n 3, 1) := by decide +kernel
theorem dX6_shape_74 : decode cX6_shape 74 = .ok (.iinc 4 (-1), 3) := by decide +kernel
theorem dX6_shape_77 : decode cX6_shape 77 = .ok (.goto (-33), 3) := by decide +kernel
theorem dX6_shape_80 : decode cX6_shape 80 = .ok (.iload_n 3, 1) := by decide +kernel
theorem dX6_shape_81 : decode cX6_shape 81 = .ok (.ireturn, 1) := by decide +kernel
set_option maxRecDepth 20000 in
theorem ggX6_mayLie_X6_turnOf : GoodIn wsX6_mayLie wsX6_turnOf := goodIn_r _ [6, 7, 8, 9, 10, 5, 11, 18, 19, 20, 21, 22, 23, 24, 25, 26, 27, 28, 29, 30, 31, 32, 33, 34, 35, 36, 37, 38, 39, 40, 41, 42, 43, 44, 45, 46, 47] (by decide +kernel) (by decide +kernel)
set_option maxRecDepth 20000 in
theorem gX6_mayLie_X6_turnOf : GoodIn wsX6_mayLie (wsV RX6 141 RX6 yX6_turnOf wsX6_turnOf) := goodIn_app (goodIn_of _ (by decide +kernel)) ggX6_mayLie_X6_turnOf
set_option maxRecDepth 20000 in
theorem ggX6_mayLie_X6_wishBy : GoodIn wsX6_mayLie wsX6_wishBy := goodIn_r _ [15, 16, 17, 18, 19, 20, 21, 22, 23, 24, 25, 26, 27, 28, 29, 30, 31, 32, 33, 34, 35, 36, 37, 38, 39, 40, 41, 42, 43, 44, 45, 46, 47] (by decide +kernel) (by decide +kernel)
set_option maxRecDepth 20000 in
theorem gX6_mayLie_X6_wishBy : GoodIn wsX6_mayLie (wsV RX6 144 RX6 yX6_wishBy wsX6_wishBy) := goodIn_app (goodIn_of _ (by decide +kernel)) ggX6_mayLie_X6_wishBy
theorem dX6_mayLie_0 : decode cX6_mayLie 0 = .ok (.iload_n 3, 1) := by decide +kernel
theorem dX6_mayLie_1 : decode cX6_mayLie 1 = .ok (.bipush 6, 2) := by decide +kernel
theorem dX6_mayLie_3 : decode cX6_mayLie 3 = .ok (.if_icmp .eq 22, 3) := by decide +kernel
theorem dX6_mayLie_6 : decode cX6_mayLie 6 = .ok (.aload_n 0, 1) := by decide +kernel
theorem dX6_mayLie_7 : decode cX6_mayLie 7 = .ok (.aload_n 0, 1) := by decide +kernel
theorem dX6_mayLie_8 : decode cX6_mayLie 8 = .ok (.iload_n 1, 1) := by decide +kernel
theorem dX6_mayLie_9 : decode cX6_mayLie 9 = .ok (.invokevirtual 141, 3) := by decide +kernel
theorem dX6_mayLie_12 : decode cX6_mayLie 12 = .ok (.aload_n 0, 1) := by decide +kernel
theorem dX6_mayLie_13 : decode cX6_mayLie 13 = .ok (.getfield 16, 3) := by decide +kernel
theorem dX6_mayLie_16 : decode cX6_mayLie 16 = .ok (.iload_n 2, 1) := by decide +kernel
theorem dX6_mayLie_17 : decode cX6_mayLie 17 = .ok (.iaload, 1) := by decide +kernel
theorem dX6_mayLie_18 : decode cX6_mayLie 18 = .ok (.invokevirtual 144, 3) := by decide +kernel
theorem dX6_mayLie_21 : decode cX6_mayLie 21 = .ok (.iload_n 3, 1) := by decide +kernel
theorem dX6_mayLie_22 : decode cX6_mayLie 22 = .ok (.if_icmp .ne 7, 3) := by decide +kernel
theorem dX6_mayLie_25 : decode cX6_mayLie 25 = .ok (.iconst 1, 1) := by decide +kernel
theorem dX6_mayLie_26 : decode cX6_mayLie 26 = .ok (.goto 4, 3) := by decide +kernel
theorem dX6_mayLie_29 : decode cX6_mayLie 29 = .ok (.iconst 0, 1) := by decide +kernel
theorem dX6_mayLie_30 : decode cX6_mayLie 30 = .ok (.ireturn, 1) := by decide +kernel
set_option maxRecDepth 20000 in
theorem ggX6_countWays_X6_bits : GoodIn wsX6_countWays wsX6_bits := goodIn_r _ [7] (by decide +kernel) (by decide +kernel)
set_option maxRecDepth 20000 in
theorem gX6_countWays_X6_bits : GoodIn wsX6_countWays (va_wsS RX6 189 yX6_bits wsX6_bits) := goodIn_app (goodIn_of _ (by decide +kernel)) ggX6_countWays_X6_bits
set_option maxRecDepth 20000 in
theorem ggX6_countWays_X6_isIn : GoodIn wsX6_countWays wsX6_isIn := goodIn_r _ [10] (by decide +kernel) (by decide +kernel)
set_option maxRecDepth 20000 in
theorem gX6_countWays_X6_isIn : GoodIn wsX6_countWays (va_wsS RX6 192 yX6_isIn wsX6_isIn) := goodIn_app (goodIn_of _ (by decide +kernel)) ggX6_countWays_X6_isIn
set_option maxRecDepth 20000 in
theorem ggX6_countWays_X6_mayLie : GoodIn wsX6_countWays wsX6_mayLie := goodIn_r _ [14, 15, 16, 17, 18, 6, 19, 20, 21, 22, 23, 24, 25, 26, 27, 28, 29, 30, 31, 32, 33, 34, 35, 36, 37, 38, 39, 40, 41, 42, 43, 44, 45, 46, 47, 48, 49, 50, 51, 52, 53, 54, 55, 56, 57, 58, 59, 60] (by decide +kernel) (by decide +kernel)
set_option maxRecDepth 20000 in
theorem gX6_countWays_X6_mayLie : GoodIn wsX6_countWays (wsV RX6 195 RX6 yX6_mayLie wsX6_mayLie) := goodIn_app (goodIn_of _ (by decide +kernel)) ggX6_countWays_X6_mayLie
theorem dX6_countWays_0 : decode cX6_countWays 0 = .ok (.iconst 1, 1) := by decide +kernel
theorem dX6_countWays_1 : decode cX6_countWays 1 = .ok (.aload_n 0, 1) := by decide +kernel
theorem dX6_countWays_2 : decode cX6_countWays 2 = .ok (.getfield 68, 3) := by decide +kernel
theorem dX6_countWays_5 : decode cX6_countWays 5 = .ok (.ishl, 1) := by decide +kernel
theorem dX6_countWays_6 : decode cX6_countWays 6 = .ok (.iconst 1, 1) := by decide +kernel
theorem dX6_countWays_7 : decode cX6_countWays 7 = .ok (.isub, 1) := by decide +kernel
theorem dX6_countWays_8 : decode cX6_countWays 8 = .ok (.istore_n 2, 1) := by decide +kernel
theorem dX6_countWays_9 : decode cX6_countWays 9 = .ok (.iload_n 2, 1) := by decide +kernel
theorem dX6_countWays_10 : decode cX6_countWays 10 = .ok (.istore_n 3, 1) := by decide +kernel
theorem dX6_countWays_11 : decode cX6_countWays 11 = .ok (.iload_n 3, 1) := by decide +kernel
theorem dX6_countWays_12 : decode cX6_countWays 12 = .ok (.ifCond .lt 114, 3) := by decide +kernel
theorem dX6_countWays_15 : decode cX6_countWays 15 = .ok (.iload_n 3, 1) := by decide +kernel
theorem dX6_countWays_16 : decode cX6_countWays 16 = .ok (.invokestatic 189, 3) := by decide +kernel
theorem dX6_countWays_19 : decode cX6_countWays 19 = .ok (.istore 4, 2) := by decide +kernel
theorem dX6_countWays_21 : decode cX6_countWays 21 = .ok (.aload_n 0, 1) := by decide +kernel
theorem dX6_countWays_22 : decode cX6_countWays 22 = .ok (.getfield 37, 3) := by decide +kernel
theorem dX6_countWays_25 : decode cX6_countWays 25 = .ok (.iload_n 3, 1) := by decide +kernel
theorem dX6_countWays_26 : decode cX6_countWays 26 = .ok (.iload_n 3, 1) := by decide +kernel
theorem dX6_countWays_27 : decode cX6_countWays 27 = .ok (.iload_n 2, 1) := by decide +kernel
theorem dX6_countWays_28 : decode cX6_countWays 28 = .ok (.if_icmp .ne 7, 3) := by decide +kernel
theorem dX6_countWays_31 : decode cX6_countWays 31 = .ok (.iconst 1, 1) := by decide +kernel
theorem dX6_countWays_32 : decode cX6_countWays 32 = .ok (.goto 4, 3) := by decide +kernel
theorem dX6_countWays_35 : decode cX6_countWays 35 = .ok (.iconst 0, 1) := by decide +kernel
theorem dX6_countWays_36 : decode cX6_countWays 36 = .ok (.iastore, 1) := by decide +kernel
theorem dX6_countWays_37 : decode cX6_countWays 37 = .ok (.iconst 0, 1) := by decide +kernel
theorem dX6_countWays_38 : decode cX6_countWays 38 = .ok (.istore 5, 2) := by decide +kernel
theorem dX6_countWays_40 : decode cX6_countWays 40 = .ok (.iload 5, 2) := by decide +kernel
theorem dX6_countWays_42 : decode cX6_countWays 42 = .ok (.aload_n 0, 1) := by decide +kernel
theorem dX6_countWays_43 : decode cX6_countWays 43 = .ok (.getfield 68, 3) := by decide +kernel
theorem dX6_countWays_46 : decode cX6_countWays 46 = .ok (.if_icmp .ge 74, 3) := by decide +kernel
theorem dX6_countWays_49 : decode cX6_countWays 49 = .ok (.iload_n 3, 1) := by decide +kernel
theorem dX6_countWays_50 : decode cX6_countWays 50 = .ok (.iload 5, 2) := by decide +kernel
theorem dX6_countWays_52 : decode cX6_countWays 52 = .ok (.invokestatic 192, 3) := by decide +kernel
theorem dX6_countWays_55 : decode cX6_countWays 55 = .ok (.ifCond .ne 27, 3) := by decide +kernel
theorem dX6_countWays_58 : decode cX6_countWays 58 = .ok (.aload_n 0, 1) := by decide +kernel
theorem dX6_countWays_59 : decode cX6_countWays 59 = .ok (.iload 5, 2) := by decide +kernel
theorem dX6_countWays_61 : decode cX6_countWays 61 = .ok (.iload 4, 2) := by decide +kernel
theorem dX6_countWays_63 : decode cX6_countWays 63 = .ok (.aload_n 0, 1) := by decide +kernel
theorem dX6_countWays_64 : decode cX6_countWays 64 = .ok (.getfield 52, 3) := by decide +kernel
theorem dX6_countWays_67 : decode cX6_countWays 67 = .ok (.iload_n 1, 1) := by decide +kernel
theorem dX6_countWays_68 : decode cX6_countWays 68 = .ok (.iload 4, 2) := by decide +kernel
theorem dX6_countWays_70 : decode cX6_countWays 70 = .ok (.iadd, 1) := by decide +kernel
theorem dX6_countWays_71 : decode cX6_countWays 71 = .ok (.iaload, 1) := by decide +kernel
theorem dX6_countWays_72 : decode cX6_countWays 72 = .ok (.invokevirtual 195, 3) := by decide +kernel
theorem dX6_countWays_75 : decode cX6_countWays 75 = .ok (.ifCond .eq 7, 3) := by decide +kernel
theorem dX6_countWays_78 : decode cX6_countWays 78 = .ok (.iconst 1, 1) := by decide +kernel
theorem dX6_countWays_79 : decode cX6_countWays 79 = .ok (.goto 4, 3) := by decide +kernel
theorem dX6_countWays_82 : decode cX6_countWays 82 = .ok (.iconst 0, 1) := by decide +kernel
theorem dX6_countWays_83 : decode cX6_countWays 83 = .ok (.istore 6, 2) := by decide +kernel
theorem dX6_countWays_85 : decode cX6_countWays 85 = .ok (.aload_n 0, 1) := by decide +kernel
theorem dX6_countWays_86 : decode cX6_countWays 86 = .ok (.getfield 37, 3) := by decide +kernel
theorem dX6_countWays_89 : decode cX6_countWays 89 = .ok (.iload_n 3, 1) := by decide +kernel
theorem dX6_countWays_90 : decode cX6_countWays 90 = .ok (.dup2, 1) := by decide +kernel
theorem dX6_countWays_91 : decode cX6_countWays 91 = .ok (.iaload, 1) := by decide +kernel
theorem dX6_countWays_92 : decode cX6_countWays 92 = .ok (.iload 6, 2) := by decide +kernel
theorem dX6_countWays_94 : decode cX6_countWays 94 = .ok (.ifCond .eq 17, 3) := by decide +kernel
theorem dX6_countWays_97 : decode cX6_countWays 97 = .ok (.aload_n 0, 1) := by decide +kernel
theorem dX6_countWays_98 : decode cX6_countWays 98 = .ok (.getfield 37, 3) := by decide +kernel
theorem dX6_countWays_101 : decode cX6_countWays 101 = .ok (.iload_n 3, 1) := by decide +kernel
theorem dX6_countWays_102 : decode cX6_countWays 102 = .ok (.iconst 1, 1) := by decide +kernel
theorem dX6_countWays_103 : decode cX6_countWays 103 = .ok (.iload 5, 2) := by decide +kernel
theorem dX6_countWays_105 : decode cX6_countWays 105 = .ok (.ishl, 1) := by decide +kernel
theorem dX6_countWays_106 : decode cX6_countWays 106 = .ok (.ior, 1) := by decide +kernel
theorem dX6_countWays_107 : decode cX6_countWays 107 = .ok (.iaload, 1) := by decide +kernel
theorem dX6_countWays_108 : decode cX6_countWays 108 = .ok (.goto 4, 3) := by decide +kernel
theorem dX6_countWays_111 : decode cX6_countWays 111 = .ok (.iconst 0, 1) := by decide +kernel
theorem dX6_countWays_112 : decode cX6_countWays 112 = .ok (.iadd, 1) := by decide +kernel
theorem dX6_countWays_113 : decode cX6_countWays 113 = .ok (.iastore, 1) := by decide +kernel
theorem dX6_countWays_114 : decode cX6_countWays 114 = .ok (.iinc 5 1, 3) := by decide +kernel
theorem dX6_countWays_117 : decode cX6_countWays 117 = .ok (.goto (-77), 3) := by decide +kernel
theorem dX6_countWays_120 : decode cX6_countWays 120 = .ok (.iinc 3 (-1), 3) := by decide +kernel
theorem dX6_countWays_123 : decode cX6_countWays 123 = .ok (.goto (-112), 3) := by decide +kernel
theorem dX6_countWays_126 : decode cX6_countWays 126 = .ok (.return_, 1) := by decide +kernel
set_option maxRecDepth 20000 in
theorem ggX6_firstIn_X6_isIn : GoodIn wsX6_firstIn wsX6_isIn := goodIn_r _ [7] (by decide +kernel) (by decide +kernel)
set_option maxRecDepth 20000 in
theorem gX6_firstIn_X6_isIn : GoodIn wsX6_firstIn (va_wsS RX6 192 yX6_isIn wsX6_isIn) := goodIn_app (goodIn_of _ (by decide +kernel)) ggX6_firstIn_X6_isIn
set_option maxRecDepth 20000 in
theorem ggX6_firstIn_X6_mayLie : GoodIn wsX6_firstIn wsX6_mayLie := goodIn_r _ [11, 12, 13, 14, 15, 6, 16, 17, 18, 19, 20, 21, 22, 23, 24, 25, 26, 27, 28, 29, 30, 31, 32, 33, 34, 35, 36, 37, 38, 39, 40, 41, 42, 43, 44, 45, 46, 47, 48, 49, 50, 51, 52, 53, 54, 55, 56, 57] (by decide +kernel) (by decide +kernel)
set_option maxRecDepth 20000 in
theorem gX6_firstIn_X6_mayLie : GoodIn wsX6_firstIn (wsV RX6 195 RX6 yX6_mayLie wsX6_mayLie) := goodIn_app (goodIn_of _ (by decide +kernel)) ggX6_firstIn_X6_mayLie
theorem dX6_firstIn_0 : decode cX6_firstIn 0 = .ok (.iconst 0, 1) := by decide +kernel
theorem dX6_firstIn_1 : decode cX6_firstIn 1 = .ok (.istore_n 3, 1) := by decide +kernel
theorem dX6_firstIn_2 : decode cX6_firstIn 2 = .ok (.bipush (-9), 2) := by decide +kernel
theorem dX6_firstIn_4 : decode cX6_firstIn 4 = .ok (.istore 4, 2) := by decide +kernel
theorem dX6_firstIn_6 : decode cX6_firstIn 6 = .ok (.iconst 0, 1) := by decide +kernel
theorem dX6_firstIn_7 : decode cX6_firstIn 7 = .ok (.istore 5, 2) := by decide +kernel
theorem dX6_firstIn_9 : decode cX6_firstIn 9 = .ok (.iload 5, 2) := by decide +kernel
theorem dX6_firstIn_11 : decode cX6_firstIn 11 = .ok (.iload_n 2, 1) := by decide +kernel
theorem dX6_firstIn_12 : decode cX6_firstIn 12 = .ok (.if_icmp .gt 103, 3) := by decide +kernel
theorem dX6_firstIn_15 : decode cX6_firstIn 15 = .ok (.bipush (-9), 2) := by decide +kernel
theorem dX6_firstIn_17 : decode cX6_firstIn 17 = .ok (.istore 4, 2) := by decide +kernel
theorem dX6_firstIn_19 : decode cX6_firstIn 19 = .ok (.aload_n 0, 1) := by decide +kernel
theorem dX6_firstIn_20 : decode cX6_firstIn 20 = .ok (.getfield 68, 3) := by decide +kernel
theorem dX6_firstIn_23 : decode cX6_firstIn 23 = .ok (.iconst 1, 1) := by decide +kernel
theorem dX6_firstIn_24 : decode cX6_firstIn 24 = .ok (.isub, 1) := by decide +kernel
theorem dX6_firstIn_25 : decode cX6_firstIn 25 = .ok (.istore 6, 2) := by decide +kernel
theorem dX6_firstIn_27 : decode cX6_firstIn 27 = .ok (.iload 6, 2) := by decide +kernel
theorem dX6_firstIn_29 : decode cX6_firstIn 29 = .ok (.ifCond .lt 73, 3) := by decide +kernel
theorem dX6_firstIn_32 : decode cX6_firstIn 32 = .ok (.iload_n 3, 1) := by decide +kernel
theorem dX6_firstIn_33 : decode cX6_firstIn 33 = .ok (.iload 6, 2) := by decide +kernel
theorem dX6_firstIn_35 : decode cX6_firstIn 35 = .ok (.invokestatic 192, 3) := by decide +kernel
theorem dX6_firstIn_38 : decode cX6_firstIn 38 = .ok (.ifCond .ne 41, 3) := by decide +kernel
theorem dX6_firstIn_41 : decode cX6_firstIn 41 = .ok (.aload_n 0, 1) := by decide +kernel
theorem dX6_firstIn_42 : decode cX6_firstIn 42 = .ok (.iload 6, 2) := by decide +kernel
theorem dX6_firstIn_44 : decode cX6_firstIn 44 = .ok (.iload 5, 2) := by decide +kernel
theorem dX6_firstIn_46 : decode cX6_firstIn 46 = .ok (.aload_n 0, 1) := by decide +kernel
theorem dX6_firstIn_47 : decode cX6_firstIn 47 = .ok (.getfield 52, 3) := by decide +kernel
theorem dX6_firstIn_50 : decode cX6_firstIn 50 = .ok (.iload_n 1, 1) := by decide +kernel
theorem dX6_firstIn_51 : decode cX6_firstIn 51 = .ok (.iload 5, 2) := by decide +kernel
theorem dX6_firstIn_53 : decode cX6_firstIn 53 = .ok (.iadd, 1) := by decide +kernel
theorem dX6_firstIn_54 : decode cX6_firstIn 54 = .ok (.iaload, 1) := by decide +kernel
theorem dX6_firstIn_55 : decode cX6_firstIn 55 = .ok (.invokevirtual 195, 3) := by decide +kernel
theorem dX6_firstIn_58 : decode cX6_firstIn 58 = .ok (.ifCond .eq 21, 3) := by decide +kernel
theorem dX6_firstIn_61 : decode cX6_firstIn 61 = .ok (.aload_n 0, 1) := by decide +kernel
theorem dX6_firstIn_62 : decode cX6_firstIn 62 = .ok (.getfield 37, 3) := by decide +kernel
theorem dX6_firstIn_65 : decode cX6_firstIn 65 = .ok (.iload_n 3, 1) := by decide +kernel
theorem dX6_firstIn_66 : decode cX6_firstIn 66 = .ok (.iconst 1, 1) := by decide +kernel
theorem dX6_firstIn_67 : decode cX6_firstIn 67 = .ok (.iload 6, 2) := by decide +kernel
theorem dX6_firstIn_69 : decode cX6_firstIn 69 = .ok (.ishl, 1) := by decide +kernel
theorem dX6_firstIn_70 : decode cX6_firstIn 70 = .ok (.ior, 1) := by decide +kernel
theorem dX6_firstIn_71 : decode cX6_firstIn 71 = .ok (.iaload, 1) := by decide +kernel
theorem dX6_firstIn_72 : decode cX6_firstIn 72 = .ok (.ifCond .le 7, 3) := by decide +kernel
theorem dX6_firstIn_75 : decode cX6_firstIn 75 = .ok (.iconst 1, 1) := by decide +kernel
theorem dX6_firstIn_76 : decode cX6_firstIn 76 = .ok (.goto 4, 3) := by decide +kernel
theorem dX6_firstIn_79 : decode cX6_firstIn 79 = .ok (.iconst 0, 1) := by decide +kernel
theorem dX6_firstIn_80 : decode cX6_firstIn 80 = .ok (.istore 7, 2) := by decide +kernel
theorem dX6_firstIn_82 : decode cX6_firstIn 82 = .ok (.iload 7, 2) := by decide +kernel
theorem dX6_firstIn_84 : decode cX6_firstIn 84 = .ok (.ifCond .eq 8, 3) := by decide +kernel
theorem dX6_firstIn_87 : decode cX6_firstIn 87 = .ok (.iload 6, 2) := by decide +kernel
theorem dX6_firstIn_89 : decode cX6_firstIn 89 = .ok (.goto 5, 3) := by decide +kernel
theorem dX6_firstIn_92 : decode cX6_firstIn 92 = .ok (.iload 4, 2) := by decide +kernel
theorem dX6_firstIn_94 : decode cX6_firstIn 94 = .ok (.istore 4, 2) := by decide +kernel
theorem dX6_firstIn_96 : decode cX6_firstIn 96 = .ok (.iinc 6 (-1), 3) := by decide +kernel
theorem dX6_firstIn_99 : decode cX6_firstIn 99 = .ok (.goto (-72), 3) := by decide +kernel
theorem dX6_firstIn_102 : decode cX6_firstIn 102 = .ok (.iload_n 3, 1) := by decide +kernel
theorem dX6_firstIn_103 : decode cX6_firstIn 103 = .ok (.iconst 1, 1) := by decide +kernel
theorem dX6_firstIn_104 : decode cX6_firstIn 104 = .ok (.iload 4, 2) := by decide +kernel
theorem dX6_firstIn_106 : decode cX6_firstIn 106 = .ok (.ishl, 1) := by decide +kernel
theorem dX6_firstIn_107 : decode cX6_firstIn 107 = .ok (.ior, 1) := by decide +kernel
theorem dX6_firstIn_108 : decode cX6_firstIn 108 = .ok (.istore_n 3, 1) := by decide +kernel
theorem dX6_firstIn_109 : decode cX6_firstIn 109 = .ok (.iinc 5 1, 3) := by decide +kernel
theorem dX6_firstIn_112 : decode cX6_firstIn 112 = .ok (.goto (-103), 3) := by decide +kernel
theorem dX6_firstIn_115 : decode cX6_firstIn 115 = .ok (.iload 4, 2) := by decide +kernel
theorem dX6_firstIn_117 : decode cX6_firstIn 117 = .ok (.ireturn, 1) := by decide +kernel
set_option maxRecDepth 20000 in
theorem ggX6_layers_X6_noSheet : GoodIn wsX6_layers wsX6_noSheet := goodIn_r _ [11, 12, 13, 14, 10, 15] (by decide +kernel) (by decide +kernel)
set_option maxRecDepth 20000 in
theorem gX6_layers_X6_noSheet : GoodIn wsX6_layers (va_wsS RX6 110 yX6_noSheet wsX6_noSheet) := goodIn_app (goodIn_of _ (by decide +kernel)) ggX6_layers_X6_noSheet
set_option maxRecDepth 20000 in
theorem ggX6_layers_X6_refused : GoodIn wsX6_layers wsX6_refused := goodIn_r _ [19, 20, 68, 69, 70, 71, 72, 73, 74, 75, 76, 77, 78, 79, 80, 81, 82, 83, 84, 85, 86, 87, 88, 89, 90, 91, 92, 93, 94, 95, 96, 97] (by decide +kernel) (by decide +kernel)
set_option maxRecDepth 20000 in
theorem gX6_layers_X6_refused : GoodIn wsX6_layers (wsV RX6 114 RX6 yX6_refused wsX6_refused) := goodIn_app (goodIn_of _ (by decide +kernel)) ggX6_layers_X6_refused
set_option maxRecDepth 20000 in
theorem ggX6_layers_X6_in : GoodIn wsX6_layers wsX6_in := goodIn_r _ [15] (by decide +kernel) (by decide +kernel)
set_option maxRecDepth 20000 in
theorem gX6_layers_X6_in : GoodIn wsX6_layers (va_wsS RX6 71 yX6_in wsX6_in) := goodIn_app (goodIn_of _ (by decide +kernel)) ggX6_layers_X6_in
set_option maxRecDepth 20000 in
theorem ggX6_layers_X6_cellsBarred : GoodIn wsX6_layers wsX6_cellsBarred := goodIn_r _ [24, 25, 26, 27, 28, 29, 10, 30, 20, 31, 32, 33, 68, 69, 70, 71, 72, 73, 74, 75, 76, 77, 78, 79, 80, 81, 82, 83, 84, 85, 86, 87, 88, 89, 90, 91, 92, 93, 94, 95, 96, 97] (by decide +kernel) (by decide +kernel)
set_option maxRecDepth 20000 in
theorem gX6_layers_X6_cellsBarred : GoodIn wsX6_layers (wsV RX6 119 RX6 yX6_cellsBarred wsX6_cellsBarred) := goodIn_app (goodIn_of _ (by decide +kernel)) ggX6_layers_X6_cellsBarred
set_option maxRecDepth 20000 in
theorem ggX6_layers_X6_countWays : GoodIn wsX6_layers wsX6_countWays := goodIn_r _ [37, 4, 7, 5, 38, 39, 10, 40, 41, 42, 43, 44, 45, 46, 47, 48, 49, 50, 51, 52, 53, 54, 55, 56, 57, 58, 59, 60, 61, 62, 63, 68, 69, 70, 71, 72, 73, 74, 75, 76, 77, 78, 79, 80, 81, 82, 83, 84, 85, 86, 87, 88, 89, 90, 91, 92, 93, 94, 95, 96, 97] (by decide +kernel) (by decide +kernel)
set_option maxRecDepth 20000 in
theorem gX6_layers_X6_countWays : GoodIn wsX6_layers (wsV RX6 205 RX6 yX6_countWays wsX6_countWays) := goodIn_app (goodIn_of _ (by decide +kernel)) ggX6_layers_X6_countWays
set_option maxRecDepth 20000 in
theorem ggX6_layers_X6_firstIn : GoodIn wsX6_layers wsX6_firstIn := goodIn_r _ [67, 4, 5, 7, 41, 42, 10, 43, 44, 45, 46, 47, 48, 49, 50, 51, 52, 53, 54, 55, 56, 57, 58, 59, 60, 61, 62, 63, 68, 69, 70, 71, 72, 73, 74, 75, 76, 77, 78, 79, 80, 81, 82, 83, 84, 85, 86, 87, 88, 89, 90, 91, 92, 93, 94, 95, 96, 97] (by decide +kernel) (by decide +kernel)
set_option maxRecDepth 20000 in
theorem gX6_layers_X6_firstIn : GoodIn wsX6_layers (wsV RX6 209 RX6 yX6_firstIn wsX6_firstIn) := goodIn_app (goodIn_of _ (by decide +kernel)) ggX6_layers_X6_firstIn
theorem dX6_layers_0 : decode cX6_layers 0 = .ok (.iload_n 1, 1) := by decide +kernel
theorem dX6_layers_1 : decode cX6_layers 1 = .ok (.invokestatic 110, 3) := by decide +kernel
theorem dX6_layers_4 : decode cX6_layers 4 = .ok (.ifCond .eq 9, 3) := by decide +kernel
theorem dX6_layers_7 : decode cX6_layers 7 = .ok (.aload_n 0, 1) := by decide +kernel
theorem dX6_layers_8 : decode cX6_layers 8 = .ok (.iconst (-1), 1) := by decide +kernel
theorem dX6_layers_9 : decode cX6_layers 9 = .ok (.invokevirtual 114, 3) := by decide +kernel
theorem dX6_layers_12 : decode cX6_layers 12 = .ok (.ireturn, 1) := by decide +kernel
theorem dX6_layers_13 : decode cX6_layers 13 = .ok (.iload_n 2, 1) := by decide +kernel
theorem dX6_layers_14 : decode cX6_layers 14 = .ok (.i2l, 1) := by decide +kernel
theorem dX6_layers_15 : decode cX6_layers 15 = .ok (.lconst 0, 1) := by decide +kernel
theorem dX6_layers_16 : decode cX6_layers 16 = .ok (.ldc2_w 117, 3) := by decide +kernel
theorem dX6_layers_19 : decode cX6_layers 19 = .ok (.invokestatic 71, 3) := by decide +kernel
theorem dX6_layers_22 : decode cX6_layers 22 = .ok (.ifCond .eq 18, 3) := by decide +kernel
theorem dX6_layers_25 : decode cX6_layers 25 = .ok (.iload 4, 2) := by decide +kernel
theorem dX6_layers_27 : decode cX6_layers 27 = .ok (.i2l, 1) := by decide +kernel
theorem dX6_layers_28 : decode cX6_layers 28 = .ok (.ldc2_w 199, 3) := by decide +kernel
theorem dX6_layers_31 : decode cX6_layers 31 = .ok (.ldc2_w 201, 3) := by decide +kernel
theorem dX6_layers_34 : decode cX6_layers 34 = .ok (.invokestatic 71, 3) := by decide +kernel
theorem dX6_layers_37 : decode cX6_layers 37 = .ok (.ifCond .ne 10, 3) := by decide +kernel
theorem dX6_layers_40 : decode cX6_layers 40 = .ok (.aload_n 0, 1) := by decide +kernel
theorem dX6_layers_41 : decode cX6_layers 41 = .ok (.bipush (-2), 2) := by decide +kernel
theorem dX6_layers_43 : decode cX6_layers 43 = .ok (.invokevirtual 114, 3) := by decide +kernel
theorem dX6_layers_46 : decode cX6_layers 46 = .ok (.ireturn, 1) := by decide +kernel
theorem dX6_layers_47 : decode cX6_layers 47 = .ok (.aload_n 0, 1) := by decide +kernel
theorem dX6_layers_48 : decode cX6_layers 48 = .ok (.getfield 68, 3) := by decide +kernel
theorem dX6_layers_51 : decode cX6_layers 51 = .ok (.ifCond .ne 10, 3) := by decide +kernel
theorem dX6_layers_54 : decode cX6_layers 54 = .ok (.aload_n 0, 1) := by decide +kernel
theorem dX6_layers_55 : decode cX6_layers 55 = .ok (.bipush (-3), 2) := by decide +kernel
theorem dX6_layers_57 : decode cX6_layers 57 = .ok (.invokevirtual 114, 3) := by decide +kernel
theorem dX6_layers_60 : decode cX6_layers 60 = .ok (.ireturn, 1) := by decide +kernel
theorem dX6_layers_61 : decode cX6_layers 61 = .ok (.aload_n 0, 1) := by decide +kernel
theorem dX6_layers_62 : decode cX6_layers 62 = .ok (.iload_n 1, 1) := by decide +kernel
theorem dX6_layers_63 : decode cX6_layers 63 = .ok (.iload_n 2, 1) := by decide +kernel
theorem dX6_layers_64 : decode cX6_layers 64 = .ok (.iload_n 3, 1) := by decide +kernel
theorem dX6_layers_65 : decode cX6_layers 65 = .ok (.aload_n 0, 1) := by decide +kernel
theorem dX6_layers_66 : decode cX6_layers 66 = .ok (.getfield 68, 3) := by decide +kernel
theorem dX6_layers_69 : decode cX6_layers 69 = .ok (.i2l, 1) := by decide +kernel
theorem dX6_layers_70 : decode cX6_layers 70 = .ok (.invokevirtual 119, 3) := by decide +kernel
theorem dX6_layers_73 : decode cX6_layers 73 = .ok (.istore 5, 2) := by decide +kernel
theorem dX6_layers_75 : decode cX6_layers 75 = .ok (.iload 5, 2) := by decide +kernel
theorem dX6_layers_77 : decode cX6_layers 77 = .ok (.ifCond .ge 6, 3) := by decide +kernel
theorem dX6_layers_80 : decode cX6_layers 80 = .ok (.iload 5, 2) := by decide +kernel
theorem dX6_layers_82 : decode cX6_layers 82 = .ok (.ireturn, 1) := by decide +kernel
theorem dX6_layers_83 : decode cX6_layers 83 = .ok (.iconst 0, 1) := by decide +kernel
theorem dX6_layers_84 : decode cX6_layers 84 = .ok (.istore 6, 2) := by decide +kernel
theorem dX6_layers_86 : decode cX6_layers 86 = .ok (.iload 6, 2) := by decide +kernel
theorem dX6_layers_88 : decode cX6_layers 88 = .ok (.aload_n 0, 1) := by decide +kernel
theorem dX6_layers_89 : decode cX6_layers 89 = .ok (.getfield 68, 3) := by decide +kernel
theorem dX6_layers_92 : decode cX6_layers 92 = .ok (.if_icmp .ge 41, 3) := by decide +kernel
theorem dX6_layers_95 : decode cX6_layers 95 = .ok (.aload_n 0, 1) := by decide +kernel
theorem dX6_layers_96 : decode cX6_layers 96 = .ok (.getfield 52, 3) := by decide +kernel
theorem dX6_layers_99 : decode cX6_layers 99 = .ok (.bipush 60, 2) := by decide +kernel
theorem dX6_layers_101 : decode cX6_layers 101 = .ok (.iload_n 1, 1) := by decide +kernel
theorem dX6_layers_102 : decode cX6_layers 102 = .ok (.imul, 1) := by decide +kernel
theorem dX6_layers_103 : decode cX6_layers 103 = .ok (.iload_n 3, 1) := by decide +kernel
theorem dX6_layers_104 : decode cX6_layers 104 = .ok (.iadd, 1) := by decide +kernel
theorem dX6_layers_105 : decode cX6_layers 105 = .ok (.iload 6, 2) := by decide +kernel
theorem dX6_layers_107 : decode cX6_layers 107 = .ok (.iadd, 1) := by decide +kernel
theorem dX6_layers_108 : decode cX6_layers 108 = .ok (.iaload, 1) := by decide +kernel
theorem dX6_layers_109 : decode cX6_layers 109 = .ok (.i2l, 1) := by decide +kernel
theorem dX6_layers_110 : decode cX6_layers 110 = .ok (.lconst 0, 1) := by decide +kernel
theorem dX6_layers_111 : decode cX6_layers 111 = .ok (.ldc2_w 203, 3) := by decide +kernel
theorem dX6_layers_114 : decode cX6_layers 114 = .ok (.invokestatic 71, 3) := by decide +kernel
theorem dX6_layers_117 : decode cX6_layers 117 = .ok (.ifCond .ne 10, 3) := by decide +kernel
theorem dX6_layers_120 : decode cX6_layers 120 = .ok (.aload_n 0, 1) := by decide +kernel
theorem dX6_layers_121 : decode cX6_layers 121 = .ok (.bipush (-2), 2) := by decide +kernel
theorem dX6_layers_123 : decode cX6_layers 123 = .ok (.invokevirtual 114, 3) := by decide +kernel
theorem dX6_layers_126 : decode cX6_layers 126 = .ok (.ireturn, 1) := by decide +kernel
theorem dX6_layers_127 : decode cX6_layers 127 = .ok (.iinc 6 1, 3) := by decide +kernel
theorem dX6_layers_130 : decode cX6_layers 130 = .ok (.goto (-44), 3) := by decide +kernel
theorem dX6_layers_133 : decode cX6_layers 133 = .ok (.aload_n 0, 1) := by decide +kernel
theorem dX6_layers_134 : decode cX6_layers 134 = .ok (.bipush 60, 2) := by decide +kernel
theorem dX6_layers_136 : decode cX6_layers 136 = .ok (.iload_n 1, 1) := by decide +kernel
theorem dX6_layers_137 : decode cX6_layers 137 = .ok (.imul, 1) := by decide +kernel
theorem dX6_layers_138 : decode cX6_layers 138 = .ok (.iload_n 3, 1) := by decide +kernel
theorem dX6_layers_139 : decode cX6_layers 139 = .ok (.iadd, 1) := by decide +kernel
theorem dX6_layers_140 : decode cX6_layers 140 = .ok (.invokevirtual 205, 3) := by decide +kernel
theorem dX6_layers_143 : decode cX6_layers 143 = .ok (.iload 4, 2) := by decide +kernel
theorem dX6_layers_145 : decode cX6_layers 145 = .ok (.ifCond .ge 14, 3) := by decide +kernel
theorem dX6_layers_148 : decode cX6_layers 148 = .ok (.aload_n 0, 1) := by decide +kernel
theorem dX6_layers_149 : decode cX6_layers 149 = .ok (.aload_n 0, 1) := by decide +kernel
theorem dX6_layers_150 : decode cX6_layers 150 = .ok (.getfield 37, 3) := by decide +kernel
theorem dX6_layers_153 : decode cX6_layers 153 = .ok (.iconst 0, 1) := by decide +kernel
theorem dX6_layers_154 : decode cX6_layers 154 = .ok (.iaload, 1) := by decide +kernel
theorem dX6_layers_155 : decode cX6_layers 155 = .ok (.invokevirtual 114, 3) := by decide +kernel
theorem dX6_layers_158 : decode cX6_layers 158 = .ok (.ireturn, 1) := by decide +kernel
theorem dX6_layers_159 : decode cX6_layers 159 = .ok (.aload_n 0, 1) := by decide +kernel
theorem dX6_layers_160 : decode cX6_layers 160 = .ok (.aload_n 0, 1) := by decide +kernel
theorem dX6_layers_161 : decode cX6_layers 161 = .ok (.getfield 37, 3) := by decide +kernel
theorem dX6_layers_164 : decode cX6_layers 164 = .ok (.iconst 0, 1) := by decide +kernel
theorem dX6_layers_165 : decode cX6_layers 165 = .ok (.iaload, 1) := by decide +kernel
theorem dX6_layers_166 : decode cX6_layers 166 = .ok (.ifCond .eq 12, 3) := by decide +kernel
theorem dX6_layers_169 : decode cX6_layers 169 = .ok (.iload 4, 2) := by decide +kernel
theorem dX6_layers_171 : decode cX6_layers 171 = .ok (.aload_n 0, 1) := by decide +kernel
theorem dX6_layers_172 : decode cX6_layers 172 = .ok (.getfield 68, 3) := by decide +kernel
theorem dX6_layers_175 : decode cX6_layers 175 = .ok (.if_icmp .lt 8, 3) := by decide +kernel
theorem dX6_layers_178 : decode cX6_layers 178 = .ok (.bipush (-9), 2) := by decide +kernel
theorem dX6_layers_180 : decode cX6_layers 180 = .ok (.goto 15, 3) := by decide +kernel
theorem dX6_layers_183 : decode cX6_layers 183 = .ok (.aload_n 0, 1) := by decide +kernel
theorem dX6_layers_184 : decode cX6_layers 184 = .ok (.bipush 60, 2) := by decide +kernel
theorem dX6_layers_186 : decode cX6_layers 186 = .ok (.iload_n 1, 1) := by decide +kernel
theorem dX6_layers_187 : decode cX6_layers 187 = .ok (.imul, 1) := by decide +kernel
theorem dX6_layers_188 : decode cX6_layers 188 = .ok (.iload_n 3, 1) := by decide +kernel
theorem dX6_layers_189 : decode cX6_layers 189 = .ok (.iadd, 1) := by decide +kernel
theorem dX6_layers_190 : decode cX6_layers 190 = .ok (.iload 4, 2) := by decide +kernel
theorem dX6_layers_192 : decode cX6_layers 192 = .ok (.invokevirtual 209, 3) := by decide +kernel
theorem dX6_layers_195 : decode cX6_layers 195 = .ok (.invokevirtual 114, 3) := by decide +kernel
theorem dX6_layers_198 : decode cX6_layers 198 = .ok (.ireturn, 1) := by decide +kernel
set_option maxRecDepth 20000 in
theorem ggX6_reading_X6_noPin : GoodIn wsX6_reading wsX6_noPin := goodIn_r _ [9, 10, 11, 12, 8, 13, 14, 15, 16, 17, 18, 19, 20, 21, 22, 23, 24, 25, 26, 27, 28, 29, 30, 31, 32, 33, 34, 35, 36, 37, 38, 39, 40, 41, 42, 43] (by decide +kernel) (by decide +kernel)
set_option maxRecDepth 20000 in
theorem gX6_reading_X6_noPin : GoodIn wsX6_reading (wsV RX6 147 RX6 yX6_noPin wsX6_noPin) := goodIn_app (goodIn_of _ (by decide +kernel)) ggX6_reading_X6_noPin
set_option maxRecDepth 20000 in
theorem ggX6_reading_X6_in : GoodIn wsX6_reading wsX6_in := goodIn_r _ [13] (by decide +kernel) (by decide +kernel)
set_option maxRecDepth 20000 in
theorem gX6_reading_X6_in : GoodIn wsX6_reading (va_wsS RX6 71 yX6_in wsX6_in) := goodIn_app (goodIn_of _ (by decide +kernel)) ggX6_reading_X6_in
theorem dX6_reading_0 : decode cX6_reading 0 = .ok (.aload_n 0, 1) := by decide +kernel
theorem dX6_reading_1 : decode cX6_reading 1 = .ok (.iload_n 1, 1) := by decide +kernel
theorem dX6_reading_2 : decode cX6_reading 2 = .ok (.invokevirtual 147, 3) := by decide +kernel
theorem dX6_reading_5 : decode cX6_reading 5 = .ok (.ifCond .eq 5, 3) := by decide +kernel
theorem dX6_reading_8 : decode cX6_reading 8 = .ok (.iconst (-1), 1) := by decide +kernel
theorem dX6_reading_9 : decode cX6_reading 9 = .ok (.ireturn, 1) := by decide +kernel
theorem dX6_reading_10 : decode cX6_reading 10 = .ok (.iload_n 2, 1) := by decide +kernel
theorem dX6_reading_11 : decode cX6_reading 11 = .ok (.i2l, 1) := by decide +kernel
theorem dX6_reading_12 : decode cX6_reading 12 = .ok (.lconst 0, 1) := by decide +kernel
theorem dX6_reading_13 : decode cX6_reading 13 = .ok (.ldc2_w 155, 3) := by decide +kernel
theorem dX6_reading_16 : decode cX6_reading 16 = .ok (.invokestatic 71, 3) := by decide +kernel
theorem dX6_reading_19 : decode cX6_reading 19 = .ok (.ifCond .ne 6, 3) := by decide +kernel
theorem dX6_reading_22 : decode cX6_reading 22 = .ok (.bipush (-2), 2) := by decide +kernel
theorem dX6_reading_24 : decode cX6_reading 24 = .ok (.ireturn, 1) := by decide +kernel
theorem dX6_reading_25 : decode cX6_reading 25 = .ok (.aload_n 0, 1) := by decide +kernel
theorem dX6_reading_26 : decode cX6_reading 26 = .ok (.getfield 135, 3) := by decide +kernel
theorem dX6_reading_29 : decode cX6_reading 29 = .ok (.bipush 8, 2) := by decide +kernel
theorem dX6_reading_31 : decode cX6_reading 31 = .ok (.if_icmp .ne 6, 3) := by decide +kernel
theorem dX6_reading_34 : decode cX6_reading 34 = .ok (.bipush (-4), 2) := by decide +kernel
theorem dX6_reading_36 : decode cX6_reading 36 = .ok (.ireturn, 1) := by decide +kernel
theorem dX6_reading_37 : decode cX6_reading 37 = .ok (.aload_n 0, 1) := by decide +kernel
theorem dX6_reading_38 : decode cX6_reading 38 = .ok (.getfield 40, 3) := by decide +kernel
theorem dX6_reading_41 : decode cX6_reading 41 = .ok (.aload_n 0, 1) := by decide +kernel
theorem dX6_reading_42 : decode cX6_reading 42 = .ok (.getfield 135, 3) := by decide +kernel
theorem dX6_reading_45 : decode cX6_reading 45 = .ok (.iload_n 1, 1) := by decide +kernel
theorem dX6_reading_46 : decode cX6_reading 46 = .ok (.iastore, 1) := by decide +kernel
theorem dX6_reading_47 : decode cX6_reading 47 = .ok (.aload_n 0, 1) := by decide +kernel
theorem dX6_reading_48 : decode cX6_reading 48 = .ok (.getfield 43, 3) := by decide +kernel
theorem dX6_reading_51 : decode cX6_reading 51 = .ok (.aload_n 0, 1) := by decide +kernel
theorem dX6_reading_52 : decode cX6_reading 52 = .ok (.getfield 135, 3) := by decide +kernel
theorem dX6_reading_55 : decode cX6_reading 55 = .ok (.iload_n 2, 1) := by decide +kernel
theorem dX6_reading_56 : decode cX6_reading 56 = .ok (.iastore, 1) := by decide +kernel
theorem dX6_reading_57 : decode cX6_reading 57 = .ok (.aload_n 0, 1) := by decide +kernel
theorem dX6_reading_58 : decode cX6_reading 58 = .ok (.dup, 1) := by decide +kernel
theorem dX6_reading_59 : decode cX6_reading 59 = .ok (.getfield 135, 3) := by decide +kernel
theorem dX6_reading_62 : decode cX6_reading 62 = .ok (.iconst 1, 1) := by decide +kernel
theorem dX6_reading_63 : decode cX6_reading 63 = .ok (.iadd, 1) := by decide +kernel
theorem dX6_reading_64 : decode cX6_reading 64 = .ok (.putfield 135, 3) := by decide +kernel
theorem dX6_reading_67 : decode cX6_reading 67 = .ok (.aload_n 0, 1) := by decide +kernel
theorem dX6_reading_68 : decode cX6_reading 68 = .ok (.getfield 135, 3) := by decide +kernel
theorem dX6_reading_71 : decode cX6_reading 71 = .ok (.iconst 1, 1) := by decide +kernel
theorem dX6_reading_72 : decode cX6_reading 72 = .ok (.isub, 1) := by decide +kernel
theorem dX6_reading_73 : decode cX6_reading 73 = .ok (.ireturn, 1) := by decide +kernel
set_option maxRecDepth 20000 in
theorem ggX6_back_X6_in : GoodIn wsX6_back wsX6_in := goodIn_r _ [5] (by decide +kernel) (by decide +kernel)
set_option maxRecDepth 20000 in
theorem gX6_back_X6_in : GoodIn wsX6_back (va_wsS RX6 71 yX6_in wsX6_in) := goodIn_app (goodIn_of _ (by decide +kernel)) ggX6_back_X6_in
theorem dX6_back_0 : decode cX6_back 0 = .ok (.iload_n 1, 1) := by decide +kernel
theorem dX6_back_1 : decode cX6_back 1 = .ok (.i2l, 1) := by decide +kernel
theorem dX6_back_2 : decode cX6_back 2 = .ok (.lconst 0, 1) := by decide +kernel
theorem dX6_back_3 : decode cX6_back 3 = .ok (.aload_n 0, 1) := by decide +kernel
theorem dX6_back_4 : decode cX6_back 4 = .ok (.getfield 135, 3) := by decide +kernel
theorem dX6_back_7 : decode cX6_back 7 = .ok (.i2l, 1) := by decide +kernel
theorem dX6_back_8 : decode cX6_back 8 = .ok (.invokestatic 71, 3) := by decide +kernel
theorem dX6_back_11 : decode cX6_back 11 = .ok (.ifCond .ne 6, 3) := by decide +kernel
theorem dX6_back_14 : decode cX6_back 14 = .ok (.bipush (-2), 2) := by decide +kernel
theorem dX6_back_16 : decode cX6_back 16 = .ok (.ireturn, 1) := by decide +kernel
theorem dX6_back_17 : decode cX6_back 17 = .ok (.aload_n 0, 1) := by decide +kernel
theorem dX6_back_18 : decode cX6_back 18 = .ok (.dup, 1) := by decide +kernel
theorem dX6_back_19 : decode cX6_back 19 = .ok (.getfield 135, 3) := by decide +kernel
theorem dX6_back_22 : decode cX6_back 22 = .ok (.iload_n 1, 1) := by decide +kernel
theorem dX6_back_23 : decode cX6_back 23 = .ok (.isub, 1) := by decide +kernel
theorem dX6_back_24 : decode cX6_back 24 = .ok (.putfield 135, 3) := by decide +kernel
theorem dX6_back_27 : decode cX6_back 27 = .ok (.aload_n 0, 1) := by decide +kernel
theorem dX6_back_28 : decode cX6_back 28 = .ok (.getfield 135, 3) := by decide +kernel
theorem dX6_back_31 : decode cX6_back 31 = .ok (.ireturn, 1) := by decide +kernel
set_option maxRecDepth 20000 in
theorem ggX6_areSo_X6_wishOf : GoodIn wsX6_areSo wsX6_wishOf := goodIn_r _ [8, 9, 10, 11, 12, 7, 13, 14, 15, 16, 17, 18, 19, 20, 21, 22, 23, 24, 25, 26, 27, 28, 29, 30, 31, 32, 33, 34, 35, 36, 37, 38, 39, 40, 41, 42, 43, 44, 45, 46, 47, 48, 49, 50, 51, 52, 53, 54] (by decide +kernel) (by decide +kernel)
set_option maxRecDepth 20000 in
theorem gX6_areSo_X6_wishOf : GoodIn wsX6_areSo (wsV RX6 150 RX6 yX6_wishOf wsX6_wishOf) := goodIn_app (goodIn_of _ (by decide +kernel)) ggX6_areSo_X6_wishOf
theorem dX6_areSo_0 : decode cX6_areSo 0 = .ok (.iconst 1, 1) := by decide +kernel
theorem dX6_areSo_1 : decode cX6_areSo 1 = .ok (.istore_n 1, 1) := by decide +kernel
theorem dX6_areSo_2 : decode cX6_areSo 2 = .ok (.iconst 0, 1) := by decide +kernel
theorem dX6_areSo_3 : decode cX6_areSo 3 = .ok (.istore_n 2, 1) := by decide +kernel
theorem dX6_areSo_4 : decode cX6_areSo 4 = .ok (.iload_n 2, 1) := by decide +kernel
theorem dX6_areSo_5 : decode cX6_areSo 5 = .ok (.aload_n 0, 1) := by decide +kernel
theorem dX6_areSo_6 : decode cX6_areSo 6 = .ok (.getfield 135, 3) := by decide +kernel
theorem dX6_areSo_9 : decode cX6_areSo 9 = .ok (.if_icmp .ge 38, 3) := by decide +kernel
theorem dX6_areSo_12 : decode cX6_areSo 12 = .ok (.iload_n 1, 1) := by decide +kernel
theorem dX6_areSo_13 : decode cX6_areSo 13 = .ok (.ifCond .eq 26, 3) := by decide +kernel
theorem dX6_areSo_16 : decode cX6_areSo 16 = .ok (.aload_n 0, 1) := by decide +kernel
theorem dX6_areSo_17 : decode cX6_areSo 17 = .ok (.aload_n 0, 1) := by decide +kernel
theorem dX6_areSo_18 : decode cX6_areSo 18 = .ok (.getfield 40, 3) := by decide +kernel
theorem dX6_areSo_21 : decode cX6_areSo 21 = .ok (.iload_n 2, 1) := by decide +kernel
theorem dX6_areSo_22 : decode cX6_areSo 22 = .ok (.iaload, 1) := by decide +kernel
theorem dX6_areSo_23 : decode cX6_areSo 23 = .ok (.invokevirtual 150, 3) := by decide +kernel
theorem dX6_areSo_26 : decode cX6_areSo 26 = .ok (.aload_n 0, 1) := by decide +kernel
theorem dX6_areSo_27 : decode cX6_areSo 27 = .ok (.getfield 43, 3) := by decide +kernel
theorem dX6_areSo_30 : decode cX6_areSo 30 = .ok (.iload_n 2, 1) := by decide +kernel
theorem dX6_areSo_31 : decode cX6_areSo 31 = .ok (.iaload, 1) := by decide +kernel
theorem dX6_areSo_32 : decode cX6_areSo 32 = .ok (.if_icmp .ne 7, 3) := by decide +kernel
theorem dX6_areSo_35 : decode cX6_areSo 35 = .ok (.iconst 1, 1) := by decide +kernel
theorem dX6_areSo_36 : decode cX6_areSo 36 = .ok (.goto 4, 3) := by decide +kernel
theorem dX6_areSo_39 : decode cX6_areSo 39 = .ok (.iconst 0, 1) := by decide +kernel
theorem dX6_areSo_40 : decode cX6_areSo 40 = .ok (.istore_n 1, 1) := by decide +kernel
theorem dX6_areSo_41 : decode cX6_areSo 41 = .ok (.iinc 2 1, 3) := by decide +kernel
theorem dX6_areSo_44 : decode cX6_areSo 44 = .ok (.goto (-40), 3) := by decide +kernel
theorem dX6_areSo_47 : decode cX6_areSo 47 = .ok (.iload_n 1, 1) := by decide +kernel
theorem dX6_areSo_48 : decode cX6_areSo 48 = .ok (.ireturn, 1) := by decide +kernel
set_option maxRecDepth 20000 in
theorem ggX6_bends_X6_noPin : GoodIn wsX6_bends wsX6_noPin := goodIn_r _ [6, 7, 8, 9, 5, 10, 37, 38, 39, 40, 41, 42, 43, 44, 45, 46, 47, 48, 49, 50, 51, 52, 53, 54, 55, 56, 57, 58, 59, 60, 61, 62, 63, 64, 65, 66] (by decide +kernel) (by decide +kernel)
set_option maxRecDepth 20000 in
theorem gX6_bends_X6_noPin : GoodIn wsX6_bends (wsV RX6 147 RX6 yX6_noPin wsX6_noPin) := goodIn_app (goodIn_of _ (by decide +kernel)) ggX6_bends_X6_noPin
set_option maxRecDepth 20000 in
theorem ggX6_bends_X6_areSo : GoodIn wsX6_bends wsX6_areSo := goodIn_r _ [14, 15, 16, 17, 18, 19, 20, 5, 21, 22, 23, 24, 25, 26, 27, 1, 28, 29, 30, 31, 32, 33, 34, 35, 36, 37, 38, 39, 40, 41, 42, 43, 44, 45, 46, 47, 48, 49, 50, 51, 52, 53, 54, 55, 56, 57, 58, 59, 60, 61, 62, 63, 64, 65, 66] (by decide +kernel) (by decide +kernel)
set_option maxRecDepth 20000 in
theorem gX6_bends_X6_areSo : GoodIn wsX6_bends (wsV RX6 212 RX6 yX6_areSo wsX6_areSo) := goodIn_app (goodIn_of _ (by decide +kernel)) ggX6_bends_X6_areSo
theorem dX6_bends_0 : decode cX6_bends 0 = .ok (.aload_n 0, 1) := by decide +kernel
theorem dX6_bends_1 : decode cX6_bends 1 = .ok (.iload_n 1, 1) := by decide +kernel
theorem dX6_bends_2 : decode cX6_bends 2 = .ok (.invokevirtual 147, 3) := by decide +kernel
theorem dX6_bends_5 : decode cX6_bends 5 = .ok (.ifCond .eq 5, 3) := by decide +kernel
theorem dX6_bends_8 : decode cX6_bends 8 = .ok (.iconst (-1), 1) := by decide +kernel
theorem dX6_bends_9 : decode cX6_bends 9 = .ok (.ireturn, 1) := by decide +kernel
theorem dX6_bends_10 : decode cX6_bends 10 = .ok (.aload_n 0, 1) := by decide +kernel
theorem dX6_bends_11 : decode cX6_bends 11 = .ok (.getfield 13, 3) := by decide +kernel
theorem dX6_bends_14 : decode cX6_bends 14 = .ok (.iload_n 1, 1) := by decide +kernel
theorem dX6_bends_15 : decode cX6_bends 15 = .ok (.iaload, 1) := by decide +kernel
theorem dX6_bends_16 : decode cX6_bends 16 = .ok (.istore_n 2, 1) := by decide +kernel
theorem dX6_bends_17 : decode cX6_bends 17 = .ok (.iconst 0, 1) := by decide +kernel
theorem dX6_bends_18 : decode cX6_bends 18 = .ok (.istore_n 3, 1) := by decide +kernel
theorem dX6_bends_19 : decode cX6_bends 19 = .ok (.iconst 0, 1) := by decide +kernel
theorem dX6_bends_20 : decode cX6_bends 20 = .ok (.istore 4, 2) := by decide +kernel
theorem dX6_bends_22 : decode cX6_bends 22 = .ok (.iload 4, 2) := by decide +kernel
theorem dX6_bends_24 : decode cX6_bends 24 = .ok (.bipush 10, 2) := by decide +kernel
theorem dX6_bends_26 : decode cX6_bends 26 = .ok (.if_icmp .ge 35, 3) := by decide +kernel
theorem dX6_bends_29 : decode cX6_bends 29 = .ok (.aload_n 0, 1) := by decide +kernel
theorem dX6_bends_30 : decode cX6_bends 30 = .ok (.getfield 13, 3) := by decide +kernel
theorem dX6_bends_33 : decode cX6_bends 33 = .ok (.iload_n 1, 1) := by decide +kernel
theorem dX6_bends_34 : decode cX6_bends 34 = .ok (.iload 4, 2) := by decide +kernel
theorem dX6_bends_36 : decode cX6_bends 36 = .ok (.iastore, 1) := by decide +kernel
theorem dX6_bends_37 : decode cX6_bends 37 = .ok (.iload_n 3, 1) := by decide +kernel
theorem dX6_bends_38 : decode cX6_bends 38 = .ok (.aload_n 0, 1) := by decide +kernel
theorem dX6_bends_39 : decode cX6_bends 39 = .ok (.invokevirtual 212, 3) := by decide +kernel
theorem dX6_bends_42 : decode cX6_bends 42 = .ok (.ifCond .eq 10, 3) := by decide +kernel
theorem dX6_bends_45 : decode cX6_bends 45 = .ok (.iconst 1, 1) := by decide +kernel
theorem dX6_bends_46 : decode cX6_bends 46 = .ok (.iload 4, 2) := by decide +kernel
theorem dX6_bends_48 : decode cX6_bends 48 = .ok (.ishl, 1) := by decide +kernel
theorem dX6_bends_49 : decode cX6_bends 49 = .ok (.goto 4, 3) := by decide +kernel
theorem dX6_bends_52 : decode cX6_bends 52 = .ok (.iconst 0, 1) := by decide +kernel
theorem dX6_bends_53 : decode cX6_bends 53 = .ok (.ior, 1) := by decide +kernel
theorem dX6_bends_54 : decode cX6_bends 54 = .ok (.istore_n 3, 1) := by decide +kernel
theorem dX6_bends_55 : decode cX6_bends 55 = .ok (.iinc 4 1, 3) := by decide +kernel
theorem dX6_bends_58 : decode cX6_bends 58 = .ok (.goto (-36), 3) := by decide +kernel
theorem dX6_bends_61 : decode cX6_bends 61 = .ok (.aload_n 0, 1) := by decide +kernel
theorem dX6_bends_62 : decode cX6_bends 62 = .ok (.getfield 13, 3) := by decide +kernel
theorem dX6_bends_65 : decode cX6_bends 65 = .ok (.iload_n 1, 1) := by decide +kernel
theorem dX6_bends_66 : decode cX6_bends 66 = .ok (.iload_n 2, 1) := by decide +kernel
theorem dX6_bends_67 : decode cX6_bends 67 = .ok (.iastore, 1) := by decide +kernel
theorem dX6_bends_68 : decode cX6_bends 68 = .ok (.iload_n 3, 1) := by decide +kernel
theorem dX6_bends_69 : decode cX6_bends 69 = .ok (.ireturn, 1) := by decide +kernel
set_option maxRecDepth 20000 in
theorem ggX6_kinds_X6_noPin : GoodIn wsX6_kinds wsX6_noPin := goodIn_r _ [6, 7, 8, 9, 5, 10, 37, 38, 39, 40, 41, 42, 43, 44, 45, 46, 47, 48, 49, 50, 51, 52, 53, 54, 55, 56, 57, 58, 59, 60, 61, 62, 63, 64, 65, 66] (by decide +kernel) (by decide +kernel)
set_option maxRecDepth 20000 in
theorem gX6_kinds_X6_noPin : GoodIn wsX6_kinds (wsV RX6 147 RX6 yX6_noPin wsX6_noPin) := goodIn_app (goodIn_of _ (by decide +kernel)) ggX6_kinds_X6_noPin
set_option maxRecDepth 20000 in
theorem ggX6_kinds_X6_areSo : GoodIn wsX6_kinds wsX6_areSo := goodIn_r _ [14, 15, 16, 17, 18, 19, 20, 5, 21, 22, 23, 24, 25, 26, 1, 27, 28, 29, 30, 31, 32, 33, 34, 35, 36, 37, 38, 39, 40, 41, 42, 43, 44, 45, 46, 47, 48, 49, 50, 51, 52, 53, 54, 55, 56, 57, 58, 59, 60, 61, 62, 63, 64, 65, 66] (by decide +kernel) (by decide +kernel)
set_option maxRecDepth 20000 in
theorem gX6_kinds_X6_areSo : GoodIn wsX6_kinds (wsV RX6 212 RX6 yX6_areSo wsX6_areSo) := goodIn_app (goodIn_of _ (by decide +kernel)) ggX6_kinds_X6_areSo
theorem dX6_kinds_0 : decode cX6_kinds 0 = .ok (.aload_n 0, 1) := by decide +kernel
theorem dX6_kinds_1 : decode cX6_kinds 1 = .ok (.iload_n 1, 1) := by decide +kernel
theorem dX6_kinds_2 : decode cX6_kinds 2 = .ok (.invokevirtual 147, 3) := by decide +kernel
theorem dX6_kinds_5 : decode cX6_kinds 5 = .ok (.ifCond .eq 5, 3) := by decide +kernel
theorem dX6_kinds_8 : decode cX6_kinds 8 = .ok (.iconst (-1), 1) := by decide +kernel
theorem dX6_kinds_9 : decode cX6_kinds 9 = .ok (.ireturn, 1) := by decide +kernel
theorem dX6_kinds_10 : decode cX6_kinds 10 = .ok (.aload_n 0, 1) := by decide +kernel
theorem dX6_kinds_11 : decode cX6_kinds 11 = .ok (.getfield 7, 3) := by decide +kernel
theorem dX6_kinds_14 : decode cX6_kinds 14 = .ok (.iload_n 1, 1) := by decide +kernel
theorem dX6_kinds_15 : decode cX6_kinds 15 = .ok (.iaload, 1) := by decide +kernel
theorem dX6_kinds_16 : decode cX6_kinds 16 = .ok (.istore_n 2, 1) := by decide +kernel
theorem dX6_kinds_17 : decode cX6_kinds 17 = .ok (.iconst 0, 1) := by decide +kernel
theorem dX6_kinds_18 : decode cX6_kinds 18 = .ok (.istore_n 3, 1) := by decide +kernel
theorem dX6_kinds_19 : decode cX6_kinds 19 = .ok (.iconst 0, 1) := by decide +kernel
theorem dX6_kinds_20 : decode cX6_kinds 20 = .ok (.istore 4, 2) := by decide +kernel
theorem dX6_kinds_22 : decode cX6_kinds 22 = .ok (.iload 4, 2) := by decide +kernel
theorem dX6_kinds_24 : decode cX6_kinds 24 = .ok (.iconst 3, 1) := by decide +kernel
theorem dX6_kinds_25 : decode cX6_kinds 25 = .ok (.if_icmp .ge 35, 3) := by decide +kernel
theorem dX6_kinds_28 : decode cX6_kinds 28 = .ok (.aload_n 0, 1) := by decide +kernel
theorem dX6_kinds_29 : decode cX6_kinds 29 = .ok (.getfield 7, 3) := by decide +kernel
theorem dX6_kinds_32 : decode cX6_kinds 32 = .ok (.iload_n 1, 1) := by decide +kernel
theorem dX6_kinds_33 : decode cX6_kinds 33 = .ok (.iload 4, 2) := by decide +kernel
theorem dX6_kinds_35 : decode cX6_kinds 35 = .ok (.iastore, 1) := by decide +kernel
theorem dX6_kinds_36 : decode cX6_kinds 36 = .ok (.iload_n 3, 1) := by decide +kernel
theorem dX6_kinds_37 : decode cX6_kinds 37 = .ok (.aload_n 0, 1) := by decide +kernel
theorem dX6_kinds_38 : decode cX6_kinds 38 = .ok (.invokevirtual 212, 3) := by decide +kernel
theorem dX6_kinds_41 : decode cX6_kinds 41 = .ok (.ifCond .eq 10, 3) := by decide +kernel
theorem dX6_kinds_44 : decode cX6_kinds 44 = .ok (.iconst 1, 1) := by decide +kernel
theorem dX6_kinds_45 : decode cX6_kinds 45 = .ok (.iload 4, 2) := by decide +kernel
theorem dX6_kinds_47 : decode cX6_kinds 47 = .ok (.ishl, 1) := by decide +kernel
theorem dX6_kinds_48 : decode cX6_kinds 48 = .ok (.goto 4, 3) := by decide +kernel
theorem dX6_kinds_51 : decode cX6_kinds 51 = .ok (.iconst 0, 1) := by decide +kernel
theorem dX6_kinds_52 : decode cX6_kinds 52 = .ok (.ior, 1) := by decide +kernel
theorem dX6_kinds_53 : decode cX6_kinds 53 = .ok (.istore_n 3, 1) := by decide +kernel
theorem dX6_kinds_54 : decode cX6_kinds 54 = .ok (.iinc 4 1, 3) := by decide +kernel
theorem dX6_kinds_57 : decode cX6_kinds 57 = .ok (.goto (-35), 3) := by decide +kernel
theorem dX6_kinds_60 : decode cX6_kinds 60 = .ok (.aload_n 0, 1) := by decide +kernel
theorem dX6_kinds_61 : decode cX6_kinds 61 = .ok (.getfield 7, 3) := by decide +kernel
theorem dX6_kinds_64 : decode cX6_kinds 64 = .ok (.iload_n 1, 1) := by decide +kernel
theorem dX6_kinds_65 : decode cX6_kinds 65 = .ok (.iload_n 2, 1) := by decide +kernel
theorem dX6_kinds_66 : decode cX6_kinds 66 = .ok (.iastore, 1) := by decide +kernel
theorem dX6_kinds_67 : decode cX6_kinds 67 = .ok (.iload_n 3, 1) := by decide +kernel
theorem dX6_kinds_68 : decode cX6_kinds 68 = .ok (.ireturn, 1) := by decide +kernel
set_option maxRecDepth 20000 in
theorem ggX6_keys_X6_in : GoodIn wsX6_keys wsX6_in := goodIn_r _ [8] (by decide +kernel) (by decide +kernel)
set_option maxRecDepth 20000 in
theorem gX6_keys_X6_in : GoodIn wsX6_keys (va_wsS RX6 71 yX6_in wsX6_in) := goodIn_app (goodIn_of _ (by decide +kernel)) ggX6_keys_X6_in
set_option maxRecDepth 20000 in
theorem ggX6_keys_X6_areSo : GoodIn wsX6_keys wsX6_areSo := goodIn_r _ [12, 13, 14, 15, 16, 17, 18, 7, 19, 20, 21, 22, 23, 24, 25, 26, 27, 28, 29, 30, 31, 32, 33, 3, 4, 34, 35, 36, 37, 38, 39, 40, 41, 42, 43, 44, 45, 46, 47, 48, 49, 50, 51, 52, 53, 54, 55, 56, 57, 58, 59, 60, 61, 62, 63] (by decide +kernel) (by decide +kernel)
set_option maxRecDepth 20000 in
theorem gX6_keys_X6_areSo : GoodIn wsX6_keys (wsV RX6 212 RX6 yX6_areSo wsX6_areSo) := goodIn_app (goodIn_of _ (by decide +kernel)) ggX6_keys_X6_areSo
theorem dX6_keys_0 : decode cX6_keys 0 = .ok (.aload_n 0, 1) := by decide +kernel
theorem dX6_keys_1 : decode cX6_keys 1 = .ok (.getfield 68, 3) := by decide +kernel
theorem dX6_keys_4 : decode cX6_keys 4 = .ok (.ifCond .ne 6, 3) := by decide +kernel
theorem dX6_keys_7 : decode cX6_keys 7 = .ok (.bipush (-3), 2) := by decide +kernel
theorem dX6_keys_9 : decode cX6_keys 9 = .ok (.ireturn, 1) := by decide +kernel
theorem dX6_keys_10 : decode cX6_keys 10 = .ok (.iload_n 1, 1) := by decide +kernel
theorem dX6_keys_11 : decode cX6_keys 11 = .ok (.i2l, 1) := by decide +kernel
theorem dX6_keys_12 : decode cX6_keys 12 = .ok (.lconst 0, 1) := by decide +kernel
theorem dX6_keys_13 : decode cX6_keys 13 = .ok (.ldc2_w 117, 3) := by decide +kernel
theorem dX6_keys_16 : decode cX6_keys 16 = .ok (.invokestatic 71, 3) := by decide +kernel
theorem dX6_keys_19 : decode cX6_keys 19 = .ok (.ifCond .ne 6, 3) := by decide +kernel
theorem dX6_keys_22 : decode cX6_keys 22 = .ok (.bipush (-2), 2) := by decide +kernel
theorem dX6_keys_24 : decode cX6_keys 24 = .ok (.ireturn, 1) := by decide +kernel
theorem dX6_keys_25 : decode cX6_keys 25 = .ok (.aload_n 0, 1) := by decide +kernel
theorem dX6_keys_26 : decode cX6_keys 26 = .ok (.getfield 126, 3) := by decide +kernel
theorem dX6_keys_29 : decode cX6_keys 29 = .ok (.istore_n 2, 1) := by decide +kernel
theorem dX6_keys_30 : decode cX6_keys 30 = .ok (.aload_n 0, 1) := by decide +kernel
theorem dX6_keys_31 : decode cX6_keys 31 = .ok (.getfield 129, 3) := by decide +kernel
theorem dX6_keys_34 : decode cX6_keys 34 = .ok (.istore_n 3, 1) := by decide +kernel
theorem dX6_keys_35 : decode cX6_keys 35 = .ok (.iconst 0, 1) := by decide +kernel
theorem dX6_keys_36 : decode cX6_keys 36 = .ok (.istore 4, 2) := by decide +kernel
theorem dX6_keys_38 : decode cX6_keys 38 = .ok (.bipush (-9), 2) := by decide +kernel
theorem dX6_keys_40 : decode cX6_keys 40 = .ok (.istore 5, 2) := by decide +kernel
theorem dX6_keys_42 : decode cX6_keys 42 = .ok (.bipush (-9), 2) := by decide +kernel
theorem dX6_keys_44 : decode cX6_keys 44 = .ok (.istore 6, 2) := by decide +kernel
theorem dX6_keys_46 : decode cX6_keys 46 = .ok (.iconst 0, 1) := by decide +kernel
theorem dX6_keys_47 : decode cX6_keys 47 = .ok (.istore 7, 2) := by decide +kernel
theorem dX6_keys_49 : decode cX6_keys 49 = .ok (.iload 7, 2) := by decide +kernel
theorem dX6_keys_51 : decode cX6_keys 51 = .ok (.bipush 30, 2) := by decide +kernel
theorem dX6_keys_53 : decode cX6_keys 53 = .ok (.if_icmp .ge 103, 3) := by decide +kernel
theorem dX6_keys_56 : decode cX6_keys 56 = .ok (.aload_n 0, 1) := by decide +kernel
theorem dX6_keys_57 : decode cX6_keys 57 = .ok (.iconst 1, 1) := by decide +kernel
theorem dX6_keys_58 : decode cX6_keys 58 = .ok (.iload 7, 2) := by decide +kernel
theorem dX6_keys_60 : decode cX6_keys 60 = .ok (.bipush 6, 2) := by decide +kernel
theorem dX6_keys_62 : decode cX6_keys 62 = .ok (.idiv, 1) := by decide +kernel
theorem dX6_keys_63 : decode cX6_keys 63 = .ok (.iadd, 1) := by decide +kernel
theorem dX6_keys_64 : decode cX6_keys 64 = .ok (.putfield 126, 3) := by decide +kernel
theorem dX6_keys_67 : decode cX6_keys 67 = .ok (.aload_n 0, 1) := by decide +kernel
theorem dX6_keys_68 : decode cX6_keys 68 = .ok (.iload 7, 2) := by decide +kernel
theorem dX6_keys_70 : decode cX6_keys 70 = .ok (.bipush 6, 2) := by decide +kernel
theorem dX6_keys_72 : decode cX6_keys 72 = .ok (.irem, 1) := by decide +kernel
theorem dX6_keys_73 : decode cX6_keys 73 = .ok (.putfield 129, 3) := by decide +kernel
theorem dX6_keys_76 : decode cX6_keys 76 = .ok (.aload_n 0, 1) := by decide +kernel
theorem dX6_keys_77 : decode cX6_keys 77 = .ok (.invokevirtual 212, 3) := by decide +kernel
theorem dX6_keys_80 : decode cX6_keys 80 = .ok (.istore 8, 2) := by decide +kernel
theorem dX6_keys_82 : decode cX6_keys 82 = .ok (.iload 4, 2) := by decide +kernel
theorem dX6_keys_84 : decode cX6_keys 84 = .ok (.iload 8, 2) := by decide +kernel
theorem dX6_keys_86 : decode cX6_keys 86 = .ok (.ifCond .eq 7, 3) := by decide +kernel
theorem dX6_keys_89 : decode cX6_keys 89 = .ok (.iconst 1, 1) := by decide +kernel
theorem dX6_keys_90 : decode cX6_keys 90 = .ok (.goto 4, 3) := by decide +kernel
theorem dX6_keys_93 : decode cX6_keys 93 = .ok (.iconst 0, 1) := by decide +kernel
theorem dX6_keys_94 : decode cX6_keys 94 = .ok (.iadd, 1) := by decide +kernel
theorem dX6_keys_95 : decode cX6_keys 95 = .ok (.istore 4, 2) := by decide +kernel
theorem dX6_keys_97 : decode cX6_keys 97 = .ok (.iload 8, 2) := by decide +kernel
theorem dX6_keys_99 : decode cX6_keys 99 = .ok (.ifCond .eq 23, 3) := by decide +kernel
theorem dX6_keys_102 : decode cX6_keys 102 = .ok (.iload 5, 2) := by decide +kernel
theorem dX6_keys_104 : decode cX6_keys 104 = .ok (.ifCond .ge 18, 3) := by decide +kernel
theorem dX6_keys_107 : decode cX6_keys 107 = .ok (.bipush 10, 2) := by decide +kernel
theorem dX6_keys_109 : decode cX6_keys 109 = .ok (.aload_n 0, 1) := by decide +kernel
theorem dX6_keys_110 : decode cX6_keys 110 = .ok (.getfield 126, 3) := by decide +kernel
theorem dX6_keys_113 : decode cX6_keys 113 = .ok (.imul, 1) := by decide +kernel
theorem dX6_keys_114 : decode cX6_keys 114 = .ok (.aload_n 0, 1) := by decide +kernel
theorem dX6_keys_115 : decode cX6_keys 115 = .ok (.getfield 129, 3) := by decide +kernel
theorem dX6_keys_118 : decode cX6_keys 118 = .ok (.iadd, 1) := by decide +kernel
theorem dX6_keys_119 : decode cX6_keys 119 = .ok (.goto 5, 3) := by decide +kernel
theorem dX6_keys_122 : decode cX6_keys 122 = .ok (.iload 5, 2) := by decide +kernel
theorem dX6_keys_124 : decode cX6_keys 124 = .ok (.istore 5, 2) := by decide +kernel
theorem dX6_keys_126 : decode cX6_keys 126 = .ok (.iload 8, 2) := by decide +kernel
theorem dX6_keys_128 : decode cX6_keys 128 = .ok (.ifCond .eq 18, 3) := by decide +kernel
theorem dX6_keys_131 : decode cX6_keys 131 = .ok (.bipush 10, 2) := by decide +kernel
theorem dX6_keys_133 : decode cX6_keys 133 = .ok (.aload_n 0, 1) := by decide +kernel
theorem dX6_keys_134 : decode cX6_keys 134 = .ok (.getfield 126, 3) := by decide +kernel
theorem dX6_keys_137 : decode cX6_keys 137 = .ok (.imul, 1) := by decide +kernel
theorem dX6_keys_138 : decode cX6_keys 138 = .ok (.aload_n 0, 1) := by decide +kernel
theorem dX6_keys_139 : decode cX6_keys 139 = .ok (.getfield 129, 3) := by decide +kernel
theorem dX6_keys_142 : decode cX6_keys 142 = .ok (.iadd, 1) := by decide +kernel
theorem dX6_keys_143 : decode cX6_keys 143 = .ok (.goto 5, 3) := by decide +kernel
theorem dX6_keys_146 : decode cX6_keys 146 = .ok (.iload 6, 2) := by decide +kernel
theorem dX6_keys_148 : decode cX6_keys 148 = .ok (.istore 6, 2) := by decide +kernel
theorem dX6_keys_150 : decode cX6_keys 150 = .ok (.iinc 7 1, 3) := by decide +kernel
theorem dX6_keys_153 : decode cX6_keys 153 = .ok (.goto (-104), 3) := by decide +kernel
theorem dX6_keys_156 : decode cX6_keys 156 = .ok (.aload_n 0, 1) := by decide +kernel
theorem dX6_keys_157 : decode cX6_keys 157 = .ok (.iload_n 2, 1) := by decide +kernel
theorem dX6_keys_158 : decode cX6_keys 158 = .ok (.putfield 126, 3) := by decide +kernel
theorem dX6_keys_161 : decode cX6_keys 161 = .ok (.aload_n 0, 1) := by decide +kernel
theorem dX6_keys_162 : decode cX6_keys 162 = .ok (.iload_n 3, 1) := by decide +kernel
theorem dX6_keys_163 : decode cX6_keys 163 = .ok (.putfield 129, 3) := by decide +kernel
theorem dX6_keys_166 : decode cX6_keys 166 = .ok (.iload_n 1, 1) := by decide +kernel
theorem dX6_keys_167 : decode cX6_keys 167 = .ok (.ifCond .ne 8, 3) := by decide +kernel
theorem dX6_keys_170 : decode cX6_keys 170 = .ok (.iload 4, 2) := by decide +kernel
theorem dX6_keys_172 : decode cX6_keys 172 = .ok (.goto 15, 3) := by decide +kernel
theorem dX6_keys_175 : decode cX6_keys 175 = .ok (.iload_n 1, 1) := by decide +kernel
theorem dX6_keys_176 : decode cX6_keys 176 = .ok (.iconst 1, 1) := by decide +kernel
theorem dX6_keys_177 : decode cX6_keys 177 = .ok (.if_icmp .ne 8, 3) := by decide +kernel
theorem dX6_keys_180 : decode cX6_keys 180 = .ok (.iload 5, 2) := by decide +kernel
theorem dX6_keys_182 : decode cX6_keys 182 = .ok (.goto 5, 3) := by decide +kernel
theorem dX6_keys_185 : decode cX6_keys 185 = .ok (.iload 6, 2) := by decide +kernel
theorem dX6_keys_187 : decode cX6_keys 187 = .ok (.ireturn, 1) := by decide +kernel
set_option maxRecDepth 20000 in
theorem ggX6_odds_X6_in : GoodIn wsX6_odds wsX6_in := goodIn_r _ [9] (by decide +kernel) (by decide +kernel)
set_option maxRecDepth 20000 in
theorem gX6_odds_X6_in : GoodIn wsX6_odds (va_wsS RX6 71 yX6_in wsX6_in) := goodIn_app (goodIn_of _ (by decide +kernel)) ggX6_odds_X6_in
set_option maxRecDepth 20000 in
theorem ggX6_odds_X6_lost : GoodIn wsX6_odds wsX6_lost := goodIn_r _ [12, 13] (by decide +kernel) (by decide +kernel)
set_option maxRecDepth 20000 in
theorem gX6_odds_X6_lost : GoodIn wsX6_odds (va_wsS RX6 64 yX6_lost wsX6_lost) := goodIn_app (goodIn_of _ (by decide +kernel)) ggX6_odds_X6_lost
set_option maxRecDepth 20000 in
theorem ggX6_odds_X6_turnBy : GoodIn wsX6_odds wsX6_turnBy := goodIn_r _ [16] (by decide +kernel) (by decide +kernel)
set_option maxRecDepth 20000 in
theorem gX6_odds_X6_turnBy : GoodIn wsX6_odds (va_wsS RX6 138 yX6_turnBy wsX6_turnBy) := goodIn_app (goodIn_of _ (by decide +kernel)) ggX6_odds_X6_turnBy
set_option maxRecDepth 20000 in
theorem ggX6_odds_X6_wishBy : GoodIn wsX6_odds wsX6_wishBy := goodIn_r _ [20, 21, 22, 26, 27, 28, 29, 30, 31, 32, 33, 34, 35, 36, 37, 38, 39, 40, 41, 42, 43, 44, 45, 46, 47, 48, 49, 50, 51, 52, 53, 54, 55] (by decide +kernel) (by decide +kernel)
set_option maxRecDepth 20000 in
theorem gX6_odds_X6_wishBy : GoodIn wsX6_odds (wsV RX6 144 RX6 yX6_wishBy wsX6_wishBy) := goodIn_app (goodIn_of _ (by decide +kernel)) ggX6_odds_X6_wishBy
set_option maxRecDepth 20000 in
theorem ggX6_odds_X6_share : GoodIn wsX6_odds wsX6_share := goodIn_r _ [25] (by decide +kernel) (by decide +kernel)
set_option maxRecDepth 20000 in
theorem gX6_odds_X6_share : GoodIn wsX6_odds (va_wsS RX6 216 yX6_share wsX6_share) := goodIn_app (goodIn_of _ (by decide +kernel)) ggX6_odds_X6_share
theorem dX6_odds_0 : decode cX6_odds 0 = .ok (.iload_n 1, 1) := by decide +kernel
theorem dX6_odds_1 : decode cX6_odds 1 = .ok (.i2l, 1) := by decide +kernel
theorem dX6_odds_2 : decode cX6_odds 2 = .ok (.lconst 0, 1) := by decide +kernel
theorem dX6_odds_3 : decode cX6_odds 3 = .ok (.ldc2_w 117, 3) := by decide +kernel
theorem dX6_odds_6 : decode cX6_odds 6 = .ok (.invokestatic 71, 3) := by decide +kernel
theorem dX6_odds_9 : decode cX6_odds 9 = .ok (.ifCond .eq 32, 3) := by decide +kernel
theorem dX6_odds_12 : decode cX6_odds 12 = .ok (.iload_n 2, 1) := by decide +kernel
theorem dX6_odds_13 : decode cX6_odds 13 = .ok (.i2l, 1) := by decide +kernel
theorem dX6_odds_14 : decode cX6_odds 14 = .ok (.lconst 0, 1) := by decide +kernel
theorem dX6_odds_15 : decode cX6_odds 15 = .ok (.ldc2_w 155, 3) := by decide +kernel
theorem dX6_odds_18 : decode cX6_odds 18 = .ok (.invokestatic 71, 3) := by decide +kernel
theorem dX6_odds_21 : decode cX6_odds 21 = .ok (.ifCond .eq 20, 3) := by decide +kernel
theorem dX6_odds_24 : decode cX6_odds 24 = .ok (.iload_n 3, 1) := by decide +kernel
theorem dX6_odds_25 : decode cX6_odds 25 = .ok (.i2l, 1) := by decide +kernel
theorem dX6_odds_26 : decode cX6_odds 26 = .ok (.lconst 0, 1) := by decide +kernel
theorem dX6_odds_27 : decode cX6_odds 27 = .ok (.lconst 1, 1) := by decide +kernel
theorem dX6_odds_28 : decode cX6_odds 28 = .ok (.invokestatic 71, 3) := by decide +kernel
theorem dX6_odds_31 : decode cX6_odds 31 = .ok (.ifCond .eq 10, 3) := by decide +kernel
theorem dX6_odds_34 : decode cX6_odds 34 = .ok (.aload_n 0, 1) := by decide +kernel
theorem dX6_odds_35 : decode cX6_odds 35 = .ok (.getfield 68, 3) := by decide +kernel
theorem dX6_odds_38 : decode cX6_odds 38 = .ok (.ifCond .ne 7, 3) := by decide +kernel
theorem dX6_odds_41 : decode cX6_odds 41 = .ok (.invokestatic 64, 3) := by decide +kernel
theorem dX6_odds_44 : decode cX6_odds 44 = .ok (.lreturn, 1) := by decide +kernel
theorem dX6_odds_45 : decode cX6_odds 45 = .ok (.lconst 0, 1) := by decide +kernel
theorem dX6_odds_46 : decode cX6_odds 46 = .ok (.lstore 4, 2) := by decide +kernel
theorem dX6_odds_48 : decode cX6_odds 48 = .ok (.iconst 0, 1) := by decide +kernel
theorem dX6_odds_49 : decode cX6_odds 49 = .ok (.istore 6, 2) := by decide +kernel
theorem dX6_odds_51 : decode cX6_odds 51 = .ok (.iload 6, 2) := by decide +kernel
theorem dX6_odds_53 : decode cX6_odds 53 = .ok (.bipush 10, 2) := by decide +kernel
theorem dX6_odds_55 : decode cX6_odds 55 = .ok (.if_icmp .ge 37, 3) := by decide +kernel
theorem dX6_odds_58 : decode cX6_odds 58 = .ok (.lload 4, 2) := by decide +kernel
theorem dX6_odds_60 : decode cX6_odds 60 = .ok (.aload_n 0, 1) := by decide +kernel
theorem dX6_odds_61 : decode cX6_odds 61 = .ok (.iload_n 1, 1) := by decide +kernel
theorem dX6_odds_62 : decode cX6_odds 62 = .ok (.iload 6, 2) := by decide +kernel
theorem dX6_odds_64 : decode cX6_odds 64 = .ok (.invokestatic 138, 3) := by decide +kernel
theorem dX6_odds_67 : decode cX6_odds 67 = .ok (.aload_n 0, 1) := by decide +kernel
theorem dX6_odds_68 : decode cX6_odds 68 = .ok (.getfield 132, 3) := by decide +kernel
theorem dX6_odds_71 : decode cX6_odds 71 = .ok (.invokevirtual 144, 3) := by decide +kernel
theorem dX6_odds_74 : decode cX6_odds 74 = .ok (.iload_n 2, 1) := by decide +kernel
theorem dX6_odds_75 : decode cX6_odds 75 = .ok (.if_icmp .ne 7, 3) := by decide +kernel
theorem dX6_odds_78 : decode cX6_odds 78 = .ok (.lconst 1, 1) := by decide +kernel
theorem dX6_odds_79 : decode cX6_odds 79 = .ok (.goto 4, 3) := by decide +kernel
theorem dX6_odds_82 : decode cX6_odds 82 = .ok (.lconst 0, 1) := by decide +kernel
theorem dX6_odds_83 : decode cX6_odds 83 = .ok (.ladd, 1) := by decide +kernel
theorem dX6_odds_84 : decode cX6_odds 84 = .ok (.lstore 4, 2) := by decide +kernel
theorem dX6_odds_86 : decode cX6_odds 86 = .ok (.iinc 6 1, 3) := by decide +kernel
theorem dX6_odds_89 : decode cX6_odds 89 = .ok (.goto (-38), 3) := by decide +kernel
theorem dX6_odds_92 : decode cX6_odds 92 = .ok (.lload 4, 2) := by decide +kernel
theorem dX6_odds_94 : decode cX6_odds 94 = .ok (.ldc2_w 172, 3) := by decide +kernel
theorem dX6_odds_97 : decode cX6_odds 97 = .ok (.iload_n 3, 1) := by decide +kernel
theorem dX6_odds_98 : decode cX6_odds 98 = .ok (.invokestatic 216, 3) := by decide +kernel
theorem dX6_odds_101 : decode cX6_odds 101 = .ok (.lreturn, 1) := by decide +kernel
set_option maxRecDepth 20000 in
theorem ggX6_noSheet_X6_in : GoodIn wsX6_noSheet wsX6_in := goodIn_r _ [5] (by decide +kernel) (by decide +kernel)
set_option maxRecDepth 20000 in
theorem gX6_noSheet_X6_in : GoodIn wsX6_noSheet (va_wsS RX6 71 yX6_in wsX6_in) := goodIn_app (goodIn_of _ (by decide +kernel)) ggX6_noSheet_X6_in
theorem dX6_noSheet_0 : decode cX6_noSheet 0 = .ok (.iload_n 0, 1) := by decide +kernel
theorem dX6_noSheet_1 : decode cX6_noSheet 1 = .ok (.i2l, 1) := by decide +kernel
theorem dX6_noSheet_2 : decode cX6_noSheet 2 = .ok (.lconst 0, 1) := by decide +kernel
theorem dX6_noSheet_3 : decode cX6_noSheet 3 = .ok (.ldc2_w 220, 3) := by decide +kernel
theorem dX6_noSheet_6 : decode cX6_noSheet 6 = .ok (.invokestatic 71, 3) := by decide +kernel
theorem dX6_noSheet_9 : decode cX6_noSheet 9 = .ok (.ifCond .ne 7, 3) := by decide +kernel
theorem dX6_noSheet_12 : decode cX6_noSheet 12 = .ok (.iconst 1, 1) := by decide +kernel
theorem dX6_noSheet_13 : decode cX6_noSheet 13 = .ok (.goto 4, 3) := by decide +kernel
theorem dX6_noSheet_16 : decode cX6_noSheet 16 = .ok (.iconst 0, 1) := by decide +kernel
theorem dX6_noSheet_17 : decode cX6_noSheet 17 = .ok (.ireturn, 1) := by decide +kernel
set_option maxRecDepth 20000 in
theorem ggX6_sheet_X6_noSheet : GoodIn wsX6_sheet wsX6_noSheet := goodIn_r _ [8, 9, 10, 11, 7, 12] (by decide +kernel) (by decide +kernel)
set_option maxRecDepth 20000 in
theorem gX6_sheet_X6_noSheet : GoodIn wsX6_sheet (va_wsS RX6 110 yX6_noSheet wsX6_noSheet) := goodIn_app (goodIn_of _ (by decide +kernel)) ggX6_sheet_X6_noSheet
set_option maxRecDepth 20000 in
theorem ggX6_sheet_X6_refused : GoodIn wsX6_sheet wsX6_refused := goodIn_r _ [16, 17, 22, 23, 24, 25, 26, 27, 28, 29, 30, 31, 32, 33, 34, 35, 36, 37, 38, 39, 40, 41, 42, 43, 44, 45, 46, 47, 48, 49, 50, 51] (by decide +kernel) (by decide +kernel)
set_option maxRecDepth 20000 in
theorem gX6_sheet_X6_refused : GoodIn wsX6_sheet (wsV RX6 114 RX6 yX6_refused wsX6_refused) := goodIn_app (goodIn_of _ (by decide +kernel)) ggX6_sheet_X6_refused
set_option maxRecDepth 20000 in
theorem ggX6_sheet_X6_in : GoodIn wsX6_sheet wsX6_in := goodIn_r _ [12] (by decide +kernel) (by decide +kernel)
set_option maxRecDepth 20000 in
theorem gX6_sheet_X6_in : GoodIn wsX6_sheet (va_wsS RX6 71 yX6_in wsX6_in) := goodIn_app (goodIn_of _ (by decide +kernel)) ggX6_sheet_X6_in
set_option maxRecDepth 20000 in
theorem ggX6_sheet_X6_failed : GoodIn wsX6_sheet wsX6_failed := goodIn_r _ [21, 17, 22, 23, 24, 25, 26, 27, 28, 29, 30, 31, 32, 33, 34, 35, 36, 37, 38, 39, 40, 41, 42, 43, 44, 45, 46, 47, 48, 49, 50, 51] (by decide +kernel) (by decide +kernel)
set_option maxRecDepth 20000 in
theorem gX6_sheet_X6_failed : GoodIn wsX6_sheet (wsV RX6 102 RX6 yX6_failed wsX6_failed) := goodIn_app (goodIn_of _ (by decide +kernel)) ggX6_sheet_X6_failed
theorem dX6_sheet_0 : decode cX6_sheet 0 = .ok (.iload_n 1, 1) := by decide +kernel
theorem dX6_sheet_1 : decode cX6_sheet 1 = .ok (.invokestatic 110, 3) := by decide +kernel
theorem dX6_sheet_4 : decode cX6_sheet 4 = .ok (.ifCond .eq 9, 3) := by decide +kernel
theorem dX6_sheet_7 : decode cX6_sheet 7 = .ok (.aload_n 0, 1) := by decide +kernel
theorem dX6_sheet_8 : decode cX6_sheet 8 = .ok (.iconst (-1), 1) := by decide +kernel
theorem dX6_sheet_9 : decode cX6_sheet 9 = .ok (.invokevirtual 114, 3) := by decide +kernel
theorem dX6_sheet_12 : decode cX6_sheet 12 = .ok (.ireturn, 1) := by decide +kernel
theorem dX6_sheet_13 : decode cX6_sheet 13 = .ok (.iload_n 2, 1) := by decide +kernel
theorem dX6_sheet_14 : decode cX6_sheet 14 = .ok (.i2l, 1) := by decide +kernel
theorem dX6_sheet_15 : decode cX6_sheet 15 = .ok (.lconst 0, 1) := by decide +kernel
theorem dX6_sheet_16 : decode cX6_sheet 16 = .ok (.ldc2_w 117, 3) := by decide +kernel
theorem dX6_sheet_19 : decode cX6_sheet 19 = .ok (.invokestatic 71, 3) := by decide +kernel
theorem dX6_sheet_22 : decode cX6_sheet 22 = .ok (.ifCond .eq 9, 3) := by decide +kernel
theorem dX6_sheet_25 : decode cX6_sheet 25 = .ok (.iload_n 3, 1) := by decide +kernel
theorem dX6_sheet_26 : decode cX6_sheet 26 = .ok (.bipush 60, 2) := by decide +kernel
theorem dX6_sheet_28 : decode cX6_sheet 28 = .ok (.if_icmp .le 10, 3) := by decide +kernel
theorem dX6_sheet_31 : decode cX6_sheet 31 = .ok (.aload_n 0, 1) := by decide +kernel
theorem dX6_sheet_32 : decode cX6_sheet 32 = .ok (.bipush (-2), 2) := by decide +kernel
theorem dX6_sheet_34 : decode cX6_sheet 34 = .ok (.invokevirtual 114, 3) := by decide +kernel
theorem dX6_sheet_37 : decode cX6_sheet 37 = .ok (.ireturn, 1) := by decide +kernel
theorem dX6_sheet_38 : decode cX6_sheet 38 = .ok (.iload_n 3, 1) := by decide +kernel
theorem dX6_sheet_39 : decode cX6_sheet 39 = .ok (.ifCond .ge 9, 3) := by decide +kernel
theorem dX6_sheet_42 : decode cX6_sheet 42 = .ok (.aload_n 0, 1) := by decide +kernel
theorem dX6_sheet_43 : decode cX6_sheet 43 = .ok (.iconst 4, 1) := by decide +kernel
theorem dX6_sheet_44 : decode cX6_sheet 44 = .ok (.invokevirtual 102, 3) := by decide +kernel
theorem dX6_sheet_47 : decode cX6_sheet 47 = .ok (.ireturn, 1) := by decide +kernel
theorem dX6_sheet_48 : decode cX6_sheet 48 = .ok (.aload_n 0, 1) := by decide +kernel
theorem dX6_sheet_49 : decode cX6_sheet 49 = .ok (.getfield 46, 3) := by decide +kernel
theorem dX6_sheet_52 : decode cX6_sheet 52 = .ok (.iload_n 1, 1) := by decide +kernel
theorem dX6_sheet_53 : decode cX6_sheet 53 = .ok (.iload_n 3, 1) := by decide +kernel
theorem dX6_sheet_54 : decode cX6_sheet 54 = .ok (.iastore, 1) := by decide +kernel
theorem dX6_sheet_55 : decode cX6_sheet 55 = .ok (.aload_n 0, 1) := by decide +kernel
theorem dX6_sheet_56 : decode cX6_sheet 56 = .ok (.getfield 49, 3) := by decide +kernel
theorem dX6_sheet_59 : decode cX6_sheet 59 = .ok (.iload_n 1, 1) := by decide +kernel
theorem dX6_sheet_60 : decode cX6_sheet 60 = .ok (.iload_n 2, 1) := by decide +kernel
theorem dX6_sheet_61 : decode cX6_sheet 61 = .ok (.iastore, 1) := by decide +kernel
theorem dX6_sheet_62 : decode cX6_sheet 62 = .ok (.iconst 0, 1) := by decide +kernel
theorem dX6_sheet_63 : decode cX6_sheet 63 = .ok (.istore 4, 2) := by decide +kernel
theorem dX6_sheet_65 : decode cX6_sheet 65 = .ok (.iload 4, 2) := by decide +kernel
theorem dX6_sheet_67 : decode cX6_sheet 67 = .ok (.iload_n 3, 1) := by decide +kernel
theorem dX6_sheet_68 : decode cX6_sheet 68 = .ok (.if_icmp .ge 22, 3) := by decide +kernel
theorem dX6_sheet_71 : decode cX6_sheet 71 = .ok (.aload_n 0, 1) := by decide +kernel
theorem dX6_sheet_72 : decode cX6_sheet 72 = .ok (.getfield 52, 3) := by decide +kernel
theorem dX6_sheet_75 : decode cX6_sheet 75 = .ok (.bipush 60, 2) := by decide +kernel
theorem dX6_sheet_77 : decode cX6_sheet 77 = .ok (.iload_n 1, 1) := by decide +kernel
theorem dX6_sheet_78 : decode cX6_sheet 78 = .ok (.imul, 1) := by decide +kernel
theorem dX6_sheet_79 : decode cX6_sheet 79 = .ok (.iload 4, 2) := by decide +kernel
theorem dX6_sheet_81 : decode cX6_sheet 81 = .ok (.iadd, 1) := by decide +kernel
theorem dX6_sheet_82 : decode cX6_sheet 82 = .ok (.iconst 0, 1) := by decide +kernel
theorem dX6_sheet_83 : decode cX6_sheet 83 = .ok (.iastore, 1) := by decide +kernel
theorem dX6_sheet_84 : decode cX6_sheet 84 = .ok (.iinc 4 1, 3) := by decide +kernel
theorem dX6_sheet_87 : decode cX6_sheet 87 = .ok (.goto (-22), 3) := by decide +kernel
theorem dX6_sheet_90 : decode cX6_sheet 90 = .ok (.aload_n 0, 1) := by decide +kernel
theorem dX6_sheet_91 : decode cX6_sheet 91 = .ok (.iconst 1, 1) := by decide +kernel
theorem dX6_sheet_92 : decode cX6_sheet 92 = .ok (.invokevirtual 114, 3) := by decide +kernel
theorem dX6_sheet_95 : decode cX6_sheet 95 = .ok (.ireturn, 1) := by decide +kernel
set_option maxRecDepth 20000 in
theorem ggX6_lose_X6_noSheet : GoodIn wsX6_lose wsX6_noSheet := goodIn_r _ [5, 6, 7, 8, 4, 9] (by decide +kernel) (by decide +kernel)
set_option maxRecDepth 20000 in
theorem gX6_lose_X6_noSheet : GoodIn wsX6_lose (va_wsS RX6 110 yX6_noSheet wsX6_noSheet) := goodIn_app (goodIn_of _ (by decide +kernel)) ggX6_lose_X6_noSheet
theorem dX6_lose_0 : decode cX6_lose 0 = .ok (.iload_n 1, 1) := by decide +kernel
theorem dX6_lose_1 : decode cX6_lose 1 = .ok (.invokestatic 110, 3) := by decide +kernel
theorem dX6_lose_4 : decode cX6_lose 4 = .ok (.ifCond .eq 5, 3) := by decide +kernel
theorem dX6_lose_7 : decode cX6_lose 7 = .ok (.iconst (-1), 1) := by decide +kernel
theorem dX6_lose_8 : decode cX6_lose 8 = .ok (.ireturn, 1) := by decide +kernel
theorem dX6_lose_9 : decode cX6_lose 9 = .ok (.aload_n 0, 1) := by decide +kernel
theorem dX6_lose_10 : decode cX6_lose 10 = .ok (.getfield 46, 3) := by decide +kernel
theorem dX6_lose_13 : decode cX6_lose 13 = .ok (.iload_n 1, 1) := by decide +kernel
theorem dX6_lose_14 : decode cX6_lose 14 = .ok (.iaload, 1) := by decide +kernel
theorem dX6_lose_15 : decode cX6_lose 15 = .ok (.ifCond .ge 7, 3) := by decide +kernel
theorem dX6_lose_18 : decode cX6_lose 18 = .ok (.iconst 0, 1) := by decide +kernel
theorem dX6_lose_19 : decode cX6_lose 19 = .ok (.goto 4, 3) := by decide +kernel
theorem dX6_lose_22 : decode cX6_lose 22 = .ok (.iconst 1, 1) := by decide +kernel
theorem dX6_lose_23 : decode cX6_lose 23 = .ok (.istore_n 2, 1) := by decide +kernel
theorem dX6_lose_24 : decode cX6_lose 24 = .ok (.aload_n 0, 1) := by decide +kernel
theorem dX6_lose_25 : decode cX6_lose 25 = .ok (.getfield 46, 3) := by decide +kernel
theorem dX6_lose_28 : decode cX6_lose 28 = .ok (.iload_n 1, 1) := by decide +kernel
theorem dX6_lose_29 : decode cX6_lose 29 = .ok (.iconst (-1), 1) := by decide +kernel
theorem dX6_lose_30 : decode cX6_lose 30 = .ok (.iastore, 1) := by decide +kernel
theorem dX6_lose_31 : decode cX6_lose 31 = .ok (.iload_n 2, 1) := by decide +kernel
theorem dX6_lose_32 : decode cX6_lose 32 = .ok (.ireturn, 1) := by decide +kernel
set_option maxRecDepth 20000 in
theorem ggX6_noCell_X6_in : GoodIn wsX6_noCell wsX6_in := goodIn_r _ [5] (by decide +kernel) (by decide +kernel)
set_option maxRecDepth 20000 in
theorem gX6_noCell_X6_in : GoodIn wsX6_noCell (va_wsS RX6 71 yX6_in wsX6_in) := goodIn_app (goodIn_of _ (by decide +kernel)) ggX6_noCell_X6_in
theorem dX6_noCell_0 : decode cX6_noCell 0 = .ok (.aload_n 0, 1) := by decide +kernel
theorem dX6_noCell_1 : decode cX6_noCell 1 = .ok (.getfield 46, 3) := by decide +kernel
theorem dX6_noCell_4 : decode cX6_noCell 4 = .ok (.iload_n 1, 1) := by decide +kernel
theorem dX6_noCell_5 : decode cX6_noCell 5 = .ok (.iaload, 1) := by decide +kernel
theorem dX6_noCell_6 : decode cX6_noCell 6 = .ok (.ifCond .ge 7, 3) := by decide +kernel
theorem dX6_noCell_9 : decode cX6_noCell 9 = .ok (.iconst 1, 1) := by decide +kernel
theorem dX6_noCell_10 : decode cX6_noCell 10 = .ok (.goto 26, 3) := by decide +kernel
theorem dX6_noCell_13 : decode cX6_noCell 13 = .ok (.iload_n 2, 1) := by decide +kernel
theorem dX6_noCell_14 : decode cX6_noCell 14 = .ok (.i2l, 1) := by decide +kernel
theorem dX6_noCell_15 : decode cX6_noCell 15 = .ok (.lconst 0, 1) := by decide +kernel
theorem dX6_noCell_16 : decode cX6_noCell 16 = .ok (.aload_n 0, 1) := by decide +kernel
theorem dX6_noCell_17 : decode cX6_noCell 17 = .ok (.getfield 46, 3) := by decide +kernel
theorem dX6_noCell_20 : decode cX6_noCell 20 = .ok (.iload_n 1, 1) := by decide +kernel
theorem dX6_noCell_21 : decode cX6_noCell 21 = .ok (.iaload, 1) := by decide +kernel
theorem dX6_noCell_22 : decode cX6_noCell 22 = .ok (.i2l, 1) := by decide +kernel
theorem dX6_noCell_23 : decode cX6_noCell 23 = .ok (.lconst 1, 1) := by decide +kernel
theorem dX6_noCell_24 : decode cX6_noCell 24 = .ok (.lsub, 1) := by decide +kernel
theorem dX6_noCell_25 : decode cX6_noCell 25 = .ok (.invokestatic 71, 3) := by decide +kernel
theorem dX6_noCell_28 : decode cX6_noCell 28 = .ok (.ifCond .eq 7, 3) := by decide +kernel
theorem dX6_noCell_31 : decode cX6_noCell 31 = .ok (.iconst 0, 1) := by decide +kernel
theorem dX6_noCell_32 : decode cX6_noCell 32 = .ok (.goto 4, 3) := by decide +kernel
theorem dX6_noCell_35 : decode cX6_noCell 35 = .ok (.iconst 3, 1) := by decide +kernel
theorem dX6_noCell_36 : decode cX6_noCell 36 = .ok (.ireturn, 1) := by decide +kernel
set_option maxRecDepth 20000 in
theorem ggX6_put_X6_noSheet : GoodIn wsX6_put wsX6_noSheet := goodIn_r _ [6, 7, 8, 9, 5, 10] (by decide +kernel) (by decide +kernel)
set_option maxRecDepth 20000 in
theorem gX6_put_X6_noSheet : GoodIn wsX6_put (va_wsS RX6 110 yX6_noSheet wsX6_noSheet) := goodIn_app (goodIn_of _ (by decide +kernel)) ggX6_put_X6_noSheet
set_option maxRecDepth 20000 in
theorem ggX6_put_X6_refused : GoodIn wsX6_put wsX6_refused := goodIn_r _ [14, 15, 25, 26, 27, 28, 29, 30, 31, 32, 33, 34, 35, 36, 37, 38, 39, 40, 41, 42, 43, 44, 45, 46, 47, 48, 49, 50, 51, 52, 53, 54] (by decide +kernel) (by decide +kernel)
set_option maxRecDepth 20000 in
theorem gX6_put_X6_refused : GoodIn wsX6_put (wsV RX6 114 RX6 yX6_refused wsX6_refused) := goodIn_app (goodIn_of _ (by decide +kernel)) ggX6_put_X6_refused
set_option maxRecDepth 20000 in
theorem ggX6_put_X6_noCell : GoodIn wsX6_put wsX6_noCell := goodIn_r _ [19, 20, 8, 9, 5, 10, 25, 26, 27, 28, 29, 30, 31, 32, 33, 34, 35, 36, 37, 38, 39, 40, 41, 42, 43, 44, 45, 46, 47, 48, 49, 50, 51, 52, 53, 54] (by decide +kernel) (by decide +kernel)
set_option maxRecDepth 20000 in
theorem gX6_put_X6_noCell : GoodIn wsX6_put (wsV RX6 222 RX6 yX6_noCell wsX6_noCell) := goodIn_app (goodIn_of _ (by decide +kernel)) ggX6_put_X6_noCell
set_option maxRecDepth 20000 in
theorem ggX6_put_X6_failed : GoodIn wsX6_put wsX6_failed := goodIn_r _ [24, 15, 25, 26, 27, 28, 29, 30, 31, 32, 33, 34, 35, 36, 37, 38, 39, 40, 41, 42, 43, 44, 45, 46, 47, 48, 49, 50, 51, 52, 53, 54] (by decide +kernel) (by decide +kernel)
set_option maxRecDepth 20000 in
theorem gX6_put_X6_failed : GoodIn wsX6_put (wsV RX6 102 RX6 yX6_failed wsX6_failed) := goodIn_app (goodIn_of _ (by decide +kernel)) ggX6_put_X6_failed
theorem dX6_put_0 : decode cX6_put 0 = .ok (.iload_n 1, 1) := by decide +kernel
theorem dX6_put_1 : decode cX6_put 1 = .ok (.invokestatic 110, 3) := by decide +kernel
theorem dX6_put_4 : decode cX6_put 4 = .ok (.ifCond .eq 9, 3) := by decide +kernel
theorem dX6_put_7 : decode cX6_put 7 = .ok (.aload_n 0, 1) := by decide +kernel
theorem dX6_put_8 : decode cX6_put 8 = .ok (.iconst (-1), 1) := by decide +kernel
theorem dX6_put_9 : decode cX6_put 9 = .ok (.invokevirtual 114, 3) := by decide +kernel
theorem dX6_put_12 : decode cX6_put 12 = .ok (.ireturn, 1) := by decide +kernel
theorem dX6_put_13 : decode cX6_put 13 = .ok (.aload_n 0, 1) := by decide +kernel
theorem dX6_put_14 : decode cX6_put 14 = .ok (.iload_n 1, 1) := by decide +kernel
theorem dX6_put_15 : decode cX6_put 15 = .ok (.iload_n 2, 1) := by decide +kernel
theorem dX6_put_16 : decode cX6_put 16 = .ok (.invokevirtual 222, 3) := by decide +kernel
theorem dX6_put_19 : decode cX6_put 19 = .ok (.ifCond .le 14, 3) := by decide +kernel
theorem dX6_put_22 : decode cX6_put 22 = .ok (.aload_n 0, 1) := by decide +kernel
theorem dX6_put_23 : decode cX6_put 23 = .ok (.aload_n 0, 1) := by decide +kernel
theorem dX6_put_24 : decode cX6_put 24 = .ok (.iload_n 1, 1) := by decide +kernel
theorem dX6_put_25 : decode cX6_put 25 = .ok (.iload_n 2, 1) := by decide +kernel
theorem dX6_put_26 : decode cX6_put 26 = .ok (.invokevirtual 222, 3) := by decide +kernel
theorem dX6_put_29 : decode cX6_put 29 = .ok (.invokevirtual 102, 3) := by decide +kernel
theorem dX6_put_32 : decode cX6_put 32 = .ok (.ireturn, 1) := by decide +kernel
theorem dX6_put_33 : decode cX6_put 33 = .ok (.aload_n 0, 1) := by decide +kernel
theorem dX6_put_34 : decode cX6_put 34 = .ok (.getfield 52, 3) := by decide +kernel
theorem dX6_put_37 : decode cX6_put 37 = .ok (.bipush 60, 2) := by decide +kernel
theorem dX6_put_39 : decode cX6_put 39 = .ok (.iload_n 1, 1) := by decide +kernel
theorem dX6_put_40 : decode cX6_put 40 = .ok (.imul, 1) := by decide +kernel
theorem dX6_put_41 : decode cX6_put 41 = .ok (.iload_n 2, 1) := by decide +kernel
theorem dX6_put_42 : decode cX6_put 42 = .ok (.iadd, 1) := by decide +kernel
theorem dX6_put_43 : decode cX6_put 43 = .ok (.aload_n 0, 1) := by decide +kernel
theorem dX6_put_44 : decode cX6_put 44 = .ok (.getfield 49, 3) := by decide +kernel
theorem dX6_put_47 : decode cX6_put 47 = .ok (.iload_n 1, 1) := by decide +kernel
theorem dX6_put_48 : decode cX6_put 48 = .ok (.iaload, 1) := by decide +kernel
theorem dX6_put_49 : decode cX6_put 49 = .ok (.ifCond .ne 8, 3) := by decide +kernel
theorem dX6_put_52 : decode cX6_put 52 = .ok (.iload_n 3, 1) := by decide +kernel
theorem dX6_put_53 : decode cX6_put 53 = .ok (.i2b, 1) := by decide +kernel
theorem dX6_put_54 : decode cX6_put 54 = .ok (.goto 19, 3) := by decide +kernel
theorem dX6_put_57 : decode cX6_put 57 = .ok (.aload_n 0, 1) := by decide +kernel
theorem dX6_put_58 : decode cX6_put 58 = .ok (.getfield 49, 3) := by decide +kernel
theorem dX6_put_61 : decode cX6_put 61 = .ok (.iload_n 1, 1) := by decide +kernel
theorem dX6_put_62 : decode cX6_put 62 = .ok (.iaload, 1) := by decide +kernel
theorem dX6_put_63 : decode cX6_put 63 = .ok (.iconst 1, 1) := by decide +kernel
theorem dX6_put_64 : decode cX6_put 64 = .ok (.if_icmp .ne 8, 3) := by decide +kernel
theorem dX6_put_67 : decode cX6_put 67 = .ok (.iload_n 3, 1) := by decide +kernel
theorem dX6_put_68 : decode cX6_put 68 = .ok (.i2s, 1) := by decide +kernel
theorem dX6_put_69 : decode cX6_put 69 = .ok (.goto 4, 3) := by decide +kernel
theorem dX6_put_72 : decode cX6_put 72 = .ok (.iload_n 3, 1) := by decide +kernel
theorem dX6_put_73 : decode cX6_put 73 = .ok (.iastore, 1) := by decide +kernel
theorem dX6_put_74 : decode cX6_put 74 = .ok (.aload_n 0, 1) := by decide +kernel
theorem dX6_put_75 : decode cX6_put 75 = .ok (.iconst 1, 1) := by decide +kernel
theorem dX6_put_76 : decode cX6_put 76 = .ok (.invokevirtual 114, 3) := by decide +kernel
theorem dX6_put_79 : decode cX6_put 79 = .ok (.ireturn, 1) := by decide +kernel
set_option maxRecDepth 20000 in
theorem ggX6_cell_X6_noSheet : GoodIn wsX6_cell wsX6_noSheet := goodIn_r _ [9, 10, 11, 12, 8, 13] (by decide +kernel) (by decide +kernel)
set_option maxRecDepth 20000 in
theorem gX6_cell_X6_noSheet : GoodIn wsX6_cell (va_wsS RX6 110 yX6_noSheet wsX6_noSheet) := goodIn_app (goodIn_of _ (by decide +kernel)) ggX6_cell_X6_noSheet
set_option maxRecDepth 20000 in
theorem ggX6_cell_X6_in : GoodIn wsX6_cell wsX6_in := goodIn_r _ [13] (by decide +kernel) (by decide +kernel)
set_option maxRecDepth 20000 in
theorem gX6_cell_X6_in : GoodIn wsX6_cell (va_wsS RX6 71 yX6_in wsX6_in) := goodIn_app (goodIn_of _ (by decide +kernel)) ggX6_cell_X6_in
set_option maxRecDepth 20000 in
theorem ggX6_cell_X6_lost : GoodIn wsX6_cell wsX6_lost := goodIn_r _ [16, 17] (by decide +kernel) (by decide +kernel)
set_option maxRecDepth 20000 in
theorem gX6_cell_X6_lost : GoodIn wsX6_cell (va_wsS RX6 64 yX6_lost wsX6_lost) := goodIn_app (goodIn_of _ (by decide +kernel)) ggX6_cell_X6_lost
set_option maxRecDepth 20000 in
theorem ggX6_cell_X6_failedLong : GoodIn wsX6_cell wsX6_failedLong := goodIn_r _ [21, 1, 14, 15, 8, 16, 17, 26, 27, 28, 29, 30, 31, 32, 33, 34, 35, 36, 37, 38, 39, 40, 41, 42, 43, 44, 45, 46, 47, 48, 49, 50, 51, 52, 53, 54, 55] (by decide +kernel) (by decide +kernel)
set_option maxRecDepth 20000 in
theorem gX6_cell_X6_failedLong : GoodIn wsX6_cell (wsV RX6 225 RX6 yX6_failedLong wsX6_failedLong) := goodIn_app (goodIn_of _ (by decide +kernel)) ggX6_cell_X6_failedLong
set_option maxRecDepth 20000 in
theorem ggX6_cell_X6_noCell : GoodIn wsX6_cell wsX6_noCell := goodIn_r _ [25, 3, 11, 12, 8, 13, 26, 27, 28, 29, 30, 31, 32, 33, 34, 35, 36, 37, 38, 39, 40, 41, 42, 43, 44, 45, 46, 47, 48, 49, 50, 51, 52, 53, 54, 55] (by decide +kernel) (by decide +kernel)
set_option maxRecDepth 20000 in
theorem gX6_cell_X6_noCell : GoodIn wsX6_cell (wsV RX6 222 RX6 yX6_noCell wsX6_noCell) := goodIn_app (goodIn_of _ (by decide +kernel)) ggX6_cell_X6_noCell
theorem dX6_cell_0 : decode cX6_cell 0 = .ok (.aload_n 0, 1) := by decide +kernel
theorem dX6_cell_1 : decode cX6_cell 1 = .ok (.iconst 0, 1) := by decide +kernel
theorem dX6_cell_2 : decode cX6_cell 2 = .ok (.putfield 60, 3) := by decide +kernel
theorem dX6_cell_5 : decode cX6_cell 5 = .ok (.iload_n 1, 1) := by decide +kernel
theorem dX6_cell_6 : decode cX6_cell 6 = .ok (.invokestatic 110, 3) := by decide +kernel
theorem dX6_cell_9 : decode cX6_cell 9 = .ok (.ifCond .ne 15, 3) := by decide +kernel
theorem dX6_cell_12 : decode cX6_cell 12 = .ok (.iload_n 3, 1) := by decide +kernel
theorem dX6_cell_13 : decode cX6_cell 13 = .ok (.i2l, 1) := by decide +kernel
theorem dX6_cell_14 : decode cX6_cell 14 = .ok (.lconst 0, 1) := by decide +kernel
theorem dX6_cell_15 : decode cX6_cell 15 = .ok (.ldc2_w 117, 3) := by decide +kernel
theorem dX6_cell_18 : decode cX6_cell 18 = .ok (.invokestatic 71, 3) := by decide +kernel
theorem dX6_cell_21 : decode cX6_cell 21 = .ok (.ifCond .ne 7, 3) := by decide +kernel
theorem dX6_cell_24 : decode cX6_cell 24 = .ok (.invokestatic 64, 3) := by decide +kernel
theorem dX6_cell_27 : decode cX6_cell 27 = .ok (.lreturn, 1) := by decide +kernel
theorem dX6_cell_28 : decode cX6_cell 28 = .ok (.aload_n 0, 1) := by decide +kernel
theorem dX6_cell_29 : decode cX6_cell 29 = .ok (.getfield 46, 3) := by decide +kernel
theorem dX6_cell_32 : decode cX6_cell 32 = .ok (.iload_n 1, 1) := by decide +kernel
theorem dX6_cell_33 : decode cX6_cell 33 = .ok (.iaload, 1) := by decide +kernel
theorem dX6_cell_34 : decode cX6_cell 34 = .ok (.ifCond .lt 19, 3) := by decide +kernel
theorem dX6_cell_37 : decode cX6_cell 37 = .ok (.aload_n 0, 1) := by decide +kernel
theorem dX6_cell_38 : decode cX6_cell 38 = .ok (.getfield 49, 3) := by decide +kernel
theorem dX6_cell_41 : decode cX6_cell 41 = .ok (.iload_n 1, 1) := by decide +kernel
theorem dX6_cell_42 : decode cX6_cell 42 = .ok (.iaload, 1) := by decide +kernel
theorem dX6_cell_43 : decode cX6_cell 43 = .ok (.iload_n 3, 1) := by decide +kernel
theorem dX6_cell_44 : decode cX6_cell 44 = .ok (.if_icmp .eq 9, 3) := by decide +kernel
theorem dX6_cell_47 : decode cX6_cell 47 = .ok (.aload_n 0, 1) := by decide +kernel
theorem dX6_cell_48 : decode cX6_cell 48 = .ok (.iconst 2, 1) := by decide +kernel
theorem dX6_cell_49 : decode cX6_cell 49 = .ok (.invokevirtual 225, 3) := by decide +kernel
theorem dX6_cell_52 : decode cX6_cell 52 = .ok (.lreturn, 1) := by decide +kernel
theorem dX6_cell_53 : decode cX6_cell 53 = .ok (.aload_n 0, 1) := by decide +kernel
theorem dX6_cell_54 : decode cX6_cell 54 = .ok (.iload_n 1, 1) := by decide +kernel
theorem dX6_cell_55 : decode cX6_cell 55 = .ok (.iload_n 2, 1) := by decide +kernel
theorem dX6_cell_56 : decode cX6_cell 56 = .ok (.invokevirtual 222, 3) := by decide +kernel
theorem dX6_cell_59 : decode cX6_cell 59 = .ok (.ifCond .le 16, 3) := by decide +kernel
theorem dX6_cell_62 : decode cX6_cell 62 = .ok (.aload_n 0, 1) := by decide +kernel
theorem dX6_cell_63 : decode cX6_cell 63 = .ok (.aload_n 0, 1) := by decide +kernel
theorem dX6_cell_64 : decode cX6_cell 64 = .ok (.iload_n 1, 1) := by decide +kernel
theorem dX6_cell_65 : decode cX6_cell 65 = .ok (.iload_n 2, 1) := by decide +kernel
theorem dX6_cell_66 : decode cX6_cell 66 = .ok (.invokevirtual 222, 3) := by decide +kernel
theorem dX6_cell_69 : decode cX6_cell 69 = .ok (.invokevirtual 225, 3) := by decide +kernel
theorem dX6_cell_72 : decode cX6_cell 72 = .ok (.goto 15, 3) := by decide +kernel
theorem dX6_cell_75 : decode cX6_cell 75 = .ok (.aload_n 0, 1) := by decide +kernel
theorem dX6_cell_76 : decode cX6_cell 76 = .ok (.getfield 52, 3) := by decide +kernel
theorem dX6_cell_79 : decode cX6_cell 79 = .ok (.bipush 60, 2) := by decide +kernel
theorem dX6_cell_81 : decode cX6_cell 81 = .ok (.iload_n 1, 1) := by decide +kernel
theorem dX6_cell_82 : decode cX6_cell 82 = .ok (.imul, 1) := by decide +kernel
theorem dX6_cell_83 : decode cX6_cell 83 = .ok (.iload_n 2, 1) := by decide +kernel
theorem dX6_cell_84 : decode cX6_cell 84 = .ok (.iadd, 1) := by decide +kernel
theorem dX6_cell_85 : decode cX6_cell 85 = .ok (.iaload, 1) := by decide +kernel
theorem dX6_cell_86 : decode cX6_cell 86 = .ok (.i2l, 1) := by decide +kernel
theorem dX6_cell_87 : decode cX6_cell 87 = .ok (.lreturn, 1) := by decide +kernel
theorem dX6_isBeyond_0 : decode cX6_isBeyond 0 = .ok (.iload_n 0, 1) := by decide +kernel
theorem dX6_isBeyond_1 : decode cX6_isBeyond 1 = .ok (.ifCond .lt 19, 3) := by decide +kernel
theorem dX6_isBeyond_4 : decode cX6_isBeyond 4 = .ok (.lload_n 1, 1) := by decide +kernel
theorem dX6_isBeyond_5 : decode cX6_isBeyond 5 = .ok (.lconst 0, 1) := by decide +kernel
theorem dX6_isBeyond_6 : decode cX6_isBeyond 6 = .ok (.lcmp, 1) := by decide +kernel
theorem dX6_isBeyond_7 : decode cX6_isBeyond 7 = .ok (.ifCond .lt 13, 3) := by decide +kernel
theorem dX6_isBeyond_10 : decode cX6_isBeyond 10 = .ok (.iload_n 0, 1) := by decide +kernel
theorem dX6_isBeyond_11 : decode cX6_isBeyond 11 = .ok (.i2l, 1) := by decide +kernel
theorem dX6_isBeyond_12 : decode cX6_isBeyond 12 = .ok (.lload_n 1, 1) := by decide +kernel
theorem dX6_isBeyond_13 : decode cX6_isBeyond 13 = .ok (.ladd, 1) := by decide +kernel
theorem dX6_isBeyond_14 : decode cX6_isBeyond 14 = .ok (.iload_n 3, 1) := by decide +kernel
theorem dX6_isBeyond_15 : decode cX6_isBeyond 15 = .ok (.i2l, 1) := by decide +kernel
theorem dX6_isBeyond_16 : decode cX6_isBeyond 16 = .ok (.lcmp, 1) := by decide +kernel
theorem dX6_isBeyond_17 : decode cX6_isBeyond 17 = .ok (.ifCond .le 7, 3) := by decide +kernel
theorem dX6_isBeyond_20 : decode cX6_isBeyond 20 = .ok (.iconst 1, 1) := by decide +kernel
theorem dX6_isBeyond_21 : decode cX6_isBeyond 21 = .ok (.goto 4, 3) := by decide +kernel
theorem dX6_isBeyond_24 : decode cX6_isBeyond 24 = .ok (.iconst 0, 1) := by decide +kernel
theorem dX6_isBeyond_25 : decode cX6_isBeyond 25 = .ok (.ireturn, 1) := by decide +kernel
set_option maxRecDepth 20000 in
theorem ggX6_copy_X6_noSheet : GoodIn wsX6_copy wsX6_noSheet := goodIn_r _ [8, 9, 10, 11, 7, 12] (by decide +kernel) (by decide +kernel)
set_option maxRecDepth 20000 in
theorem gX6_copy_X6_noSheet : GoodIn wsX6_copy (va_wsS RX6 110 yX6_noSheet wsX6_noSheet) := goodIn_app (goodIn_of _ (by decide +kernel)) ggX6_copy_X6_noSheet
set_option maxRecDepth 20000 in
theorem ggX6_copy_X6_refused : GoodIn wsX6_copy wsX6_refused := goodIn_r _ [16, 17, 25, 26, 27, 28, 29, 30, 31, 32, 33, 34, 35, 36, 37, 38, 39, 40, 41, 42, 43, 44, 45, 46, 47, 48, 49, 50, 51, 52, 53, 54] (by decide +kernel) (by decide +kernel)
set_option maxRecDepth 20000 in
theorem gX6_copy_X6_refused : GoodIn wsX6_copy (wsV RX6 114 RX6 yX6_refused wsX6_refused) := goodIn_app (goodIn_of _ (by decide +kernel)) ggX6_copy_X6_refused
set_option maxRecDepth 20000 in
theorem ggX6_copy_X6_failed : GoodIn wsX6_copy wsX6_failed := goodIn_r _ [21, 17, 25, 26, 27, 28, 29, 30, 31, 32, 33, 34, 35, 36, 37, 38, 39, 40, 41, 42, 43, 44, 45, 46, 47, 48, 49, 50, 51, 52, 53, 54] (by decide +kernel) (by decide +kernel)
set_option maxRecDepth 20000 in
theorem gX6_copy_X6_failed : GoodIn wsX6_copy (wsV RX6 102 RX6 yX6_failed wsX6_failed) := goodIn_app (goodIn_of _ (by decide +kernel)) ggX6_copy_X6_failed
set_option maxRecDepth 20000 in
theorem ggX6_copy_X6_isBeyond : GoodIn wsX6_copy wsX6_isBeyond := goodIn_r _ [24] (by decide +kernel) (by decide +kernel)
set_option maxRecDepth 20000 in
theorem gX6_copy_X6_isBeyond : GoodIn wsX6_copy (va_wsS RX6 106 yX6_isBeyond wsX6_isBeyond) := goodIn_app (goodIn_of _ (by decide +kernel)) ggX6_copy_X6_isBeyond
theorem dX6_copy_0 : decode cX6_copy 0 = .ok (.iload_n 1, 1) := by decide +kernel
theorem dX6_copy_1 : decode cX6_copy 1 = .ok (.invokestatic 110, 3) := by decide +kernel
theorem dX6_copy_4 : decode cX6_copy 4 = .ok (.ifCond .ne 10, 3) := by decide +kernel
theorem dX6_copy_7 : decode cX6_copy 7 = .ok (.iload_n 3, 1) := by decide +kernel
theorem dX6_copy_8 : decode cX6_copy 8 = .ok (.invokestatic 110, 3) := by decide +kernel
theorem dX6_copy_11 : decode cX6_copy 11 = .ok (.ifCond .eq 9, 3) := by decide +kernel
theorem dX6_copy_14 : decode cX6_copy 14 = .ok (.aload_n 0, 1) := by decide +kernel
theorem dX6_copy_15 : decode cX6_copy 15 = .ok (.iconst (-1), 1) := by decide +kernel
theorem dX6_copy_16 : decode cX6_copy 16 = .ok (.invokevirtual 114, 3) := by decide +kernel
theorem dX6_copy_19 : decode cX6_copy 19 = .ok (.ireturn, 1) := by decide +kernel
theorem dX6_copy_20 : decode cX6_copy 20 = .ok (.aload_n 0, 1) := by decide +kernel
theorem dX6_copy_21 : decode cX6_copy 21 = .ok (.getfield 46, 3) := by decide +kernel
theorem dX6_copy_24 : decode cX6_copy 24 = .ok (.iload_n 1, 1) := by decide +kernel
theorem dX6_copy_25 : decode cX6_copy 25 = .ok (.iaload, 1) := by decide +kernel
theorem dX6_copy_26 : decode cX6_copy 26 = .ok (.ifCond .lt 12, 3) := by decide +kernel
theorem dX6_copy_29 : decode cX6_copy 29 = .ok (.aload_n 0, 1) := by decide +kernel
theorem dX6_copy_30 : decode cX6_copy 30 = .ok (.getfield 46, 3) := by decide +kernel
theorem dX6_copy_33 : decode cX6_copy 33 = .ok (.iload_n 3, 1) := by decide +kernel
theorem dX6_copy_34 : decode cX6_copy 34 = .ok (.iaload, 1) := by decide +kernel
theorem dX6_copy_35 : decode cX6_copy 35 = .ok (.ifCond .ge 9, 3) := by decide +kernel
theorem dX6_copy_38 : decode cX6_copy 38 = .ok (.aload_n 0, 1) := by decide +kernel
theorem dX6_copy_39 : decode cX6_copy 39 = .ok (.iconst 1, 1) := by decide +kernel
theorem dX6_copy_40 : decode cX6_copy 40 = .ok (.invokevirtual 102, 3) := by decide +kernel
theorem dX6_copy_43 : decode cX6_copy 43 = .ok (.ireturn, 1) := by decide +kernel
theorem dX6_copy_44 : decode cX6_copy 44 = .ok (.aload_n 0, 1) := by decide +kernel
theorem dX6_copy_45 : decode cX6_copy 45 = .ok (.getfield 49, 3) := by decide +kernel
theorem dX6_copy_48 : decode cX6_copy 48 = .ok (.iload_n 1, 1) := by decide +kernel
theorem dX6_copy_49 : decode cX6_copy 49 = .ok (.iaload, 1) := by decide +kernel
theorem dX6_copy_50 : decode cX6_copy 50 = .ok (.aload_n 0, 1) := by decide +kernel
theorem dX6_copy_51 : decode cX6_copy 51 = .ok (.getfield 49, 3) := by decide +kernel
theorem dX6_copy_54 : decode cX6_copy 54 = .ok (.iload_n 3, 1) := by decide +kernel
theorem dX6_copy_55 : decode cX6_copy 55 = .ok (.iaload, 1) := by decide +kernel
theorem dX6_copy_56 : decode cX6_copy 56 = .ok (.if_icmp .eq 9, 3) := by decide +kernel
theorem dX6_copy_59 : decode cX6_copy 59 = .ok (.aload_n 0, 1) := by decide +kernel
theorem dX6_copy_60 : decode cX6_copy 60 = .ok (.iconst 2, 1) := by decide +kernel
theorem dX6_copy_61 : decode cX6_copy 61 = .ok (.invokevirtual 102, 3) := by decide +kernel
theorem dX6_copy_64 : decode cX6_copy 64 = .ok (.ireturn, 1) := by decide +kernel
theorem dX6_copy_65 : decode cX6_copy 65 = .ok (.iload_n 2, 1) := by decide +kernel
theorem dX6_copy_66 : decode cX6_copy 66 = .ok (.iload 5, 2) := by decide +kernel
theorem dX6_copy_68 : decode cX6_copy 68 = .ok (.i2l, 1) := by decide +kernel
theorem dX6_copy_69 : decode cX6_copy 69 = .ok (.aload_n 0, 1) := by decide +kernel
theorem dX6_copy_70 : decode cX6_copy 70 = .ok (.getfield 46, 3) := by decide +kernel
theorem dX6_copy_73 : decode cX6_copy 73 = .ok (.iload_n 1, 1) := by decide +kernel
theorem dX6_copy_74 : decode cX6_copy 74 = .ok (.iaload, 1) := by decide +kernel
theorem dX6_copy_75 : decode cX6_copy 75 = .ok (.invokestatic 106, 3) := by decide +kernel
theorem dX6_copy_78 : decode cX6_copy 78 = .ok (.ifCond .ne 20, 3) := by decide +kernel
theorem dX6_copy_81 : decode cX6_copy 81 = .ok (.iload 4, 2) := by decide +kernel
theorem dX6_copy_83 : decode cX6_copy 83 = .ok (.iload 5, 2) := by decide +kernel
theorem dX6_copy_85 : decode cX6_copy 85 = .ok (.i2l, 1) := by decide +kernel
theorem dX6_copy_86 : decode cX6_copy 86 = .ok (.aload_n 0, 1) := by decide +kernel
theorem dX6_copy_87 : decode cX6_copy 87 = .ok (.getfield 46, 3) := by decide +kernel
theorem dX6_copy_90 : decode cX6_copy 90 = .ok (.iload_n 3, 1) := by decide +kernel
theorem dX6_copy_91 : decode cX6_copy 91 = .ok (.iaload, 1) := by decide +kernel
theorem dX6_copy_92 : decode cX6_copy 92 = .ok (.invokestatic 106, 3) := by decide +kernel
theorem dX6_copy_95 : decode cX6_copy 95 = .ok (.ifCond .eq 9, 3) := by decide +kernel
theorem dX6_copy_98 : decode cX6_copy 98 = .ok (.aload_n 0, 1) := by decide +kernel
theorem dX6_copy_99 : decode cX6_copy 99 = .ok (.iconst 3, 1) := by decide +kernel
theorem dX6_copy_100 : decode cX6_copy 100 = .ok (.invokevirtual 102, 3) := by decide +kernel
theorem dX6_copy_103 : decode cX6_copy 103 = .ok (.ireturn, 1) := by decide +kernel
theorem dX6_copy_104 : decode cX6_copy 104 = .ok (.iconst 0, 1) := by decide +kernel
theorem dX6_copy_105 : decode cX6_copy 105 = .ok (.istore 6, 2) := by decide +kernel
theorem dX6_copy_107 : decode cX6_copy 107 = .ok (.iload 6, 2) := by decide +kernel
theorem dX6_copy_109 : decode cX6_copy 109 = .ok (.iload 5, 2) := by decide +kernel
theorem dX6_copy_111 : decode cX6_copy 111 = .ok (.if_icmp .ge 30, 3) := by decide +kernel
theorem dX6_copy_114 : decode cX6_copy 114 = .ok (.aload_n 0, 1) := by decide +kernel
theorem dX6_copy_115 : decode cX6_copy 115 = .ok (.getfield 55, 3) := by decide +kernel
theorem dX6_copy_118 : decode cX6_copy 118 = .ok (.iload 6, 2) := by decide +kernel
theorem dX6_copy_120 : decode cX6_copy 120 = .ok (.aload_n 0, 1) := by decide +kernel
theorem dX6_copy_121 : decode cX6_copy 121 = .ok (.getfield 52, 3) := by decide +kernel
theorem dX6_copy_124 : decode cX6_copy 124 = .ok (.bipush 60, 2) := by decide +kernel
theorem dX6_copy_126 : decode cX6_copy 126 = .ok (.iload_n 1, 1) := by decide +kernel
theorem dX6_copy_127 : decode cX6_copy 127 = .ok (.imul, 1) := by decide +kernel
theorem dX6_copy_128 : decode cX6_copy 128 = .ok (.iload_n 2, 1) := by decide +kernel
theorem dX6_copy_129 : decode cX6_copy 129 = .ok (.iadd, 1) := by decide +kernel
theorem dX6_copy_130 : decode cX6_copy 130 = .ok (.iload 6, 2) := by decide +kernel
theorem dX6_copy_132 : decode cX6_copy 132 = .ok (.iadd, 1) := by decide +kernel
theorem dX6_copy_133 : decode cX6_copy 133 = .ok (.iaload, 1) := by decide +kernel
theorem dX6_copy_134 : decode cX6_copy 134 = .ok (.iastore, 1) := by decide +kernel
theorem dX6_copy_135 : decode cX6_copy 135 = .ok (.iinc 6 1, 3) := by decide +kernel
theorem dX6_copy_138 : decode cX6_copy 138 = .ok (.goto (-31), 3) := by decide +kernel
theorem dX6_copy_141 : decode cX6_copy 141 = .ok (.iconst 0, 1) := by decide +kernel
theorem dX6_copy_142 : decode cX6_copy 142 = .ok (.istore 6, 2) := by decide +kernel
theorem dX6_copy_144 : decode cX6_copy 144 = .ok (.iload 6, 2) := by decide +kernel
theorem dX6_copy_146 : decode cX6_copy 146 = .ok (.iload 5, 2) := by decide +kernel
theorem dX6_copy_148 : decode cX6_copy 148 = .ok (.if_icmp .ge 31, 3) := by decide +kernel
theorem dX6_copy_151 : decode cX6_copy 151 = .ok (.aload_n 0, 1) := by decide +kernel
theorem dX6_copy_152 : decode cX6_copy 152 = .ok (.getfield 52, 3) := by decide +kernel
theorem dX6_copy_155 : decode cX6_copy 155 = .ok (.bipush 60, 2) := by decide +kernel
theorem dX6_copy_157 : decode cX6_copy 157 = .ok (.iload_n 3, 1) := by decide +kernel
theorem dX6_copy_158 : decode cX6_copy 158 = .ok (.imul, 1) := by decide +kernel
theorem dX6_copy_159 : decode cX6_copy 159 = .ok (.iload 4, 2) := by decide +kernel
theorem dX6_copy_161 : decode cX6_copy 161 = .ok (.iadd, 1) := by decide +kernel
theorem dX6_copy_162 : decode cX6_copy 162 = .ok (.iload 6, 2) := by decide +kernel
theorem dX6_copy_164 : decode cX6_copy 164 = .ok (.iadd, 1) := by decide +kernel
theorem dX6_copy_165 : decode cX6_copy 165 = .ok (.aload_n 0, 1) := by decide +kernel
theorem dX6_copy_166 : decode cX6_copy 166 = .ok (.getfield 55, 3) := by decide +kernel
theorem dX6_copy_169 : decode cX6_copy 169 = .ok (.iload 6, 2) := by decide +kernel
theorem dX6_copy_171 : decode cX6_copy 171 = .ok (.iaload, 1) := by decide +kernel
theorem dX6_copy_172 : decode cX6_copy 172 = .ok (.iastore, 1) := by decide +kernel
theorem dX6_copy_173 : decode cX6_copy 173 = .ok (.iinc 6 1, 3) := by decide +kernel
theorem dX6_copy_176 : decode cX6_copy 176 = .ok (.goto (-32), 3) := by decide +kernel
theorem dX6_copy_179 : decode cX6_copy 179 = .ok (.aload_n 0, 1) := by decide +kernel
theorem dX6_copy_180 : decode cX6_copy 180 = .ok (.iload 5, 2) := by decide +kernel
theorem dX6_copy_182 : decode cX6_copy 182 = .ok (.invokevirtual 114, 3) := by decide +kernel
theorem dX6_copy_185 : decode cX6_copy 185 = .ok (.ireturn, 1) := by decide +kernel
theorem dX6_traced_0 : decode cX6_traced 0 = .ok (.aload_n 0, 1) := by decide +kernel
theorem dX6_traced_1 : decode cX6_traced 1 = .ok (.bipush 31, 2) := by decide +kernel
theorem dX6_traced_3 : decode cX6_traced 3 = .ok (.aload_n 0, 1) := by decide +kernel
theorem dX6_traced_4 : decode cX6_traced 4 = .ok (.getfield 229, 3) := by decide +kernel
theorem dX6_traced_7 : decode cX6_traced 7 = .ok (.imul, 1) := by decide +kernel
theorem dX6_traced_8 : decode cX6_traced 8 = .ok (.iload_n 1, 1) := by decide +kernel
theorem dX6_traced_9 : decode cX6_traced 9 = .ok (.iadd, 1) := by decide +kernel
theorem dX6_traced_10 : decode cX6_traced 10 = .ok (.putfield 229, 3) := by decide +kernel
theorem dX6_traced_13 : decode cX6_traced 13 = .ok (.return_, 1) := by decide +kernel
set_option maxRecDepth 20000 in
theorem ggX6_tell_X6_noPin : GoodIn wsX6_tell wsX6_noPin := goodIn_r _ [7, 8, 9, 10, 6, 11, 17, 18, 19, 20, 21, 22, 23, 24, 25, 26, 27, 28, 29, 30, 31, 32, 33, 34, 35, 36, 37, 38, 39, 40, 41, 42, 43, 44, 45, 46] (by decide +kernel) (by decide +kernel)
set_option maxRecDepth 20000 in
theorem gX6_tell_X6_noPin : GoodIn wsX6_tell (wsV RX6 147 RX6 yX6_noPin wsX6_noPin) := goodIn_app (goodIn_of _ (by decide +kernel)) ggX6_tell_X6_noPin
set_option maxRecDepth 20000 in
theorem ggX6_tell_X6_traced : GoodIn wsX6_tell wsX6_traced := goodIn_r _ [15, 16, 17, 18, 19, 20, 21, 22, 23, 24, 25, 26, 27, 28, 29, 30, 31, 32, 33, 34, 35, 36, 37, 38, 39, 40, 41, 42, 43, 44, 45, 46] (by decide +kernel) (by decide +kernel)
set_option maxRecDepth 20000 in
theorem gX6_tell_X6_traced : GoodIn wsX6_tell (wsV RX6 232 RX6 yX6_traced wsX6_traced) := goodIn_app (goodIn_of _ (by decide +kernel)) ggX6_tell_X6_traced
theorem dX6_tell_0 : decode cX6_tell 0 = .ok (.aload_n 0, 1) := by decide +kernel
theorem dX6_tell_1 : decode cX6_tell 1 = .ok (.iload_n 1, 1) := by decide +kernel
theorem dX6_tell_2 : decode cX6_tell 2 = .ok (.invokevirtual 147, 3) := by decide +kernel
theorem dX6_tell_5 : decode cX6_tell 5 = .ok (.ifCond .eq 5, 3) := by decide +kernel
theorem dX6_tell_8 : decode cX6_tell 8 = .ok (.iconst (-1), 1) := by decide +kernel
theorem dX6_tell_9 : decode cX6_tell 9 = .ok (.ireturn, 1) := by decide +kernel
theorem dX6_tell_10 : decode cX6_tell 10 = .ok (.aload_n 0, 1) := by decide +kernel
theorem dX6_tell_11 : decode cX6_tell 11 = .ok (.getfield 7, 3) := by decide +kernel
theorem dX6_tell_14 : decode cX6_tell 14 = .ok (.iload_n 1, 1) := by decide +kernel
theorem dX6_tell_15 : decode cX6_tell 15 = .ok (.iaload, 1) := by decide +kernel
theorem dX6_tell_16 : decode cX6_tell 16 = .ok (.istore_n 2, 1) := by decide +kernel
theorem dX6_tell_17 : decode cX6_tell 17 = .ok (.iload_n 2, 1) := by decide +kernel
theorem dX6_tell_18 : decode cX6_tell 18 = .ok (.iconst 2, 1) := by decide +kernel
theorem dX6_tell_19 : decode cX6_tell 19 = .ok (.if_icmp .ne 8, 3) := by decide +kernel
theorem dX6_tell_22 : decode cX6_tell 22 = .ok (.aload_n 0, 1) := by decide +kernel
theorem dX6_tell_23 : decode cX6_tell 23 = .ok (.iconst 3, 1) := by decide +kernel
theorem dX6_tell_24 : decode cX6_tell 24 = .ok (.invokevirtual 232, 3) := by decide +kernel
theorem dX6_tell_27 : decode cX6_tell 27 = .ok (.iload_n 2, 1) := by decide +kernel
theorem dX6_tell_28 : decode cX6_tell 28 = .ok (.ifCond .le 8, 3) := by decide +kernel
theorem dX6_tell_31 : decode cX6_tell 31 = .ok (.aload_n 0, 1) := by decide +kernel
theorem dX6_tell_32 : decode cX6_tell 32 = .ok (.iconst 2, 1) := by decide +kernel
theorem dX6_tell_33 : decode cX6_tell 33 = .ok (.invokevirtual 232, 3) := by decide +kernel
theorem dX6_tell_36 : decode cX6_tell 36 = .ok (.aload_n 0, 1) := by decide +kernel
theorem dX6_tell_37 : decode cX6_tell 37 = .ok (.iconst 1, 1) := by decide +kernel
theorem dX6_tell_38 : decode cX6_tell 38 = .ok (.invokevirtual 232, 3) := by decide +kernel
theorem dX6_tell_41 : decode cX6_tell 41 = .ok (.iload_n 2, 1) := by decide +kernel
theorem dX6_tell_42 : decode cX6_tell 42 = .ok (.iconst 2, 1) := by decide +kernel
theorem dX6_tell_43 : decode cX6_tell 43 = .ok (.if_icmp .ne 8, 3) := by decide +kernel
theorem dX6_tell_46 : decode cX6_tell 46 = .ok (.aload_n 0, 1) := by decide +kernel
theorem dX6_tell_47 : decode cX6_tell 47 = .ok (.iconst 1, 1) := by decide +kernel
theorem dX6_tell_48 : decode cX6_tell 48 = .ok (.invokevirtual 232, 3) := by decide +kernel
theorem dX6_tell_51 : decode cX6_tell 51 = .ok (.aload_n 0, 1) := by decide +kernel
theorem dX6_tell_52 : decode cX6_tell 52 = .ok (.getfield 13, 3) := by decide +kernel
theorem dX6_tell_55 : decode cX6_tell 55 = .ok (.iload_n 1, 1) := by decide +kernel
theorem dX6_tell_56 : decode cX6_tell 56 = .ok (.iaload, 1) := by decide +kernel
theorem dX6_tell_57 : decode cX6_tell 57 = .ok (.istore_n 3, 1) := by decide +kernel
theorem dX6_tell_58 : decode cX6_tell 58 = .ok (.iload_n 2, 1) := by decide +kernel
theorem dX6_tell_59 : decode cX6_tell 59 = .ok (.ifCond .ne 7, 3) := by decide +kernel
theorem dX6_tell_62 : decode cX6_tell 62 = .ok (.iload_n 3, 1) := by decide +kernel
theorem dX6_tell_63 : decode cX6_tell 63 = .ok (.goto 21, 3) := by decide +kernel
theorem dX6_tell_66 : decode cX6_tell 66 = .ok (.iload_n 2, 1) := by decide +kernel
theorem dX6_tell_67 : decode cX6_tell 67 = .ok (.iconst 1, 1) := by decide +kernel
theorem dX6_tell_68 : decode cX6_tell 68 = .ok (.if_icmp .ne 10, 3) := by decide +kernel
theorem dX6_tell_71 : decode cX6_tell 71 = .ok (.iload_n 3, 1) := by decide +kernel
theorem dX6_tell_72 : decode cX6_tell 72 = .ok (.bipush 100, 2) := by decide +kernel
theorem dX6_tell_74 : decode cX6_tell 74 = .ok (.iadd, 1) := by decide +kernel
theorem dX6_tell_75 : decode cX6_tell 75 = .ok (.goto 9, 3) := by decide +kernel
theorem dX6_tell_78 : decode cX6_tell 78 = .ok (.iconst 2, 1) := by decide +kernel
theorem dX6_tell_79 : decode cX6_tell 79 = .ok (.iload_n 3, 1) := by decide +kernel
theorem dX6_tell_80 : decode cX6_tell 80 = .ok (.imul, 1) := by decide +kernel
theorem dX6_tell_81 : decode cX6_tell 81 = .ok (.bipush 100, 2) := by decide +kernel
theorem dX6_tell_83 : decode cX6_tell 83 = .ok (.iadd, 1) := by decide +kernel
theorem dX6_tell_84 : decode cX6_tell 84 = .ok (.ireturn, 1) := by decide +kernel
set_option maxRecDepth 20000 in
theorem ggX6_splash_X6_noPin : GoodIn wsX6_splash wsX6_noPin := goodIn_r _ [6, 7, 8, 9, 5, 10, 16, 17, 18, 19, 20, 21, 22, 23, 24, 25, 26, 27, 28, 29, 30, 31, 32, 33, 34, 35, 36, 37, 38, 39, 40, 41, 42, 43, 44, 45] (by decide +kernel) (by decide +kernel)
set_option maxRecDepth 20000 in
theorem gX6_splash_X6_noPin : GoodIn wsX6_splash (wsV RX6 147 RX6 yX6_noPin wsX6_noPin) := goodIn_app (goodIn_of _ (by decide +kernel)) ggX6_splash_X6_noPin
set_option maxRecDepth 20000 in
theorem ggX6_splash_X6_traced : GoodIn wsX6_splash wsX6_traced := goodIn_r _ [14, 15, 16, 17, 18, 19, 20, 21, 22, 23, 24, 25, 26, 27, 28, 29, 30, 31, 32, 33, 34, 35, 36, 37, 38, 39, 40, 41, 42, 43, 44, 45] (by decide +kernel) (by decide +kernel)
set_option maxRecDepth 20000 in
theorem gX6_splash_X6_traced : GoodIn wsX6_splash (wsV RX6 232 RX6 yX6_traced wsX6_traced) := goodIn_app (goodIn_of _ (by decide +kernel)) ggX6_splash_X6_traced
theorem dX6_splash_0 : decode cX6_splash 0 = .ok (.aload_n 0, 1) := by decide +kernel
theorem dX6_splash_1 : decode cX6_splash 1 = .ok (.iload_n 1, 1) := by decide +kernel
theorem dX6_splash_2 : decode cX6_splash 2 = .ok (.invokevirtual 147, 3) := by decide +kernel
theorem dX6_splash_5 : decode cX6_splash 5 = .ok (.ifCond .eq 5, 3) := by decide +kernel
theorem dX6_splash_8 : decode cX6_splash 8 = .ok (.iconst (-1), 1) := by decide +kernel
theorem dX6_splash_9 : decode cX6_splash 9 = .ok (.ireturn, 1) := by decide +kernel
theorem dX6_splash_10 : decode cX6_splash 10 = .ok (.aload_n 0, 1) := by decide +kernel
theorem dX6_splash_11 : decode cX6_splash 11 = .ok (.aload_n 0, 1) := by decide +kernel
theorem dX6_splash_12 : decode cX6_splash 12 = .ok (.getfield 7, 3) := by decide +kernel
theorem dX6_splash_15 : decode cX6_splash 15 = .ok (.iload_n 1, 1) := by decide +kernel
theorem dX6_splash_16 : decode cX6_splash 16 = .ok (.iaload, 1) := by decide +kernel
theorem dX6_splash_17 : decode cX6_splash 17 = .ok (.iconst 2, 1) := by decide +kernel
theorem dX6_splash_18 : decode cX6_splash 18 = .ok (.if_icmp .ne 7, 3) := by decide +kernel
theorem dX6_splash_21 : decode cX6_splash 21 = .ok (.iconst 5, 1) := by decide +kernel
theorem dX6_splash_22 : decode cX6_splash 22 = .ok (.goto 4, 3) := by decide +kernel
theorem dX6_splash_25 : decode cX6_splash 25 = .ok (.iconst 4, 1) := by decide +kernel
theorem dX6_splash_26 : decode cX6_splash 26 = .ok (.invokevirtual 232, 3) := by decide +kernel
theorem dX6_splash_29 : decode cX6_splash 29 = .ok (.aload_n 0, 1) := by decide +kernel
theorem dX6_splash_30 : decode cX6_splash 30 = .ok (.getfield 7, 3) := by decide +kernel
theorem dX6_splash_33 : decode cX6_splash 33 = .ok (.iload_n 1, 1) := by decide +kernel
theorem dX6_splash_34 : decode cX6_splash 34 = .ok (.iaload, 1) := by decide +kernel
theorem dX6_splash_35 : decode cX6_splash 35 = .ok (.iconst 2, 1) := by decide +kernel
theorem dX6_splash_36 : decode cX6_splash 36 = .ok (.if_icmp .ne 8, 3) := by decide +kernel
theorem dX6_splash_39 : decode cX6_splash 39 = .ok (.bipush 50, 2) := by decide +kernel
theorem dX6_splash_41 : decode cX6_splash 41 = .ok (.goto 4, 3) := by decide +kernel
theorem dX6_splash_44 : decode cX6_splash 44 = .ok (.iload_n 1, 1) := by decide +kernel
theorem dX6_splash_45 : decode cX6_splash 45 = .ok (.ireturn, 1) := by decide +kernel
set_option maxRecDepth 20000 in
theorem ggX6_as_X6_noPin : GoodIn wsX6_as wsX6_noPin := goodIn_r _ [7, 8, 9, 10, 6, 11, 21, 22, 23, 24, 25, 26, 27, 28, 29, 30, 31, 32, 33, 34, 35, 36, 37, 38, 39, 40, 41, 42, 43, 44, 45, 46, 47, 48, 49, 50] (by decide +kernel) (by decide +kernel)
set_option maxRecDepth 20000 in
theorem gX6_as_X6_noPin : GoodIn wsX6_as (wsV RX6 147 RX6 yX6_noPin wsX6_noPin) := goodIn_app (goodIn_of _ (by decide +kernel)) ggX6_as_X6_noPin
set_option maxRecDepth 20000 in
theorem ggX6_as_X6_refused : GoodIn wsX6_as wsX6_refused := goodIn_r _ [15, 16, 21, 22, 23, 24, 25, 26, 27, 28, 29, 30, 31, 32, 33, 34, 35, 36, 37, 38, 39, 40, 41, 42, 43, 44, 45, 46, 47, 48, 49, 50] (by decide +kernel) (by decide +kernel)
set_option maxRecDepth 20000 in
theorem gX6_as_X6_refused : GoodIn wsX6_as (wsV RX6 114 RX6 yX6_refused wsX6_refused) := goodIn_app (goodIn_of _ (by decide +kernel)) ggX6_as_X6_refused
set_option maxRecDepth 20000 in
theorem ggX6_as_X6_in : GoodIn wsX6_as wsX6_in := goodIn_r _ [11] (by decide +kernel) (by decide +kernel)
set_option maxRecDepth 20000 in
theorem gX6_as_X6_in : GoodIn wsX6_as (va_wsS RX6 71 yX6_in wsX6_in) := goodIn_app (goodIn_of _ (by decide +kernel)) ggX6_as_X6_in
set_option maxRecDepth 20000 in
theorem ggX6_as_X6_failed : GoodIn wsX6_as wsX6_failed := goodIn_r _ [20, 16, 21, 22, 23, 24, 25, 26, 27, 28, 29, 30, 31, 32, 33, 34, 35, 36, 37, 38, 39, 40, 41, 42, 43, 44, 45, 46, 47, 48, 49, 50] (by decide +kernel) (by decide +kernel)
set_option maxRecDepth 20000 in
theorem gX6_as_X6_failed : GoodIn wsX6_as (wsV RX6 102 RX6 yX6_failed wsX6_failed) := goodIn_app (goodIn_of _ (by decide +kernel)) ggX6_as_X6_failed
theorem dX6_as_0 : decode cX6_as 0 = .ok (.aload_n 0, 1) := by decide +kernel
theorem dX6_as_1 : decode cX6_as 1 = .ok (.iload_n 1, 1) := by decide +kernel
theorem dX6_as_2 : decode cX6_as 2 = .ok (.invokevirtual 147, 3) := by decide +kernel
theorem dX6_as_5 : decode cX6_as 5 = .ok (.ifCond .eq 9, 3) := by decide +kernel
theorem dX6_as_8 : decode cX6_as 8 = .ok (.aload_n 0, 1) := by decide +kernel
theorem dX6_as_9 : decode cX6_as 9 = .ok (.iconst (-1), 1) := by decide +kernel
theorem dX6_as_10 : decode cX6_as 10 = .ok (.invokevirtual 114, 3) := by decide +kernel
theorem dX6_as_13 : decode cX6_as 13 = .ok (.ireturn, 1) := by decide +kernel
theorem dX6_as_14 : decode cX6_as 14 = .ok (.iload_n 2, 1) := by decide +kernel
theorem dX6_as_15 : decode cX6_as 15 = .ok (.i2l, 1) := by decide +kernel
theorem dX6_as_16 : decode cX6_as 16 = .ok (.lconst 0, 1) := by decide +kernel
theorem dX6_as_17 : decode cX6_as 17 = .ok (.ldc2_w 117, 3) := by decide +kernel
theorem dX6_as_20 : decode cX6_as 20 = .ok (.invokestatic 71, 3) := by decide +kernel
theorem dX6_as_23 : decode cX6_as 23 = .ok (.ifCond .ne 10, 3) := by decide +kernel
theorem dX6_as_26 : decode cX6_as 26 = .ok (.aload_n 0, 1) := by decide +kernel
theorem dX6_as_27 : decode cX6_as 27 = .ok (.bipush (-2), 2) := by decide +kernel
theorem dX6_as_29 : decode cX6_as 29 = .ok (.invokevirtual 114, 3) := by decide +kernel
theorem dX6_as_32 : decode cX6_as 32 = .ok (.ireturn, 1) := by decide +kernel
theorem dX6_as_33 : decode cX6_as 33 = .ok (.aload_n 0, 1) := by decide +kernel
theorem dX6_as_34 : decode cX6_as 34 = .ok (.getfield 7, 3) := by decide +kernel
theorem dX6_as_37 : decode cX6_as 37 = .ok (.iload_n 1, 1) := by decide +kernel
theorem dX6_as_38 : decode cX6_as 38 = .ok (.iaload, 1) := by decide +kernel
theorem dX6_as_39 : decode cX6_as 39 = .ok (.iload_n 2, 1) := by decide +kernel
theorem dX6_as_40 : decode cX6_as 40 = .ok (.if_icmp .lt 11, 3) := by decide +kernel
theorem dX6_as_43 : decode cX6_as 43 = .ok (.aload_n 0, 1) := by decide +kernel
theorem dX6_as_44 : decode cX6_as 44 = .ok (.iconst 1, 1) := by decide +kernel
theorem dX6_as_45 : decode cX6_as 45 = .ok (.invokevirtual 114, 3) := by decide +kernel
theorem dX6_as_48 : decode cX6_as 48 = .ok (.goto 8, 3) := by decide +kernel
theorem dX6_as_51 : decode cX6_as 51 = .ok (.aload_n 0, 1) := by decide +kernel
theorem dX6_as_52 : decode cX6_as 52 = .ok (.iconst 2, 1) := by decide +kernel
theorem dX6_as_53 : decode cX6_as 53 = .ok (.invokevirtual 102, 3) := by decide +kernel
theorem dX6_as_56 : decode cX6_as 56 = .ok (.ireturn, 1) := by decide +kernel
theorem dX6_trace_0 : decode cX6_trace 0 = .ok (.aload_n 0, 1) := by decide +kernel
theorem dX6_trace_1 : decode cX6_trace 1 = .ok (.getfield 229, 3) := by decide +kernel
theorem dX6_trace_4 : decode cX6_trace 4 = .ok (.ireturn, 1) := by decide +kernel
theorem dX6_fault_0 : decode cX6_fault 0 = .ok (.aload_n 0, 1) := by decide +kernel
theorem dX6_fault_1 : decode cX6_fault 1 = .ok (.getfield 60, 3) := by decide +kernel
theorem dX6_fault_4 : decode cX6_fault 4 = .ok (.ireturn, 1) := by decide +kernel
theorem dX6_many_0 : decode cX6_many 0 = .ok (.iload_n 1, 1) := by decide +kernel
theorem dX6_many_1 : decode cX6_many 1 = .ok (.tableswitch 60 0 4 #[35, 40, 45, 50, 55], 35) := by decide +kernel
theorem dX6_many_36 : decode cX6_many 36 = .ok (.aload_n 0, 1) := by decide +kernel
theorem dX6_many_37 : decode cX6_many 37 = .ok (.getfield 68, 3) := by decide +kernel
theorem dX6_many_40 : decode cX6_many 40 = .ok (.ireturn, 1) := by decide +kernel
theorem dX6_many_41 : decode cX6_many 41 = .ok (.aload_n 0, 1) := by decide +kernel
theorem dX6_many_42 : decode cX6_many 42 = .ok (.getfield 126, 3) := by decide +kernel
theorem dX6_many_45 : decode cX6_many 45 = .ok (.ireturn, 1) := by decide +kernel
theorem dX6_many_46 : decode cX6_many 46 = .ok (.aload_n 0, 1) := by decide +kernel
theorem dX6_many_47 : decode cX6_many 47 = .ok (.getfield 129, 3) := by decide +kernel
theorem dX6_many_50 : decode cX6_many 50 = .ok (.ireturn, 1) := by decide +kernel
theorem dX6_many_51 : decode cX6_many 51 = .ok (.aload_n 0, 1) := by decide +kernel
theorem dX6_many_52 : decode cX6_many 52 = .ok (.getfield 132, 3) := by decide +kernel
theorem dX6_many_55 : decode cX6_many 55 = .ok (.ireturn, 1) := by decide +kernel
theorem dX6_many_56 : decode cX6_many 56 = .ok (.aload_n 0, 1) := by decide +kernel
theorem dX6_many_57 : decode cX6_many 57 = .ok (.getfield 135, 3) := by decide +kernel
theorem dX6_many_60 : decode cX6_many 60 = .ok (.ireturn, 1) := by decide +kernel
theorem dX6_many_61 : decode cX6_many 61 = .ok (.bipush (-2), 2) := by decide +kernel
theorem dX6_many_63 : decode cX6_many 63 = .ok (.ireturn, 1) := by decide +kernel
