set_option maxRecDepth 20000 in
theorem ggX5_init_X4_init : GoodIn wsX5_init wsX4_init := goodIn_r _ [25, 26, 2, 3, 27, 28, 29, 30, 52, 53, 54, 55, 56, 57, 58] (by decide +kernel) (by decide +kernel)
set_option maxRecDepth 20000 in
theorem gX5_init_X4_init_n11 : GoodIn wsX5_init (wsX4_init) := ggX5_init_X4_init
set_option maxRecDepth 20000 in
theorem ggX5_init_X2_init : GoodIn wsX5_init wsX2_init := goodIn_r _ [32, 33, 2, 3, 27, 34, 35, 66, 67, 68] (by decide +kernel) (by decide +kernel)
set_option maxRecDepth 20000 in
theorem gX5_init_X2_init_n20 : GoodIn wsX5_init (wsX2_init) := ggX5_init_X2_init
set_option maxRecDepth 20000 in
theorem ggX5_init_X0_init : GoodIn wsX5_init wsX0_init := goodIn_r _ [37, 38, 2, 3, 39, 5, 6, 40, 24, 25, 26, 27, 28, 29, 30, 52, 53, 54, 55, 56, 57, 58, 69, 70, 71] (by decide +kernel) (by decide +kernel)
set_option maxRecDepth 20000 in
theorem gX5_init_X0_init_n27 : GoodIn wsX5_init (wsX0_init) := ggX5_init_X0_init
set_option maxRecDepth 20000 in
theorem ggX5_init_X1_init : GoodIn wsX5_init wsX1_init := goodIn_r _ [42, 43, 2, 3, 27, 44, 45, 46, 72, 73, 74, 75, 76] (by decide +kernel) (by decide +kernel)
set_option maxRecDepth 20000 in
theorem gX5_init_X1_init_n34 : GoodIn wsX5_init (wsX1_init) := ggX5_init_X1_init
set_option maxRecDepth 20000 in
theorem ggX5_init_X3_init : GoodIn wsX5_init wsX3_init := goodIn_r _ [48, 49, 2, 3, 27, 50, 51, 77, 78, 79] (by decide +kernel) (by decide +kernel)
set_option maxRecDepth 20000 in
theorem gX5_init_X3_init_n45 : GoodIn wsX5_init (wsX3_init) := ggX5_init_X3_init
theorem dX5_init_0 : decode cX5_init 0 = .ok (.aload_n 0, 1) := by decide +kernel
theorem dX5_init_1 : decode cX5_init 1 = .ok (.invokespecial 3, 3) := by decide +kernel
theorem dX5_init_4 : decode cX5_init 4 = .ok (.aload_n 0, 1) := by decide +kernel
theorem dX5_init_5 : decode cX5_init 5 = .ok (.new 9, 3) := by decide +kernel
theorem dX5_init_8 : decode cX5_init 8 = .ok (.dup, 1) := by decide +kernel
theorem dX5_init_9 : decode cX5_init 9 = .ok (.invokespecial 11, 3) := by decide +kernel
theorem dX5_init_12 : decode cX5_init 12 = .ok (.putfield 12, 3) := by decide +kernel
theorem dX5_init_15 : decode cX5_init 15 = .ok (.aload_n 0, 1) := by decide +kernel
theorem dX5_init_16 : decode cX5_init 16 = .ok (.new 18, 3) := by decide +kernel
theorem dX5_init_19 : decode cX5_init 19 = .ok (.dup, 1) := by decide +kernel
theorem dX5_init_20 : decode cX5_init 20 = .ok (.invokespecial 20, 3) := by decide +kernel
theorem dX5_init_23 : decode cX5_init 23 = .ok (.putfield 21, 3) := by decide +kernel
theorem dX5_init_26 : decode cX5_init 26 = .ok (.aload_n 0, 1) := by decide +kernel
theorem dX5_init_27 : decode cX5_init 27 = .ok (.new 25, 3) := by decide +kernel
theorem dX5_init_30 : decode cX5_init 30 = .ok (.dup, 1) := by decide +kernel
theorem dX5_init_31 : decode cX5_init 31 = .ok (.invokespecial 27, 3) := by decide +kernel
theorem dX5_init_34 : decode cX5_init 34 = .ok (.putfield 28, 3) := by decide +kernel
theorem dX5_init_37 : decode cX5_init 37 = .ok (.aload_n 0, 1) := by decide +kernel
theorem dX5_init_38 : decode cX5_init 38 = .ok (.new 32, 3) := by decide +kernel
theorem dX5_init_41 : decode cX5_init 41 = .ok (.dup, 1) := by decide +kernel
theorem dX5_init_42 : decode cX5_init 42 = .ok (.invokespecial 34, 3) := by decide +kernel
theorem dX5_init_45 : decode cX5_init 45 = .ok (.putfield 35, 3) := by decide +kernel
theorem dX5_init_48 : decode cX5_init 48 = .ok (.aload_n 0, 1) := by decide +kernel
theorem dX5_init_49 : decode cX5_init 49 = .ok (.iconst 4, 1) := by decide +kernel
theorem dX5_init_50 : decode cX5_init 50 = .ok (.anewarray 39, 3) := by decide +kernel
theorem dX5_init_53 : decode cX5_init 53 = .ok (.putfield 41, 3) := by decide +kernel
theorem dX5_init_56 : decode cX5_init 56 = .ok (.iconst 0, 1) := by decide +kernel
theorem dX5_init_57 : decode cX5_init 57 = .ok (.istore_n 1, 1) := by decide +kernel
theorem dX5_init_58 : decode cX5_init 58 = .ok (.iload_n 1, 1) := by decide +kernel
theorem dX5_init_59 : decode cX5_init 59 = .ok (.iconst 4, 1) := by decide +kernel
theorem dX5_init_60 : decode cX5_init 60 = .ok (.if_icmp .ge 22, 3) := by decide +kernel
theorem dX5_init_63 : decode cX5_init 63 = .ok (.aload_n 0, 1) := by decide +kernel
theorem dX5_init_64 : decode cX5_init 64 = .ok (.getfield 41, 3) := by decide +kernel
theorem dX5_init_67 : decode cX5_init 67 = .ok (.iload_n 1, 1) := by decide +kernel
theorem dX5_init_68 : decode cX5_init 68 = .ok (.new 39, 3) := by decide +kernel
theorem dX5_init_71 : decode cX5_init 71 = .ok (.dup, 1) := by decide +kernel
theorem dX5_init_72 : decode cX5_init 72 = .ok (.invokespecial 45, 3) := by decide +kernel
theorem dX5_init_75 : decode cX5_init 75 = .ok (.aastore, 1) := by decide +kernel
theorem dX5_init_76 : decode cX5_init 76 = .ok (.iinc 1 1, 3) := by decide +kernel
theorem dX5_init_79 : decode cX5_init 79 = .ok (.goto (-21), 3) := by decide +kernel
theorem dX5_init_82 : decode cX5_init 82 = .ok (.return_, 1) := by decide +kernel
set_option maxRecDepth 20000 in
theorem ggX5_well_X5_isSheet : GoodIn wsX5_well wsX5_isSheet := goodIn_r _ [9] (by decide +kernel) (by decide +kernel)
set_option maxRecDepth 20000 in
theorem gX5_well_X5_isSheet : GoodIn wsX5_well (va_wsS RX5 50 yX5_isSheet wsX5_isSheet) := goodIn_app (goodIn_of _ (by decide +kernel)) ggX5_well_X5_isSheet
set_option maxRecDepth 20000 in
theorem ggX5_well_X5_isLane : GoodIn wsX5_well wsX5_isLane := goodIn_r _ [12] (by decide +kernel) (by decide +kernel)
set_option maxRecDepth 20000 in
theorem gX5_well_X5_isLane : GoodIn wsX5_well (va_wsS RX5 54 yX5_isLane wsX5_isLane) := goodIn_app (goodIn_of _ (by decide +kernel)) ggX5_well_X5_isLane
set_option maxRecDepth 20000 in
theorem ggX5_well_X3_faultAs : GoodIn wsX5_well wsX3_faultAs := goodIn_r _ [17, 18, 19, 20, 21, 16, 22, 81, 82, 83] (by decide +kernel) (by decide +kernel)
set_option maxRecDepth 20000 in
theorem gX5_well_X3_faultAs : GoodIn wsX5_well (wsV RX5 57 RX3 yX3_faultAs wsX3_faultAs) := goodIn_app (goodIn_of _ (by decide +kernel)) ggX5_well_X3_faultAs
set_option maxRecDepth 20000 in
theorem ggX5_well_X3_hasCells : GoodIn wsX5_well wsX3_hasCells := goodIn_r _ [26, 27, 81, 82, 83] (by decide +kernel) (by decide +kernel)
set_option maxRecDepth 20000 in
theorem gX5_well_X3_hasCells : GoodIn wsX5_well (wsV RX5 61 RX3 yX3_hasCells wsX3_hasCells) := goodIn_app (goodIn_of _ (by decide +kernel)) ggX5_well_X3_hasCells
set_option maxRecDepth 20000 in
theorem ggX5_well_X5_failed : GoodIn wsX5_well wsX5_failed := goodIn_r _ [31, 1, 67, 68, 69, 70, 71, 72, 73] (by decide +kernel) (by decide +kernel)
set_option maxRecDepth 20000 in
theorem gX5_well_X5_failed : GoodIn wsX5_well (wsV RX5 65 RX5 yX5_failed wsX5_failed) := goodIn_app (goodIn_of _ (by decide +kernel)) ggX5_well_X5_failed
set_option maxRecDepth 20000 in
theorem ggX5_well_X5_firstFault : GoodIn wsX5_well wsX5_firstFault := goodIn_r _ [34, 35, 36, 37, 16, 38, 39, 40, 24, 25, 26, 27, 41, 42, 8, 43, 81, 82, 83] (by decide +kernel) (by decide +kernel)
set_option maxRecDepth 20000 in
theorem gX5_well_X5_firstFault : GoodIn wsX5_well (va_wsS RX5 68 yX5_firstFault wsX5_firstFault) := goodIn_app (goodIn_of _ (by decide +kernel)) ggX5_well_X5_firstFault
set_option maxRecDepth 20000 in
theorem ggX5_well_X4_fill : GoodIn wsX5_well wsX4_fill := goodIn_r _ [48, 49, 50, 51, 52, 53, 36, 37, 16, 38, 39, 40, 24, 25, 26, 27, 54, 55, 56, 47, 57, 58, 59, 60, 74, 75, 76, 77, 78, 79, 80, 81, 82, 83] (by decide +kernel) (by decide +kernel)
set_option maxRecDepth 20000 in
theorem gX5_well_X4_fill : GoodIn wsX5_well (wsV RX5 72 RX4 yX4_fill wsX4_fill) := goodIn_app (goodIn_of _ (by decide +kernel)) ggX5_well_X4_fill
set_option maxRecDepth 20000 in
theorem ggX5_well_X2_clear : GoodIn wsX5_well wsX2_clear := goodIn_r _ [65, 66, 84, 85, 86] (by decide +kernel) (by decide +kernel)
set_option maxRecDepth 20000 in
theorem gX5_well_X2_clear : GoodIn wsX5_well (wsV RX5 76 RX2 yX2_clear wsX2_clear) := goodIn_app (goodIn_of _ (by decide +kernel)) ggX5_well_X2_clear
theorem dX5_well_0 : decode cX5_well 0 = .ok (.aload_n 0, 1) := by decide +kernel
theorem dX5_well_1 : decode cX5_well 1 = .ok (.iconst 0, 1) := by decide +kernel
theorem dX5_well_2 : decode cX5_well 2 = .ok (.putfield 46, 3) := by decide +kernel
theorem dX5_well_5 : decode cX5_well 5 = .ok (.iload_n 1, 1) := by decide +kernel
theorem dX5_well_6 : decode cX5_well 6 = .ok (.invokestatic 50, 3) := by decide +kernel
theorem dX5_well_9 : decode cX5_well 9 = .ok (.ifCond .ne 5, 3) := by decide +kernel
theorem dX5_well_12 : decode cX5_well 12 = .ok (.iconst (-1), 1) := by decide +kernel
theorem dX5_well_13 : decode cX5_well 13 = .ok (.ireturn, 1) := by decide +kernel
theorem dX5_well_14 : decode cX5_well 14 = .ok (.iload_n 2, 1) := by decide +kernel
theorem dX5_well_15 : decode cX5_well 15 = .ok (.invokestatic 54, 3) := by decide +kernel
theorem dX5_well_18 : decode cX5_well 18 = .ok (.ifCond .ne 6, 3) := by decide +kernel
theorem dX5_well_21 : decode cX5_well 21 = .ok (.bipush (-2), 2) := by decide +kernel
theorem dX5_well_23 : decode cX5_well 23 = .ok (.ireturn, 1) := by decide +kernel
theorem dX5_well_24 : decode cX5_well 24 = .ok (.aload_n 0, 1) := by decide +kernel
theorem dX5_well_25 : decode cX5_well 25 = .ok (.getfield 41, 3) := by decide +kernel
theorem dX5_well_28 : decode cX5_well 28 = .ok (.iload_n 1, 1) := by decide +kernel
theorem dX5_well_29 : decode cX5_well 29 = .ok (.aaload, 1) := by decide +kernel
theorem dX5_well_30 : decode cX5_well 30 = .ok (.astore 5, 2) := by decide +kernel
theorem dX5_well_32 : decode cX5_well 32 = .ok (.aload 5, 2) := by decide +kernel
theorem dX5_well_34 : decode cX5_well 34 = .ok (.iload_n 2, 1) := by decide +kernel
theorem dX5_well_35 : decode cX5_well 35 = .ok (.invokevirtual 57, 3) := by decide +kernel
theorem dX5_well_38 : decode cX5_well 38 = .ok (.istore 6, 2) := by decide +kernel
theorem dX5_well_40 : decode cX5_well 40 = .ok (.iload 6, 2) := by decide +kernel
theorem dX5_well_42 : decode cX5_well 42 = .ok (.ifCond .ne 11, 3) := by decide +kernel
theorem dX5_well_45 : decode cX5_well 45 = .ok (.iload 4, 2) := by decide +kernel
theorem dX5_well_47 : decode cX5_well 47 = .ok (.ifCond .ge 6, 3) := by decide +kernel
theorem dX5_well_50 : decode cX5_well 50 = .ok (.iconst 4, 1) := by decide +kernel
theorem dX5_well_51 : decode cX5_well 51 = .ok (.istore 6, 2) := by decide +kernel
theorem dX5_well_53 : decode cX5_well 53 = .ok (.iload 6, 2) := by decide +kernel
theorem dX5_well_55 : decode cX5_well 55 = .ok (.ifCond .ne 17, 3) := by decide +kernel
theorem dX5_well_58 : decode cX5_well 58 = .ok (.aload 5, 2) := by decide +kernel
theorem dX5_well_60 : decode cX5_well 60 = .ok (.iload_n 3, 1) := by decide +kernel
theorem dX5_well_61 : decode cX5_well 61 = .ok (.iload 4, 2) := by decide +kernel
theorem dX5_well_63 : decode cX5_well 63 = .ok (.invokevirtual 61, 3) := by decide +kernel
theorem dX5_well_66 : decode cX5_well 66 = .ok (.ifCond .ne 6, 3) := by decide +kernel
theorem dX5_well_69 : decode cX5_well 69 = .ok (.iconst 3, 1) := by decide +kernel
theorem dX5_well_70 : decode cX5_well 70 = .ok (.istore 6, 2) := by decide +kernel
theorem dX5_well_72 : decode cX5_well 72 = .ok (.iload 6, 2) := by decide +kernel
theorem dX5_well_74 : decode cX5_well 74 = .ok (.ifCond .eq 10, 3) := by decide +kernel
theorem dX5_well_77 : decode cX5_well 77 = .ok (.aload_n 0, 1) := by decide +kernel
theorem dX5_well_78 : decode cX5_well 78 = .ok (.iload 6, 2) := by decide +kernel
theorem dX5_well_80 : decode cX5_well 80 = .ok (.invokevirtual 65, 3) := by decide +kernel
theorem dX5_well_83 : decode cX5_well 83 = .ok (.ireturn, 1) := by decide +kernel
theorem dX5_well_84 : decode cX5_well 84 = .ok (.aload 5, 2) := by decide +kernel
theorem dX5_well_86 : decode cX5_well 86 = .ok (.iload_n 3, 1) := by decide +kernel
theorem dX5_well_87 : decode cX5_well 87 = .ok (.iload 4, 2) := by decide +kernel
theorem dX5_well_89 : decode cX5_well 89 = .ok (.invokestatic 68, 3) := by decide +kernel
theorem dX5_well_92 : decode cX5_well 92 = .ok (.istore 7, 2) := by decide +kernel
theorem dX5_well_94 : decode cX5_well 94 = .ok (.iload 7, 2) := by decide +kernel
theorem dX5_well_96 : decode cX5_well 96 = .ok (.bipush (-9), 2) := by decide +kernel
theorem dX5_well_98 : decode cX5_well 98 = .ok (.if_icmp .eq 9, 3) := by decide +kernel
theorem dX5_well_101 : decode cX5_well 101 = .ok (.bipush (-100), 2) := by decide +kernel
theorem dX5_well_103 : decode cX5_well 103 = .ok (.iload 7, 2) := by decide +kernel
theorem dX5_well_105 : decode cX5_well 105 = .ok (.isub, 1) := by decide +kernel
theorem dX5_well_106 : decode cX5_well 106 = .ok (.ireturn, 1) := by decide +kernel
theorem dX5_well_107 : decode cX5_well 107 = .ok (.aload_n 0, 1) := by decide +kernel
theorem dX5_well_108 : decode cX5_well 108 = .ok (.getfield 12, 3) := by decide +kernel
theorem dX5_well_111 : decode cX5_well 111 = .ok (.aload 5, 2) := by decide +kernel
theorem dX5_well_113 : decode cX5_well 113 = .ok (.iload_n 3, 1) := by decide +kernel
theorem dX5_well_114 : decode cX5_well 114 = .ok (.iload 4, 2) := by decide +kernel
theorem dX5_well_116 : decode cX5_well 116 = .ok (.invokevirtual 72, 3) := by decide +kernel
theorem dX5_well_119 : decode cX5_well 119 = .ok (.aload_n 0, 1) := by decide +kernel
theorem dX5_well_120 : decode cX5_well 120 = .ok (.getfield 21, 3) := by decide +kernel
theorem dX5_well_123 : decode cX5_well 123 = .ok (.invokevirtual 76, 3) := by decide +kernel
theorem dX5_well_126 : decode cX5_well 126 = .ok (.aload_n 0, 1) := by decide +kernel
theorem dX5_well_127 : decode cX5_well 127 = .ok (.getfield 12, 3) := by decide +kernel
theorem dX5_well_130 : decode cX5_well 130 = .ok (.getfield 79, 3) := by decide +kernel
theorem dX5_well_133 : decode cX5_well 133 = .ok (.ireturn, 1) := by decide +kernel
set_option maxRecDepth 20000 in
theorem ggX5_ofPin_X4_isPin : GoodIn wsX5_ofPin wsX4_isPin := goodIn_r _ [7, 8, 44, 45, 46, 47, 48, 49, 50] (by decide +kernel) (by decide +kernel)
set_option maxRecDepth 20000 in
theorem gX5_ofPin_X4_isPin : GoodIn wsX5_ofPin (wsV RX5 82 RX4 yX4_isPin wsX4_isPin) := goodIn_app (goodIn_of _ (by decide +kernel)) ggX5_ofPin_X4_isPin
set_option maxRecDepth 20000 in
theorem ggX5_ofPin_X4_kindAt : GoodIn wsX5_ofPin wsX4_kindAt := goodIn_r _ [12, 13, 14, 4, 5, 6, 7, 8, 44, 45, 46, 47, 48, 49, 50] (by decide +kernel) (by decide +kernel)
set_option maxRecDepth 20000 in
theorem gX5_ofPin_X4_kindAt : GoodIn wsX5_ofPin (wsV RX5 85 RX4 yX4_kindAt wsX4_kindAt) := goodIn_app (goodIn_of _ (by decide +kernel)) ggX5_ofPin_X4_kindAt
set_option maxRecDepth 20000 in
theorem ggX5_ofPin_X4_bendAt : GoodIn wsX5_ofPin wsX4_bendAt := goodIn_r _ [18, 19, 14, 4, 5, 6, 7, 8, 44, 45, 46, 47, 48, 49, 50] (by decide +kernel) (by decide +kernel)
set_option maxRecDepth 20000 in
theorem gX5_ofPin_X4_bendAt : GoodIn wsX5_ofPin (wsV RX5 88 RX4 yX4_bendAt wsX4_bendAt) := goodIn_app (goodIn_of _ (by decide +kernel)) ggX5_ofPin_X4_bendAt
set_option maxRecDepth 20000 in
theorem ggX5_ofPin_X4_yearAt : GoodIn wsX5_ofPin wsX4_yearAt := goodIn_r _ [23, 24, 14, 4, 5, 6, 7, 8, 44, 45, 46, 47, 48, 49, 50] (by decide +kernel) (by decide +kernel)
set_option maxRecDepth 20000 in
theorem gX5_ofPin_X4_yearAt : GoodIn wsX5_ofPin (wsV RX5 91 RX4 yX4_yearAt wsX4_yearAt) := goodIn_app (goodIn_of _ (by decide +kernel)) ggX5_ofPin_X4_yearAt
set_option maxRecDepth 20000 in
theorem ggX5_ofPin_X5_turnOf : GoodIn wsX5_ofPin wsX5_turnOf := goodIn_r _ [28] (by decide +kernel) (by decide +kernel)
set_option maxRecDepth 20000 in
theorem gX5_ofPin_X5_turnOf : GoodIn wsX5_ofPin (va_wsS RX5 94 yX5_turnOf wsX5_turnOf) := goodIn_app (goodIn_of _ (by decide +kernel)) ggX5_ofPin_X5_turnOf
set_option maxRecDepth 20000 in
theorem ggX5_ofPin_X4_wishAt : GoodIn wsX5_ofPin wsX4_wishAt := goodIn_r _ [32, 33, 13, 19, 34, 24, 14, 4, 5, 6, 7, 8, 26, 27, 28, 35, 36, 44, 45, 46, 47, 48, 49, 50] (by decide +kernel) (by decide +kernel)
set_option maxRecDepth 20000 in
theorem gX5_ofPin_X4_wishAt : GoodIn wsX5_ofPin (wsV RX5 98 RX4 yX4_wishAt wsX4_wishAt) := goodIn_app (goodIn_of _ (by decide +kernel)) ggX5_ofPin_X4_wishAt
theorem dX5_ofPin_0 : decode cX5_ofPin 0 = .ok (.aload_n 0, 1) := by decide +kernel
theorem dX5_ofPin_1 : decode cX5_ofPin 1 = .ok (.getfield 12, 3) := by decide +kernel
theorem dX5_ofPin_4 : decode cX5_ofPin 4 = .ok (.iload_n 1, 1) := by decide +kernel
theorem dX5_ofPin_5 : decode cX5_ofPin 5 = .ok (.invokevirtual 82, 3) := by decide +kernel
theorem dX5_ofPin_8 : decode cX5_ofPin 8 = .ok (.ifCond .ne 5, 3) := by decide +kernel
theorem dX5_ofPin_11 : decode cX5_ofPin 11 = .ok (.iconst (-1), 1) := by decide +kernel
theorem dX5_ofPin_12 : decode cX5_ofPin 12 = .ok (.ireturn, 1) := by decide +kernel
theorem dX5_ofPin_13 : decode cX5_ofPin 13 = .ok (.iload_n 2, 1) := by decide +kernel
theorem dX5_ofPin_14 : decode cX5_ofPin 14 = .ok (.tableswitch 111 0 5 #[38, 47, 56, 65, 85, 94], 38) := by decide +kernel
theorem dX5_ofPin_52 : decode cX5_ofPin 52 = .ok (.aload_n 0, 1) := by decide +kernel
theorem dX5_ofPin_53 : decode cX5_ofPin 53 = .ok (.getfield 12, 3) := by decide +kernel
theorem dX5_ofPin_56 : decode cX5_ofPin 56 = .ok (.iload_n 1, 1) := by decide +kernel
theorem dX5_ofPin_57 : decode cX5_ofPin 57 = .ok (.invokevirtual 85, 3) := by decide +kernel
theorem dX5_ofPin_60 : decode cX5_ofPin 60 = .ok (.ireturn, 1) := by decide +kernel
theorem dX5_ofPin_61 : decode cX5_ofPin 61 = .ok (.aload_n 0, 1) := by decide +kernel
theorem dX5_ofPin_62 : decode cX5_ofPin 62 = .ok (.getfield 12, 3) := by decide +kernel
theorem dX5_ofPin_65 : decode cX5_ofPin 65 = .ok (.iload_n 1, 1) := by decide +kernel
theorem dX5_ofPin_66 : decode cX5_ofPin 66 = .ok (.invokevirtual 88, 3) := by decide +kernel
theorem dX5_ofPin_69 : decode cX5_ofPin 69 = .ok (.ireturn, 1) := by decide +kernel
theorem dX5_ofPin_70 : decode cX5_ofPin 70 = .ok (.aload_n 0, 1) := by decide +kernel
theorem dX5_ofPin_71 : decode cX5_ofPin 71 = .ok (.getfield 12, 3) := by decide +kernel
theorem dX5_ofPin_74 : decode cX5_ofPin 74 = .ok (.iload_n 1, 1) := by decide +kernel
theorem dX5_ofPin_75 : decode cX5_ofPin 75 = .ok (.invokevirtual 91, 3) := by decide +kernel
theorem dX5_ofPin_78 : decode cX5_ofPin 78 = .ok (.ireturn, 1) := by decide +kernel
theorem dX5_ofPin_79 : decode cX5_ofPin 79 = .ok (.aload_n 0, 1) := by decide +kernel
theorem dX5_ofPin_80 : decode cX5_ofPin 80 = .ok (.getfield 12, 3) := by decide +kernel
theorem dX5_ofPin_83 : decode cX5_ofPin 83 = .ok (.iload_n 1, 1) := by decide +kernel
theorem dX5_ofPin_84 : decode cX5_ofPin 84 = .ok (.invokevirtual 85, 3) := by decide +kernel
theorem dX5_ofPin_87 : decode cX5_ofPin 87 = .ok (.aload_n 0, 1) := by decide +kernel
theorem dX5_ofPin_88 : decode cX5_ofPin 88 = .ok (.getfield 12, 3) := by decide +kernel
theorem dX5_ofPin_91 : decode cX5_ofPin 91 = .ok (.iload_n 1, 1) := by decide +kernel
theorem dX5_ofPin_92 : decode cX5_ofPin 92 = .ok (.invokevirtual 88, 3) := by decide +kernel
theorem dX5_ofPin_95 : decode cX5_ofPin 95 = .ok (.invokestatic 94, 3) := by decide +kernel
theorem dX5_ofPin_98 : decode cX5_ofPin 98 = .ok (.ireturn, 1) := by decide +kernel
theorem dX5_ofPin_99 : decode cX5_ofPin 99 = .ok (.aload_n 0, 1) := by decide +kernel
theorem dX5_ofPin_100 : decode cX5_ofPin 100 = .ok (.getfield 12, 3) := by decide +kernel
theorem dX5_ofPin_103 : decode cX5_ofPin 103 = .ok (.iload_n 1, 1) := by decide +kernel
theorem dX5_ofPin_104 : decode cX5_ofPin 104 = .ok (.invokevirtual 98, 3) := by decide +kernel
theorem dX5_ofPin_107 : decode cX5_ofPin 107 = .ok (.ireturn, 1) := by decide +kernel
theorem dX5_ofPin_108 : decode cX5_ofPin 108 = .ok (.aload_n 0, 1) := by decide +kernel
theorem dX5_ofPin_109 : decode cX5_ofPin 109 = .ok (.getfield 12, 3) := by decide +kernel
theorem dX5_ofPin_112 : decode cX5_ofPin 112 = .ok (.getfield 101, 3) := by decide +kernel
theorem dX5_ofPin_115 : decode cX5_ofPin 115 = .ok (.aload_n 0, 1) := by decide +kernel
theorem dX5_ofPin_116 : decode cX5_ofPin 116 = .ok (.getfield 12, 3) := by decide +kernel
theorem dX5_ofPin_119 : decode cX5_ofPin 119 = .ok (.iload_n 1, 1) := by decide +kernel
theorem dX5_ofPin_120 : decode cX5_ofPin 120 = .ok (.invokevirtual 91, 3) := by decide +kernel
theorem dX5_ofPin_123 : decode cX5_ofPin 123 = .ok (.isub, 1) := by decide +kernel
theorem dX5_ofPin_124 : decode cX5_ofPin 124 = .ok (.ireturn, 1) := by decide +kernel
theorem dX5_ofPin_125 : decode cX5_ofPin 125 = .ok (.bipush (-2), 2) := by decide +kernel
theorem dX5_ofPin_127 : decode cX5_ofPin 127 = .ok (.ireturn, 1) := by decide +kernel
set_option maxRecDepth 20000 in
theorem ggX5_bend_X4_isPin : GoodIn wsX5_bend wsX4_isPin := goodIn_r _ [6, 7, 29, 30, 31, 32, 33, 34, 35] (by decide +kernel) (by decide +kernel)
set_option maxRecDepth 20000 in
theorem gX5_bend_X4_isPin : GoodIn wsX5_bend (wsV RX5 82 RX4 yX4_isPin wsX4_isPin) := goodIn_app (goodIn_of _ (by decide +kernel)) ggX5_bend_X4_isPin
set_option maxRecDepth 20000 in
theorem ggX5_bend_X5_isBend : GoodIn wsX5_bend wsX5_isBend := goodIn_r _ [11] (by decide +kernel) (by decide +kernel)
set_option maxRecDepth 20000 in
theorem gX5_bend_X5_isBend : GoodIn wsX5_bend (va_wsS RX5 104 yX5_isBend wsX5_isBend) := goodIn_app (goodIn_of _ (by decide +kernel)) ggX5_bend_X5_isBend
set_option maxRecDepth 20000 in
theorem ggX5_bend_X4_bendAt : GoodIn wsX5_bend wsX4_bendAt := goodIn_r _ [15, 16, 17, 3, 4, 5, 6, 7, 29, 30, 31, 32, 33, 34, 35] (by decide +kernel) (by decide +kernel)
set_option maxRecDepth 20000 in
theorem gX5_bend_X4_bendAt : GoodIn wsX5_bend (wsV RX5 88 RX4 yX4_bendAt wsX4_bendAt) := goodIn_app (goodIn_of _ (by decide +kernel)) ggX5_bend_X4_bendAt
set_option maxRecDepth 20000 in
theorem ggX5_bend_X4_setBend : GoodIn wsX5_bend wsX4_setBend := goodIn_r _ [21, 16, 17, 3, 4, 5, 6, 7, 29, 30, 31, 32, 33, 34, 35] (by decide +kernel) (by decide +kernel)
set_option maxRecDepth 20000 in
theorem gX5_bend_X4_setBend : GoodIn wsX5_bend (wsV RX5 107 RX4 yX4_setBend wsX4_setBend) := goodIn_app (goodIn_of _ (by decide +kernel)) ggX5_bend_X4_setBend
theorem dX5_bend_0 : decode cX5_bend 0 = .ok (.aload_n 0, 1) := by decide +kernel
theorem dX5_bend_1 : decode cX5_bend 1 = .ok (.getfield 12, 3) := by decide +kernel
theorem dX5_bend_4 : decode cX5_bend 4 = .ok (.iload_n 1, 1) := by decide +kernel
theorem dX5_bend_5 : decode cX5_bend 5 = .ok (.invokevirtual 82, 3) := by decide +kernel
theorem dX5_bend_8 : decode cX5_bend 8 = .ok (.ifCond .ne 5, 3) := by decide +kernel
theorem dX5_bend_11 : decode cX5_bend 11 = .ok (.iconst (-1), 1) := by decide +kernel
theorem dX5_bend_12 : decode cX5_bend 12 = .ok (.ireturn, 1) := by decide +kernel
theorem dX5_bend_13 : decode cX5_bend 13 = .ok (.iload_n 2, 1) := by decide +kernel
theorem dX5_bend_14 : decode cX5_bend 14 = .ok (.invokestatic 104, 3) := by decide +kernel
theorem dX5_bend_17 : decode cX5_bend 17 = .ok (.ifCond .ne 6, 3) := by decide +kernel
theorem dX5_bend_20 : decode cX5_bend 20 = .ok (.bipush (-2), 2) := by decide +kernel
theorem dX5_bend_22 : decode cX5_bend 22 = .ok (.ireturn, 1) := by decide +kernel
theorem dX5_bend_23 : decode cX5_bend 23 = .ok (.aload_n 0, 1) := by decide +kernel
theorem dX5_bend_24 : decode cX5_bend 24 = .ok (.getfield 12, 3) := by decide +kernel
theorem dX5_bend_27 : decode cX5_bend 27 = .ok (.iload_n 1, 1) := by decide +kernel
theorem dX5_bend_28 : decode cX5_bend 28 = .ok (.invokevirtual 88, 3) := by decide +kernel
theorem dX5_bend_31 : decode cX5_bend 31 = .ok (.istore_n 3, 1) := by decide +kernel
theorem dX5_bend_32 : decode cX5_bend 32 = .ok (.aload_n 0, 1) := by decide +kernel
theorem dX5_bend_33 : decode cX5_bend 33 = .ok (.getfield 12, 3) := by decide +kernel
theorem dX5_bend_36 : decode cX5_bend 36 = .ok (.iload_n 1, 1) := by decide +kernel
theorem dX5_bend_37 : decode cX5_bend 37 = .ok (.iload_n 2, 1) := by decide +kernel
theorem dX5_bend_38 : decode cX5_bend 38 = .ok (.invokevirtual 107, 3) := by decide +kernel
theorem dX5_bend_41 : decode cX5_bend 41 = .ok (.iload_n 3, 1) := by decide +kernel
theorem dX5_bend_42 : decode cX5_bend 42 = .ok (.ireturn, 1) := by decide +kernel
set_option maxRecDepth 20000 in
theorem ggX5_rekey_X5_hasWell : GoodIn wsX5_rekey wsX5_hasWell := goodIn_r _ [8, 1, 9, 13, 14, 15, 16, 17, 18, 19, 20, 21, 22, 23, 24, 25, 26] (by decide +kernel) (by decide +kernel)
set_option maxRecDepth 20000 in
theorem gX5_rekey_X5_hasWell : GoodIn wsX5_rekey (wsV RX5 111 RX5 yX5_hasWell wsX5_hasWell) := goodIn_app (goodIn_of _ (by decide +kernel)) ggX5_rekey_X5_hasWell
set_option maxRecDepth 20000 in
theorem ggX5_rekey_X5_keyNumber : GoodIn wsX5_rekey wsX5_keyNumber := goodIn_r _ [12] (by decide +kernel) (by decide +kernel)
set_option maxRecDepth 20000 in
theorem gX5_rekey_X5_keyNumber : GoodIn wsX5_rekey (va_wsS RX5 121 yX5_keyNumber wsX5_keyNumber) := goodIn_app (goodIn_of _ (by decide +kernel)) ggX5_rekey_X5_keyNumber
theorem dX5_rekey_0 : decode cX5_rekey 0 = .ok (.aload_n 0, 1) := by decide +kernel
theorem dX5_rekey_1 : decode cX5_rekey 1 = .ok (.invokevirtual 111, 3) := by decide +kernel
theorem dX5_rekey_4 : decode cX5_rekey 4 = .ok (.ifCond .ne 6, 3) := by decide +kernel
theorem dX5_rekey_7 : decode cX5_rekey 7 = .ok (.bipush (-3), 2) := by decide +kernel
theorem dX5_rekey_9 : decode cX5_rekey 9 = .ok (.ireturn, 1) := by decide +kernel
theorem dX5_rekey_10 : decode cX5_rekey 10 = .ok (.iload_n 1, 1) := by decide +kernel
theorem dX5_rekey_11 : decode cX5_rekey 11 = .ok (.iconst 1, 1) := by decide +kernel
theorem dX5_rekey_12 : decode cX5_rekey 12 = .ok (.if_icmp .lt 17, 3) := by decide +kernel
theorem dX5_rekey_15 : decode cX5_rekey 15 = .ok (.iload_n 1, 1) := by decide +kernel
theorem dX5_rekey_16 : decode cX5_rekey 16 = .ok (.iconst 5, 1) := by decide +kernel
theorem dX5_rekey_17 : decode cX5_rekey 17 = .ok (.if_icmp .gt 12, 3) := by decide +kernel
theorem dX5_rekey_20 : decode cX5_rekey 20 = .ok (.iload_n 2, 1) := by decide +kernel
theorem dX5_rekey_21 : decode cX5_rekey 21 = .ok (.ifCond .lt 8, 3) := by decide +kernel
theorem dX5_rekey_24 : decode cX5_rekey 24 = .ok (.iload_n 2, 1) := by decide +kernel
theorem dX5_rekey_25 : decode cX5_rekey 25 = .ok (.iconst 5, 1) := by decide +kernel
theorem dX5_rekey_26 : decode cX5_rekey 26 = .ok (.if_icmp .le 6, 3) := by decide +kernel
theorem dX5_rekey_29 : decode cX5_rekey 29 = .ok (.bipush (-2), 2) := by decide +kernel
theorem dX5_rekey_31 : decode cX5_rekey 31 = .ok (.ireturn, 1) := by decide +kernel
theorem dX5_rekey_32 : decode cX5_rekey 32 = .ok (.aload_n 0, 1) := by decide +kernel
theorem dX5_rekey_33 : decode cX5_rekey 33 = .ok (.getfield 12, 3) := by decide +kernel
theorem dX5_rekey_36 : decode cX5_rekey 36 = .ok (.getfield 115, 3) := by decide +kernel
theorem dX5_rekey_39 : decode cX5_rekey 39 = .ok (.aload_n 0, 1) := by decide +kernel
theorem dX5_rekey_40 : decode cX5_rekey 40 = .ok (.getfield 12, 3) := by decide +kernel
theorem dX5_rekey_43 : decode cX5_rekey 43 = .ok (.getfield 118, 3) := by decide +kernel
theorem dX5_rekey_46 : decode cX5_rekey 46 = .ok (.invokestatic 121, 3) := by decide +kernel
theorem dX5_rekey_49 : decode cX5_rekey 49 = .ok (.istore_n 3, 1) := by decide +kernel
theorem dX5_rekey_50 : decode cX5_rekey 50 = .ok (.aload_n 0, 1) := by decide +kernel
theorem dX5_rekey_51 : decode cX5_rekey 51 = .ok (.getfield 12, 3) := by decide +kernel
theorem dX5_rekey_54 : decode cX5_rekey 54 = .ok (.iload_n 1, 1) := by decide +kernel
theorem dX5_rekey_55 : decode cX5_rekey 55 = .ok (.putfield 115, 3) := by decide +kernel
theorem dX5_rekey_58 : decode cX5_rekey 58 = .ok (.aload_n 0, 1) := by decide +kernel
theorem dX5_rekey_59 : decode cX5_rekey 59 = .ok (.getfield 12, 3) := by decide +kernel
theorem dX5_rekey_62 : decode cX5_rekey 62 = .ok (.iload_n 2, 1) := by decide +kernel
theorem dX5_rekey_63 : decode cX5_rekey 63 = .ok (.putfield 118, 3) := by decide +kernel
theorem dX5_rekey_66 : decode cX5_rekey 66 = .ok (.iload_n 3, 1) := by decide +kernel
theorem dX5_rekey_67 : decode cX5_rekey 67 = .ok (.ireturn, 1) := by decide +kernel
set_option maxRecDepth 20000 in
theorem ggX5_wished_X5_hasWell : GoodIn wsX5_wished wsX5_hasWell := goodIn_r _ [7, 1, 2, 30, 31, 32, 33, 34, 35, 36, 37, 38, 39, 40, 41, 42, 43] (by decide +kernel) (by decide +kernel)
set_option maxRecDepth 20000 in
theorem gX5_wished_X5_hasWell : GoodIn wsX5_wished (wsV RX5 111 RX5 yX5_hasWell wsX5_hasWell) := goodIn_app (goodIn_of _ (by decide +kernel)) ggX5_wished_X5_hasWell
set_option maxRecDepth 20000 in
theorem ggX5_wished_X5_isWish : GoodIn wsX5_wished wsX5_isWish := goodIn_r _ [10] (by decide +kernel) (by decide +kernel)
set_option maxRecDepth 20000 in
theorem gX5_wished_X5_isWish : GoodIn wsX5_wished (va_wsS RX5 124 yX5_isWish wsX5_isWish) := goodIn_app (goodIn_of _ (by decide +kernel)) ggX5_wished_X5_isWish
set_option maxRecDepth 20000 in
theorem ggX5_wished_X4_wishAt : GoodIn wsX5_wished wsX4_wishAt := goodIn_r _ [15, 16, 17, 18, 19, 20, 21, 22, 23, 14, 24, 25, 26, 6, 27, 28, 29, 37, 38, 39, 40, 41, 42, 43] (by decide +kernel) (by decide +kernel)
set_option maxRecDepth 20000 in
theorem gX5_wished_X4_wishAt : GoodIn wsX5_wished (wsV RX5 98 RX4 yX4_wishAt wsX4_wishAt) := goodIn_app (goodIn_of _ (by decide +kernel)) ggX5_wished_X4_wishAt
theorem dX5_wished_0 : decode cX5_wished 0 = .ok (.aload_n 0, 1) := by decide +kernel
theorem dX5_wished_1 : decode cX5_wished 1 = .ok (.invokevirtual 111, 3) := by decide +kernel
theorem dX5_wished_4 : decode cX5_wished 4 = .ok (.ifCond .ne 6, 3) := by decide +kernel
theorem dX5_wished_7 : decode cX5_wished 7 = .ok (.bipush (-3), 2) := by decide +kernel
theorem dX5_wished_9 : decode cX5_wished 9 = .ok (.ireturn, 1) := by decide +kernel
theorem dX5_wished_10 : decode cX5_wished 10 = .ok (.iload_n 1, 1) := by decide +kernel
theorem dX5_wished_11 : decode cX5_wished 11 = .ok (.invokestatic 124, 3) := by decide +kernel
theorem dX5_wished_14 : decode cX5_wished 14 = .ok (.ifCond .ne 6, 3) := by decide +kernel
theorem dX5_wished_17 : decode cX5_wished 17 = .ok (.bipush (-2), 2) := by decide +kernel
theorem dX5_wished_19 : decode cX5_wished 19 = .ok (.ireturn, 1) := by decide +kernel
theorem dX5_wished_20 : decode cX5_wished 20 = .ok (.iconst 0, 1) := by decide +kernel
theorem dX5_wished_21 : decode cX5_wished 21 = .ok (.istore_n 2, 1) := by decide +kernel
theorem dX5_wished_22 : decode cX5_wished 22 = .ok (.iconst 0, 1) := by decide +kernel
theorem dX5_wished_23 : decode cX5_wished 23 = .ok (.istore_n 3, 1) := by decide +kernel
theorem dX5_wished_24 : decode cX5_wished 24 = .ok (.iload_n 3, 1) := by decide +kernel
theorem dX5_wished_25 : decode cX5_wished 25 = .ok (.aload_n 0, 1) := by decide +kernel
theorem dX5_wished_26 : decode cX5_wished 26 = .ok (.getfield 12, 3) := by decide +kernel
theorem dX5_wished_29 : decode cX5_wished 29 = .ok (.getfield 79, 3) := by decide +kernel
theorem dX5_wished_32 : decode cX5_wished 32 = .ok (.if_icmp .ge 27, 3) := by decide +kernel
theorem dX5_wished_35 : decode cX5_wished 35 = .ok (.aload_n 0, 1) := by decide +kernel
theorem dX5_wished_36 : decode cX5_wished 36 = .ok (.getfield 12, 3) := by decide +kernel
theorem dX5_wished_39 : decode cX5_wished 39 = .ok (.iload_n 3, 1) := by decide +kernel
theorem dX5_wished_40 : decode cX5_wished 40 = .ok (.invokevirtual 98, 3) := by decide +kernel
theorem dX5_wished_43 : decode cX5_wished 43 = .ok (.iload_n 1, 1) := by decide +kernel
theorem dX5_wished_44 : decode cX5_wished 44 = .ok (.if_icmp .ne 9, 3) := by decide +kernel
theorem dX5_wished_47 : decode cX5_wished 47 = .ok (.iload_n 2, 1) := by decide +kernel
theorem dX5_wished_48 : decode cX5_wished 48 = .ok (.iconst 1, 1) := by decide +kernel
theorem dX5_wished_49 : decode cX5_wished 49 = .ok (.iload_n 3, 1) := by decide +kernel
theorem dX5_wished_50 : decode cX5_wished 50 = .ok (.ishl, 1) := by decide +kernel
theorem dX5_wished_51 : decode cX5_wished 51 = .ok (.ior, 1) := by decide +kernel
theorem dX5_wished_52 : decode cX5_wished 52 = .ok (.istore_n 2, 1) := by decide +kernel
theorem dX5_wished_53 : decode cX5_wished 53 = .ok (.iinc 3 1, 3) := by decide +kernel
theorem dX5_wished_56 : decode cX5_wished 56 = .ok (.goto (-32), 3) := by decide +kernel
theorem dX5_wished_59 : decode cX5_wished 59 = .ok (.iload_n 2, 1) := by decide +kernel
theorem dX5_wished_60 : decode cX5_wished 60 = .ok (.ireturn, 1) := by decide +kernel
set_option maxRecDepth 20000 in
theorem ggX5_throwIn_X5_isKind : GoodIn wsX5_throwIn wsX5_isKind := goodIn_r _ [6] (by decide +kernel) (by decide +kernel)
set_option maxRecDepth 20000 in
theorem gX5_throwIn_X5_isKind : GoodIn wsX5_throwIn (va_wsS RX5 127 yX5_isKind wsX5_isKind) := goodIn_app (goodIn_of _ (by decide +kernel)) ggX5_throwIn_X5_isKind
set_option maxRecDepth 20000 in
theorem ggX5_throwIn_X5_isBend : GoodIn wsX5_throwIn wsX5_isBend := goodIn_r _ [9] (by decide +kernel) (by decide +kernel)
set_option maxRecDepth 20000 in
theorem gX5_throwIn_X5_isBend : GoodIn wsX5_throwIn (va_wsS RX5 104 yX5_isBend wsX5_isBend) := goodIn_app (goodIn_of _ (by decide +kernel)) ggX5_throwIn_X5_isBend
set_option maxRecDepth 20000 in
theorem ggX5_throwIn_X5_hasWell : GoodIn wsX5_throwIn wsX5_hasWell := goodIn_r _ [13, 1, 2, 38, 39, 40, 41, 42, 43, 44, 45, 46, 47, 48, 49, 50, 51] (by decide +kernel) (by decide +kernel)
set_option maxRecDepth 20000 in
theorem gX5_throwIn_X5_hasWell : GoodIn wsX5_throwIn (wsV RX5 111 RX5 yX5_hasWell wsX5_hasWell) := goodIn_app (goodIn_of _ (by decide +kernel)) ggX5_throwIn_X5_hasWell
set_option maxRecDepth 20000 in
theorem ggX5_throwIn_X4_addTop : GoodIn wsX5_throwIn wsX4_addTop := goodIn_r _ [18, 19, 20, 21, 22, 23, 45, 46, 47, 48, 49, 50, 51] (by decide +kernel) (by decide +kernel)
set_option maxRecDepth 20000 in
theorem gX5_throwIn_X4_addTop : GoodIn wsX5_throwIn (wsV RX5 130 RX4 yX4_addTop wsX4_addTop) := goodIn_app (goodIn_of _ (by decide +kernel)) ggX5_throwIn_X4_addTop
set_option maxRecDepth 20000 in
theorem ggX5_throwIn_X4_wishAt : GoodIn wsX5_throwIn wsX4_wishAt := goodIn_r _ [27, 28, 20, 21, 29, 22, 30, 31, 32, 17, 33, 19, 34, 5, 35, 36, 37, 45, 46, 47, 48, 49, 50, 51] (by decide +kernel) (by decide +kernel)
set_option maxRecDepth 20000 in
theorem gX5_throwIn_X4_wishAt : GoodIn wsX5_throwIn (wsV RX5 98 RX4 yX4_wishAt wsX4_wishAt) := goodIn_app (goodIn_of _ (by decide +kernel)) ggX5_throwIn_X4_wishAt
theorem dX5_throwIn_0 : decode cX5_throwIn 0 = .ok (.iload_n 1, 1) := by decide +kernel
theorem dX5_throwIn_1 : decode cX5_throwIn 1 = .ok (.invokestatic 127, 3) := by decide +kernel
theorem dX5_throwIn_4 : decode cX5_throwIn 4 = .ok (.ifCond .eq 10, 3) := by decide +kernel
theorem dX5_throwIn_7 : decode cX5_throwIn 7 = .ok (.iload_n 2, 1) := by decide +kernel
theorem dX5_throwIn_8 : decode cX5_throwIn 8 = .ok (.invokestatic 104, 3) := by decide +kernel
theorem dX5_throwIn_11 : decode cX5_throwIn 11 = .ok (.ifCond .ne 6, 3) := by decide +kernel
theorem dX5_throwIn_14 : decode cX5_throwIn 14 = .ok (.bipush (-2), 2) := by decide +kernel
theorem dX5_throwIn_16 : decode cX5_throwIn 16 = .ok (.ireturn, 1) := by decide +kernel
theorem dX5_throwIn_17 : decode cX5_throwIn 17 = .ok (.aload_n 0, 1) := by decide +kernel
theorem dX5_throwIn_18 : decode cX5_throwIn 18 = .ok (.invokevirtual 111, 3) := by decide +kernel
theorem dX5_throwIn_21 : decode cX5_throwIn 21 = .ok (.ifCond .ne 6, 3) := by decide +kernel
theorem dX5_throwIn_24 : decode cX5_throwIn 24 = .ok (.bipush (-3), 2) := by decide +kernel
theorem dX5_throwIn_26 : decode cX5_throwIn 26 = .ok (.ireturn, 1) := by decide +kernel
theorem dX5_throwIn_27 : decode cX5_throwIn 27 = .ok (.aload_n 0, 1) := by decide +kernel
theorem dX5_throwIn_28 : decode cX5_throwIn 28 = .ok (.getfield 12, 3) := by decide +kernel
theorem dX5_throwIn_31 : decode cX5_throwIn 31 = .ok (.iload_n 1, 1) := by decide +kernel
theorem dX5_throwIn_32 : decode cX5_throwIn 32 = .ok (.iload_n 2, 1) := by decide +kernel
theorem dX5_throwIn_33 : decode cX5_throwIn 33 = .ok (.invokevirtual 130, 3) := by decide +kernel
theorem dX5_throwIn_36 : decode cX5_throwIn 36 = .ok (.ifCond .ne 6, 3) := by decide +kernel
theorem dX5_throwIn_39 : decode cX5_throwIn 39 = .ok (.bipush (-4), 2) := by decide +kernel
theorem dX5_throwIn_41 : decode cX5_throwIn 41 = .ok (.ireturn, 1) := by decide +kernel
theorem dX5_throwIn_42 : decode cX5_throwIn 42 = .ok (.aload_n 0, 1) := by decide +kernel
theorem dX5_throwIn_43 : decode cX5_throwIn 43 = .ok (.getfield 12, 3) := by decide +kernel
theorem dX5_throwIn_46 : decode cX5_throwIn 46 = .ok (.aload_n 0, 1) := by decide +kernel
theorem dX5_throwIn_47 : decode cX5_throwIn 47 = .ok (.getfield 12, 3) := by decide +kernel
theorem dX5_throwIn_50 : decode cX5_throwIn 50 = .ok (.getfield 79, 3) := by decide +kernel
theorem dX5_throwIn_53 : decode cX5_throwIn 53 = .ok (.iconst 1, 1) := by decide +kernel
theorem dX5_throwIn_54 : decode cX5_throwIn 54 = .ok (.isub, 1) := by decide +kernel
theorem dX5_throwIn_55 : decode cX5_throwIn 55 = .ok (.invokevirtual 98, 3) := by decide +kernel
theorem dX5_throwIn_58 : decode cX5_throwIn 58 = .ok (.ireturn, 1) := by decide +kernel
set_option maxRecDepth 20000 in
theorem ggX5_fish_X4_wishAt : GoodIn wsX5_fish wsX4_wishAt := goodIn_r _ [8, 9, 10, 11, 12, 13, 14, 15, 16, 7, 17, 18, 19, 20, 21, 22, 23, 41, 42, 43, 44, 45, 46, 47] (by decide +kernel) (by decide +kernel)
set_option maxRecDepth 20000 in
theorem gX5_fish_X4_wishAt : GoodIn wsX5_fish (wsV RX5 98 RX4 yX4_wishAt wsX4_wishAt) := goodIn_app (goodIn_of _ (by decide +kernel)) ggX5_fish_X4_wishAt
set_option maxRecDepth 20000 in
theorem ggX5_fish_X4_dropTop : GoodIn wsX5_fish wsX4_dropTop := goodIn_r _ [27, 18, 41, 42, 43, 44, 45, 46, 47] (by decide +kernel) (by decide +kernel)
set_option maxRecDepth 20000 in
theorem gX5_fish_X4_dropTop : GoodIn wsX5_fish (wsV RX5 133 RX4 yX4_dropTop wsX4_dropTop) := goodIn_app (goodIn_of _ (by decide +kernel)) ggX5_fish_X4_dropTop
set_option maxRecDepth 20000 in
theorem ggX5_fish_X2_clear : GoodIn wsX5_fish wsX2_clear := goodIn_r _ [32, 33, 48, 49, 50] (by decide +kernel) (by decide +kernel)
set_option maxRecDepth 20000 in
theorem gX5_fish_X2_clear : GoodIn wsX5_fish (wsV RX5 76 RX2 yX2_clear wsX2_clear) := goodIn_app (goodIn_of _ (by decide +kernel)) ggX5_fish_X2_clear
theorem dX5_fish_0 : decode cX5_fish 0 = .ok (.aload_n 0, 1) := by decide +kernel
theorem dX5_fish_1 : decode cX5_fish 1 = .ok (.getfield 12, 3) := by decide +kernel
theorem dX5_fish_4 : decode cX5_fish 4 = .ok (.aload_n 0, 1) := by decide +kernel
theorem dX5_fish_5 : decode cX5_fish 5 = .ok (.getfield 12, 3) := by decide +kernel
theorem dX5_fish_8 : decode cX5_fish 8 = .ok (.getfield 79, 3) := by decide +kernel
theorem dX5_fish_11 : decode cX5_fish 11 = .ok (.iconst 1, 1) := by decide +kernel
theorem dX5_fish_12 : decode cX5_fish 12 = .ok (.isub, 1) := by decide +kernel
theorem dX5_fish_13 : decode cX5_fish 13 = .ok (.invokevirtual 98, 3) := by decide +kernel
theorem dX5_fish_16 : decode cX5_fish 16 = .ok (.istore_n 1, 1) := by decide +kernel
theorem dX5_fish_17 : decode cX5_fish 17 = .ok (.aload_n 0, 1) := by decide +kernel
theorem dX5_fish_18 : decode cX5_fish 18 = .ok (.getfield 12, 3) := by decide +kernel
theorem dX5_fish_21 : decode cX5_fish 21 = .ok (.invokevirtual 133, 3) := by decide +kernel
theorem dX5_fish_24 : decode cX5_fish 24 = .ok (.ifCond .ne 6, 3) := by decide +kernel
theorem dX5_fish_27 : decode cX5_fish 27 = .ok (.bipush (-3), 2) := by decide +kernel
theorem dX5_fish_29 : decode cX5_fish 29 = .ok (.ireturn, 1) := by decide +kernel
theorem dX5_fish_30 : decode cX5_fish 30 = .ok (.aload_n 0, 1) := by decide +kernel
theorem dX5_fish_31 : decode cX5_fish 31 = .ok (.getfield 21, 3) := by decide +kernel
theorem dX5_fish_34 : decode cX5_fish 34 = .ok (.invokevirtual 76, 3) := by decide +kernel
theorem dX5_fish_37 : decode cX5_fish 37 = .ok (.iload_n 1, 1) := by decide +kernel
theorem dX5_fish_38 : decode cX5_fish 38 = .ok (.ireturn, 1) := by decide +kernel
set_option maxRecDepth 20000 in
theorem ggX5_years_X5_hasWell : GoodIn wsX5_years wsX5_hasWell := goodIn_r _ [7, 1, 8, 9, 10, 11, 12, 13, 14, 15, 16, 17, 18, 19, 20, 21, 22] (by decide +kernel) (by decide +kernel)
set_option maxRecDepth 20000 in
theorem gX5_years_X5_hasWell : GoodIn wsX5_years (wsV RX5 111 RX5 yX5_hasWell wsX5_hasWell) := goodIn_app (goodIn_of _ (by decide +kernel)) ggX5_years_X5_hasWell
theorem dX5_years_0 : decode cX5_years 0 = .ok (.iload_n 1, 1) := by decide +kernel
theorem dX5_years_1 : decode cX5_years 1 = .ok (.iconst 1, 1) := by decide +kernel
theorem dX5_years_2 : decode cX5_years 2 = .ok (.if_icmp .lt 9, 3) := by decide +kernel
theorem dX5_years_5 : decode cX5_years 5 = .ok (.iload_n 1, 1) := by decide +kernel
theorem dX5_years_6 : decode cX5_years 6 = .ok (.bipush 99, 2) := by decide +kernel
theorem dX5_years_8 : decode cX5_years 8 = .ok (.if_icmp .le 6, 3) := by decide +kernel
theorem dX5_years_11 : decode cX5_years 11 = .ok (.bipush (-2), 2) := by decide +kernel
theorem dX5_years_13 : decode cX5_years 13 = .ok (.ireturn, 1) := by decide +kernel
theorem dX5_years_14 : decode cX5_years 14 = .ok (.aload_n 0, 1) := by decide +kernel
theorem dX5_years_15 : decode cX5_years 15 = .ok (.invokevirtual 111, 3) := by decide +kernel
theorem dX5_years_18 : decode cX5_years 18 = .ok (.ifCond .ne 6, 3) := by decide +kernel
theorem dX5_years_21 : decode cX5_years 21 = .ok (.bipush (-3), 2) := by decide +kernel
theorem dX5_years_23 : decode cX5_years 23 = .ok (.ireturn, 1) := by decide +kernel
theorem dX5_years_24 : decode cX5_years 24 = .ok (.aload_n 0, 1) := by decide +kernel
theorem dX5_years_25 : decode cX5_years 25 = .ok (.getfield 12, 3) := by decide +kernel
theorem dX5_years_28 : decode cX5_years 28 = .ok (.dup, 1) := by decide +kernel
theorem dX5_years_29 : decode cX5_years 29 = .ok (.getfield 101, 3) := by decide +kernel
theorem dX5_years_32 : decode cX5_years 32 = .ok (.iload_n 1, 1) := by decide +kernel
theorem dX5_years_33 : decode cX5_years 33 = .ok (.iadd, 1) := by decide +kernel
theorem dX5_years_34 : decode cX5_years 34 = .ok (.putfield 101, 3) := by decide +kernel
theorem dX5_years_37 : decode cX5_years 37 = .ok (.aload_n 0, 1) := by decide +kernel
theorem dX5_years_38 : decode cX5_years 38 = .ok (.getfield 12, 3) := by decide +kernel
theorem dX5_years_41 : decode cX5_years 41 = .ok (.getfield 101, 3) := by decide +kernel
theorem dX5_years_44 : decode cX5_years 44 = .ok (.ireturn, 1) := by decide +kernel
set_option maxRecDepth 20000 in
theorem ggX5_century_X5_isSheet : GoodIn wsX5_century wsX5_isSheet := goodIn_r _ [8] (by decide +kernel) (by decide +kernel)
set_option maxRecDepth 20000 in
theorem gX5_century_X5_isSheet : GoodIn wsX5_century (va_wsS RX5 50 yX5_isSheet wsX5_isSheet) := goodIn_app (goodIn_of _ (by decide +kernel)) ggX5_century_X5_isSheet
set_option maxRecDepth 20000 in
theorem ggX5_century_X5_isLane : GoodIn wsX5_century wsX5_isLane := goodIn_r _ [11] (by decide +kernel) (by decide +kernel)
set_option maxRecDepth 20000 in
theorem gX5_century_X5_isLane : GoodIn wsX5_century (va_wsS RX5 54 yX5_isLane wsX5_isLane) := goodIn_app (goodIn_of _ (by decide +kernel)) ggX5_century_X5_isLane
set_option maxRecDepth 20000 in
theorem ggX5_century_X5_isToldOfCentury : GoodIn wsX5_century wsX5_isToldOfCentury := goodIn_r _ [14] (by decide +kernel) (by decide +kernel)
set_option maxRecDepth 20000 in
theorem gX5_century_X5_isToldOfCentury : GoodIn wsX5_century (va_wsS RX5 136 yX5_isToldOfCentury wsX5_isToldOfCentury) := goodIn_app (goodIn_of _ (by decide +kernel)) ggX5_century_X5_isToldOfCentury
set_option maxRecDepth 20000 in
theorem ggX5_century_X5_hasWell : GoodIn wsX5_century wsX5_hasWell := goodIn_r _ [18, 4, 19, 116, 117, 118, 119, 120, 121, 122, 123, 124, 125, 126, 127, 128, 129] (by decide +kernel) (by decide +kernel)
set_option maxRecDepth 20000 in
theorem gX5_century_X5_hasWell : GoodIn wsX5_century (wsV RX5 111 RX5 yX5_hasWell wsX5_hasWell) := goodIn_app (goodIn_of _ (by decide +kernel)) ggX5_century_X5_hasWell
set_option maxRecDepth 20000 in
theorem ggX5_century_X3_faultOfCells : GoodIn wsX5_century wsX3_faultOfCells := goodIn_r _ [24, 25, 26, 27, 23, 28, 29, 30, 31, 32, 33, 34, 35, 36, 37, 38, 130, 131, 132] (by decide +kernel) (by decide +kernel)
set_option maxRecDepth 20000 in
theorem gX5_century_X3_faultOfCells : GoodIn wsX5_century (wsV RX5 139 RX3 yX3_faultOfCells wsX3_faultOfCells) := goodIn_app (goodIn_of _ (by decide +kernel)) ggX5_century_X3_faultOfCells
set_option maxRecDepth 20000 in
theorem ggX5_century_X5_failed : GoodIn wsX5_century wsX5_failed := goodIn_r _ [42, 1, 116, 117, 118, 119, 120, 121, 122] (by decide +kernel) (by decide +kernel)
set_option maxRecDepth 20000 in
theorem gX5_century_X5_failed : GoodIn wsX5_century (wsV RX5 65 RX5 yX5_failed wsX5_failed) := goodIn_app (goodIn_of _ (by decide +kernel)) ggX5_century_X5_failed
set_option maxRecDepth 20000 in
theorem ggX5_century_X3_at : GoodIn wsX5_century wsX3_at := goodIn_r _ [46, 47, 34, 35, 36, 23, 37, 38, 130, 131, 132] (by decide +kernel) (by decide +kernel)
set_option maxRecDepth 20000 in
theorem gX5_century_X3_at : GoodIn wsX5_century (wsV RX5 143 RX3 yX3_at wsX3_at) := goodIn_app (goodIn_of _ (by decide +kernel)) ggX5_century_X3_at
set_option maxRecDepth 20000 in
theorem ggX5_century_X5_isAct : GoodIn wsX5_century wsX5_isAct := goodIn_r _ [50, 51, 52, 7, 53, 54, 55, 56] (by decide +kernel) (by decide +kernel)
set_option maxRecDepth 20000 in
theorem gX5_century_X5_isAct : GoodIn wsX5_century (va_wsS RX5 146 yX5_isAct wsX5_isAct) := goodIn_app (goodIn_of _ (by decide +kernel)) ggX5_century_X5_isAct
set_option maxRecDepth 20000 in
theorem ggX5_century_X0_play : GoodIn wsX5_century wsX0_play := goodIn_r _ [61, 62, 63, 64, 65, 66, 67, 68, 69, 70, 71, 72, 73, 74, 75, 76, 77, 78, 79, 80, 81, 44, 45, 23, 46, 47, 34, 35, 36, 37, 38, 82, 83, 84, 60, 85, 86, 87, 88, 89, 90, 91, 92, 93, 94, 95, 96, 97, 98, 99, 100, 7, 101, 102, 103, 104, 105, 106, 107, 133, 134, 135, 123, 124, 125, 126, 127, 128, 129, 130, 131, 132] (by decide +kernel) (by decide +kernel)
set_option maxRecDepth 20000 in
theorem gX5_century_X0_play : GoodIn wsX5_century (wsV RX5 149 RX0 yX0_play wsX0_play) := goodIn_app (goodIn_of _ (by decide +kernel)) ggX5_century_X0_play
set_option maxRecDepth 20000 in
theorem ggX5_century_X0_told : GoodIn wsX5_century wsX0_told := goodIn_r _ [111, 63, 62, 87, 64, 86, 112, 113, 114, 60, 115, 92, 93, 94, 68, 95, 78, 70, 75, 79, 76, 96, 97, 98, 99, 77, 100, 7, 101, 102, 103, 133, 134, 135, 123, 124, 125, 126, 127, 128, 129] (by decide +kernel) (by decide +kernel)
set_option maxRecDepth 20000 in
theorem gX5_century_X0_told : GoodIn wsX5_century (wsV RX5 153 RX0 yX0_told wsX0_told) := goodIn_app (goodIn_of _ (by decide +kernel)) ggX5_century_X0_told
theorem dX5_century_0 : decode cX5_century 0 = .ok (.aload_n 0, 1) := by decide +kernel
theorem dX5_century_1 : decode cX5_century 1 = .ok (.iconst 0, 1) := by decide +kernel
theorem dX5_century_2 : decode cX5_century 2 = .ok (.putfield 46, 3) := by decide +kernel
theorem dX5_century_5 : decode cX5_century 5 = .ok (.iload_n 1, 1) := by decide +kernel
theorem dX5_century_6 : decode cX5_century 6 = .ok (.invokestatic 50, 3) := by decide +kernel
theorem dX5_century_9 : decode cX5_century 9 = .ok (.ifCond .ne 5, 3) := by decide +kernel
theorem dX5_century_12 : decode cX5_century 12 = .ok (.iconst (-1), 1) := by decide +kernel
theorem dX5_century_13 : decode cX5_century 13 = .ok (.ireturn, 1) := by decide +kernel
theorem dX5_century_14 : decode cX5_century 14 = .ok (.iload_n 2, 1) := by decide +kernel
theorem dX5_century_15 : decode cX5_century 15 = .ok (.invokestatic 54, 3) := by decide +kernel
theorem dX5_century_18 : decode cX5_century 18 = .ok (.ifCond .eq 23, 3) := by decide +kernel
theorem dX5_century_21 : decode cX5_century 21 = .ok (.iload 4, 2) := by decide +kernel
theorem dX5_century_23 : decode cX5_century 23 = .ok (.ifCond .lt 18, 3) := by decide +kernel
theorem dX5_century_26 : decode cX5_century 26 = .ok (.iload 4, 2) := by decide +kernel
theorem dX5_century_28 : decode cX5_century 28 = .ok (.bipush 20, 2) := by decide +kernel
theorem dX5_century_30 : decode cX5_century 30 = .ok (.if_icmp .gt 11, 3) := by decide +kernel
theorem dX5_century_33 : decode cX5_century 33 = .ok (.iload 5, 2) := by decide +kernel
theorem dX5_century_35 : decode cX5_century 35 = .ok (.invokestatic 136, 3) := by decide +kernel
theorem dX5_century_38 : decode cX5_century 38 = .ok (.ifCond .ne 6, 3) := by decide +kernel
theorem dX5_century_41 : decode cX5_century 41 = .ok (.bipush (-2), 2) := by decide +kernel
theorem dX5_century_43 : decode cX5_century 43 = .ok (.ireturn, 1) := by decide +kernel
theorem dX5_century_44 : decode cX5_century 44 = .ok (.aload_n 0, 1) := by decide +kernel
theorem dX5_century_45 : decode cX5_century 45 = .ok (.invokevirtual 111, 3) := by decide +kernel
theorem dX5_century_48 : decode cX5_century 48 = .ok (.ifCond .ne 6, 3) := by decide +kernel
theorem dX5_century_51 : decode cX5_century 51 = .ok (.bipush (-3), 2) := by decide +kernel
theorem dX5_century_53 : decode cX5_century 53 = .ok (.ireturn, 1) := by decide +kernel
theorem dX5_century_54 : decode cX5_century 54 = .ok (.aload_n 0, 1) := by decide +kernel
theorem dX5_century_55 : decode cX5_century 55 = .ok (.getfield 41, 3) := by decide +kernel
theorem dX5_century_58 : decode cX5_century 58 = .ok (.iload_n 1, 1) := by decide +kernel
theorem dX5_century_59 : decode cX5_century 59 = .ok (.aaload, 1) := by decide +kernel
theorem dX5_century_60 : decode cX5_century 60 = .ok (.astore 6, 2) := by decide +kernel
theorem dX5_century_62 : decode cX5_century 62 = .ok (.aload 6, 2) := by decide +kernel
theorem dX5_century_64 : decode cX5_century 64 = .ok (.iload_n 2, 1) := by decide +kernel
theorem dX5_century_65 : decode cX5_century 65 = .ok (.iload_n 3, 1) := by decide +kernel
theorem dX5_century_66 : decode cX5_century 66 = .ok (.iconst 2, 1) := by decide +kernel
theorem dX5_century_67 : decode cX5_century 67 = .ok (.iload 4, 2) := by decide +kernel
theorem dX5_century_69 : decode cX5_century 69 = .ok (.imul, 1) := by decide +kernel
theorem dX5_century_70 : decode cX5_century 70 = .ok (.invokevirtual 139, 3) := by decide +kernel
theorem dX5_century_73 : decode cX5_century 73 = .ok (.istore 7, 2) := by decide +kernel
theorem dX5_century_75 : decode cX5_century 75 = .ok (.iload 7, 2) := by decide +kernel
theorem dX5_century_77 : decode cX5_century 77 = .ok (.ifCond .eq 10, 3) := by decide +kernel
theorem dX5_century_80 : decode cX5_century 80 = .ok (.aload_n 0, 1) := by decide +kernel
theorem dX5_century_81 : decode cX5_century 81 = .ok (.iload 7, 2) := by decide +kernel
theorem dX5_century_83 : decode cX5_century 83 = .ok (.invokevirtual 65, 3) := by decide +kernel
theorem dX5_century_86 : decode cX5_century 86 = .ok (.ireturn, 1) := by decide +kernel
theorem dX5_century_87 : decode cX5_century 87 = .ok (.iconst 0, 1) := by decide +kernel
theorem dX5_century_88 : decode cX5_century 88 = .ok (.istore 8, 2) := by decide +kernel
theorem dX5_century_90 : decode cX5_century 90 = .ok (.iload 8, 2) := by decide +kernel
theorem dX5_century_92 : decode cX5_century 92 = .ok (.iload 4, 2) := by decide +kernel
theorem dX5_century_94 : decode cX5_century 94 = .ok (.if_icmp .ge 42, 3) := by decide +kernel
theorem dX5_century_97 : decode cX5_century 97 = .ok (.aload 6, 2) := by decide +kernel
theorem dX5_century_99 : decode cX5_century 99 = .ok (.iload_n 3, 1) := by decide +kernel
theorem dX5_century_100 : decode cX5_century 100 = .ok (.iconst 2, 1) := by decide +kernel
theorem dX5_century_101 : decode cX5_century 101 = .ok (.iload 8, 2) := by decide +kernel
theorem dX5_century_103 : decode cX5_century 103 = .ok (.imul, 1) := by decide +kernel
theorem dX5_century_104 : decode cX5_century 104 = .ok (.iadd, 1) := by decide +kernel
theorem dX5_century_105 : decode cX5_century 105 = .ok (.invokevirtual 143, 3) := by decide +kernel
theorem dX5_century_108 : decode cX5_century 108 = .ok (.aload 6, 2) := by decide +kernel
theorem dX5_century_110 : decode cX5_century 110 = .ok (.iload_n 3, 1) := by decide +kernel
theorem dX5_century_111 : decode cX5_century 111 = .ok (.iconst 2, 1) := by decide +kernel
theorem dX5_century_112 : decode cX5_century 112 = .ok (.iload 8, 2) := by decide +kernel
theorem dX5_century_114 : decode cX5_century 114 = .ok (.imul, 1) := by decide +kernel
theorem dX5_century_115 : decode cX5_century 115 = .ok (.iadd, 1) := by decide +kernel
theorem dX5_century_116 : decode cX5_century 116 = .ok (.iconst 1, 1) := by decide +kernel
theorem dX5_century_117 : decode cX5_century 117 = .ok (.iadd, 1) := by decide +kernel
theorem dX5_century_118 : decode cX5_century 118 = .ok (.invokevirtual 143, 3) := by decide +kernel
theorem dX5_century_121 : decode cX5_century 121 = .ok (.invokestatic 146, 3) := by decide +kernel
theorem dX5_century_124 : decode cX5_century 124 = .ok (.ifCond .ne 6, 3) := by decide +kernel
theorem dX5_century_127 : decode cX5_century 127 = .ok (.bipush (-2), 2) := by decide +kernel
theorem dX5_century_129 : decode cX5_century 129 = .ok (.ireturn, 1) := by decide +kernel
theorem dX5_century_130 : decode cX5_century 130 = .ok (.iinc 8 1, 3) := by decide +kernel
theorem dX5_century_133 : decode cX5_century 133 = .ok (.goto (-43), 3) := by decide +kernel
theorem dX5_century_136 : decode cX5_century 136 = .ok (.aload_n 0, 1) := by decide +kernel
theorem dX5_century_137 : decode cX5_century 137 = .ok (.getfield 28, 3) := by decide +kernel
theorem dX5_century_140 : decode cX5_century 140 = .ok (.aload_n 0, 1) := by decide +kernel
theorem dX5_century_141 : decode cX5_century 141 = .ok (.getfield 12, 3) := by decide +kernel
theorem dX5_century_144 : decode cX5_century 144 = .ok (.aload 6, 2) := by decide +kernel
theorem dX5_century_146 : decode cX5_century 146 = .ok (.iload_n 3, 1) := by decide +kernel
theorem dX5_century_147 : decode cX5_century 147 = .ok (.iload 4, 2) := by decide +kernel
theorem dX5_century_149 : decode cX5_century 149 = .ok (.invokevirtual 149, 3) := by decide +kernel
theorem dX5_century_152 : decode cX5_century 152 = .ok (.aload_n 0, 1) := by decide +kernel
theorem dX5_century_153 : decode cX5_century 153 = .ok (.getfield 28, 3) := by decide +kernel
theorem dX5_century_156 : decode cX5_century 156 = .ok (.iload 5, 2) := by decide +kernel
theorem dX5_century_158 : decode cX5_century 158 = .ok (.invokevirtual 153, 3) := by decide +kernel
theorem dX5_century_161 : decode cX5_century 161 = .ok (.ireturn, 1) := by decide +kernel
set_option maxRecDepth 20000 in
theorem ggX5_quiet_X5_hasWell : GoodIn wsX5_quiet wsX5_hasWell := goodIn_r _ [8, 1, 2, 20, 21, 22, 23, 24, 25, 26, 27, 28, 29, 30, 31, 32, 33] (by decide +kernel) (by decide +kernel)
set_option maxRecDepth 20000 in
theorem gX5_quiet_X5_hasWell : GoodIn wsX5_quiet (wsV RX5 111 RX5 yX5_hasWell wsX5_hasWell) := goodIn_app (goodIn_of _ (by decide +kernel)) ggX5_quiet_X5_hasWell
set_option maxRecDepth 20000 in
theorem ggX5_quiet_X4_yearAt : GoodIn wsX5_quiet wsX4_yearAt := goodIn_r _ [13, 14, 15, 16, 17, 12, 18, 19, 27, 28, 29, 30, 31, 32, 33] (by decide +kernel) (by decide +kernel)
set_option maxRecDepth 20000 in
theorem gX5_quiet_X4_yearAt : GoodIn wsX5_quiet (wsV RX5 91 RX4 yX4_yearAt wsX4_yearAt) := goodIn_app (goodIn_of _ (by decide +kernel)) ggX5_quiet_X4_yearAt
theorem dX5_quiet_0 : decode cX5_quiet 0 = .ok (.aload_n 0, 1) := by decide +kernel
theorem dX5_quiet_1 : decode cX5_quiet 1 = .ok (.invokevirtual 111, 3) := by decide +kernel
theorem dX5_quiet_4 : decode cX5_quiet 4 = .ok (.ifCond .ne 6, 3) := by decide +kernel
theorem dX5_quiet_7 : decode cX5_quiet 7 = .ok (.bipush (-3), 2) := by decide +kernel
theorem dX5_quiet_9 : decode cX5_quiet 9 = .ok (.ireturn, 1) := by decide +kernel
theorem dX5_quiet_10 : decode cX5_quiet 10 = .ok (.iload_n 1, 1) := by decide +kernel
theorem dX5_quiet_11 : decode cX5_quiet 11 = .ok (.ifCond .eq 11, 3) := by decide +kernel
theorem dX5_quiet_14 : decode cX5_quiet 14 = .ok (.iload_n 1, 1) := by decide +kernel
theorem dX5_quiet_15 : decode cX5_quiet 15 = .ok (.iconst 1, 1) := by decide +kernel
theorem dX5_quiet_16 : decode cX5_quiet 16 = .ok (.if_icmp .eq 6, 3) := by decide +kernel
theorem dX5_quiet_19 : decode cX5_quiet 19 = .ok (.bipush (-2), 2) := by decide +kernel
theorem dX5_quiet_21 : decode cX5_quiet 21 = .ok (.ireturn, 1) := by decide +kernel
theorem dX5_quiet_22 : decode cX5_quiet 22 = .ok (.iconst (-1), 1) := by decide +kernel
theorem dX5_quiet_23 : decode cX5_quiet 23 = .ok (.istore_n 2, 1) := by decide +kernel
theorem dX5_quiet_24 : decode cX5_quiet 24 = .ok (.iconst 0, 1) := by decide +kernel
theorem dX5_quiet_25 : decode cX5_quiet 25 = .ok (.istore_n 3, 1) := by decide +kernel
theorem dX5_quiet_26 : decode cX5_quiet 26 = .ok (.iconst 0, 1) := by decide +kernel
theorem dX5_quiet_27 : decode cX5_quiet 27 = .ok (.istore 4, 2) := by decide +kernel
theorem dX5_quiet_29 : decode cX5_quiet 29 = .ok (.iconst 0, 1) := by decide +kernel
theorem dX5_quiet_30 : decode cX5_quiet 30 = .ok (.istore 5, 2) := by decide +kernel
theorem dX5_quiet_32 : decode cX5_quiet 32 = .ok (.iload 5, 2) := by decide +kernel
theorem dX5_quiet_34 : decode cX5_quiet 34 = .ok (.aload_n 0, 1) := by decide +kernel
theorem dX5_quiet_35 : decode cX5_quiet 35 = .ok (.getfield 12, 3) := by decide +kernel
theorem dX5_quiet_38 : decode cX5_quiet 38 = .ok (.getfield 79, 3) := by decide +kernel
theorem dX5_quiet_41 : decode cX5_quiet 41 = .ok (.if_icmp .gt 64, 3) := by decide +kernel
theorem dX5_quiet_44 : decode cX5_quiet 44 = .ok (.iload 5, 2) := by decide +kernel
theorem dX5_quiet_46 : decode cX5_quiet 46 = .ok (.aload_n 0, 1) := by decide +kernel
theorem dX5_quiet_47 : decode cX5_quiet 47 = .ok (.getfield 12, 3) := by decide +kernel
theorem dX5_quiet_50 : decode cX5_quiet 50 = .ok (.getfield 79, 3) := by decide +kernel
theorem dX5_quiet_53 : decode cX5_quiet 53 = .ok (.if_icmp .ge 15, 3) := by decide +kernel
theorem dX5_quiet_56 : decode cX5_quiet 56 = .ok (.aload_n 0, 1) := by decide +kernel
theorem dX5_quiet_57 : decode cX5_quiet 57 = .ok (.getfield 12, 3) := by decide +kernel
theorem dX5_quiet_60 : decode cX5_quiet 60 = .ok (.iload 5, 2) := by decide +kernel
theorem dX5_quiet_62 : decode cX5_quiet 62 = .ok (.invokevirtual 91, 3) := by decide +kernel
theorem dX5_quiet_65 : decode cX5_quiet 65 = .ok (.goto 10, 3) := by decide +kernel
theorem dX5_quiet_68 : decode cX5_quiet 68 = .ok (.aload_n 0, 1) := by decide +kernel
theorem dX5_quiet_69 : decode cX5_quiet 69 = .ok (.getfield 12, 3) := by decide +kernel
theorem dX5_quiet_72 : decode cX5_quiet 72 = .ok (.getfield 101, 3) := by decide +kernel
theorem dX5_quiet_75 : decode cX5_quiet 75 = .ok (.istore 6, 2) := by decide +kernel
theorem dX5_quiet_77 : decode cX5_quiet 77 = .ok (.iload 6, 2) := by decide +kernel
theorem dX5_quiet_79 : decode cX5_quiet 79 = .ok (.iload 4, 2) := by decide +kernel
theorem dX5_quiet_81 : decode cX5_quiet 81 = .ok (.isub, 1) := by decide +kernel
theorem dX5_quiet_82 : decode cX5_quiet 82 = .ok (.iload_n 2, 1) := by decide +kernel
theorem dX5_quiet_83 : decode cX5_quiet 83 = .ok (.if_icmp .le 12, 3) := by decide +kernel
theorem dX5_quiet_86 : decode cX5_quiet 86 = .ok (.iload 6, 2) := by decide +kernel
theorem dX5_quiet_88 : decode cX5_quiet 88 = .ok (.iload 4, 2) := by decide +kernel
theorem dX5_quiet_90 : decode cX5_quiet 90 = .ok (.isub, 1) := by decide +kernel
theorem dX5_quiet_91 : decode cX5_quiet 91 = .ok (.istore_n 2, 1) := by decide +kernel
theorem dX5_quiet_92 : decode cX5_quiet 92 = .ok (.iload 4, 2) := by decide +kernel
theorem dX5_quiet_94 : decode cX5_quiet 94 = .ok (.istore_n 3, 1) := by decide +kernel
theorem dX5_quiet_95 : decode cX5_quiet 95 = .ok (.iload 6, 2) := by decide +kernel
theorem dX5_quiet_97 : decode cX5_quiet 97 = .ok (.istore 4, 2) := by decide +kernel
theorem dX5_quiet_99 : decode cX5_quiet 99 = .ok (.iinc 5 1, 3) := by decide +kernel
theorem dX5_quiet_102 : decode cX5_quiet 102 = .ok (.goto (-70), 3) := by decide +kernel
theorem dX5_quiet_105 : decode cX5_quiet 105 = .ok (.iload_n 1, 1) := by decide +kernel
theorem dX5_quiet_106 : decode cX5_quiet 106 = .ok (.ifCond .ne 7, 3) := by decide +kernel
theorem dX5_quiet_109 : decode cX5_quiet 109 = .ok (.iload_n 2, 1) := by decide +kernel
theorem dX5_quiet_110 : decode cX5_quiet 110 = .ok (.goto 4, 3) := by decide +kernel
theorem dX5_quiet_113 : decode cX5_quiet 113 = .ok (.iload_n 3, 1) := by decide +kernel
theorem dX5_quiet_114 : decode cX5_quiet 114 = .ok (.ireturn, 1) := by decide +kernel
set_option maxRecDepth 20000 in
theorem ggX5_run_X5_hasWell : GoodIn wsX5_run wsX5_hasWell := goodIn_r _ [7, 1, 2, 27, 28, 29, 30, 31, 32, 33, 34, 35, 36, 37, 38, 39, 40] (by decide +kernel) (by decide +kernel)
set_option maxRecDepth 20000 in
theorem gX5_run_X5_hasWell : GoodIn wsX5_run (wsV RX5 111 RX5 yX5_hasWell wsX5_hasWell) := goodIn_app (goodIn_of _ (by decide +kernel)) ggX5_run_X5_hasWell
set_option maxRecDepth 20000 in
theorem ggX5_run_X4_wishAt : GoodIn wsX5_run wsX4_wishAt := goodIn_r _ [12, 13, 14, 15, 16, 17, 18, 19, 20, 11, 21, 22, 23, 6, 24, 25, 26, 34, 35, 36, 37, 38, 39, 40] (by decide +kernel) (by decide +kernel)
set_option maxRecDepth 20000 in
theorem gX5_run_X4_wishAt : GoodIn wsX5_run (wsV RX5 98 RX4 yX4_wishAt wsX4_wishAt) := goodIn_app (goodIn_of _ (by decide +kernel)) ggX5_run_X4_wishAt
theorem dX5_run_0 : decode cX5_run 0 = .ok (.aload_n 0, 1) := by decide +kernel
theorem dX5_run_1 : decode cX5_run 1 = .ok (.invokevirtual 111, 3) := by decide +kernel
theorem dX5_run_4 : decode cX5_run 4 = .ok (.ifCond .ne 6, 3) := by decide +kernel
theorem dX5_run_7 : decode cX5_run 7 = .ok (.bipush (-3), 2) := by decide +kernel
theorem dX5_run_9 : decode cX5_run 9 = .ok (.ireturn, 1) := by decide +kernel
theorem dX5_run_10 : decode cX5_run 10 = .ok (.iload_n 1, 1) := by decide +kernel
theorem dX5_run_11 : decode cX5_run 11 = .ok (.ifCond .eq 11, 3) := by decide +kernel
theorem dX5_run_14 : decode cX5_run 14 = .ok (.iload_n 1, 1) := by decide +kernel
theorem dX5_run_15 : decode cX5_run 15 = .ok (.iconst 1, 1) := by decide +kernel
theorem dX5_run_16 : decode cX5_run 16 = .ok (.if_icmp .eq 6, 3) := by decide +kernel
theorem dX5_run_19 : decode cX5_run 19 = .ok (.bipush (-2), 2) := by decide +kernel
theorem dX5_run_21 : decode cX5_run 21 = .ok (.ireturn, 1) := by decide +kernel
theorem dX5_run_22 : decode cX5_run 22 = .ok (.iconst 0, 1) := by decide +kernel
theorem dX5_run_23 : decode cX5_run 23 = .ok (.istore_n 2, 1) := by decide +kernel
theorem dX5_run_24 : decode cX5_run 24 = .ok (.iconst 0, 1) := by decide +kernel
theorem dX5_run_25 : decode cX5_run 25 = .ok (.istore_n 3, 1) := by decide +kernel
theorem dX5_run_26 : decode cX5_run 26 = .ok (.iconst 0, 1) := by decide +kernel
theorem dX5_run_27 : decode cX5_run 27 = .ok (.istore 4, 2) := by decide +kernel
theorem dX5_run_29 : decode cX5_run 29 = .ok (.iconst 0, 1) := by decide +kernel
theorem dX5_run_30 : decode cX5_run 30 = .ok (.istore 5, 2) := by decide +kernel
theorem dX5_run_32 : decode cX5_run 32 = .ok (.iload 5, 2) := by decide +kernel
theorem dX5_run_34 : decode cX5_run 34 = .ok (.aload_n 0, 1) := by decide +kernel
theorem dX5_run_35 : decode cX5_run 35 = .ok (.getfield 12, 3) := by decide +kernel
theorem dX5_run_38 : decode cX5_run 38 = .ok (.getfield 79, 3) := by decide +kernel
theorem dX5_run_41 : decode cX5_run 41 = .ok (.if_icmp .ge 56, 3) := by decide +kernel
theorem dX5_run_44 : decode cX5_run 44 = .ok (.aload_n 0, 1) := by decide +kernel
theorem dX5_run_45 : decode cX5_run 45 = .ok (.getfield 12, 3) := by decide +kernel
theorem dX5_run_48 : decode cX5_run 48 = .ok (.iload 5, 2) := by decide +kernel
theorem dX5_run_50 : decode cX5_run 50 = .ok (.invokevirtual 98, 3) := by decide +kernel
theorem dX5_run_53 : decode cX5_run 53 = .ok (.aload_n 0, 1) := by decide +kernel
theorem dX5_run_54 : decode cX5_run 54 = .ok (.getfield 12, 3) := by decide +kernel
theorem dX5_run_57 : decode cX5_run 57 = .ok (.iload 4, 2) := by decide +kernel
theorem dX5_run_59 : decode cX5_run 59 = .ok (.invokevirtual 98, 3) := by decide +kernel
theorem dX5_run_62 : decode cX5_run 62 = .ok (.if_icmp .eq 7, 3) := by decide +kernel
theorem dX5_run_65 : decode cX5_run 65 = .ok (.iload 5, 2) := by decide +kernel
theorem dX5_run_67 : decode cX5_run 67 = .ok (.istore 4, 2) := by decide +kernel
theorem dX5_run_69 : decode cX5_run 69 = .ok (.iload 5, 2) := by decide +kernel
theorem dX5_run_71 : decode cX5_run 71 = .ok (.iload 4, 2) := by decide +kernel
theorem dX5_run_73 : decode cX5_run 73 = .ok (.isub, 1) := by decide +kernel
theorem dX5_run_74 : decode cX5_run 74 = .ok (.iconst 1, 1) := by decide +kernel
theorem dX5_run_75 : decode cX5_run 75 = .ok (.iadd, 1) := by decide +kernel
theorem dX5_run_76 : decode cX5_run 76 = .ok (.iload_n 2, 1) := by decide +kernel
theorem dX5_run_77 : decode cX5_run 77 = .ok (.if_icmp .le 14, 3) := by decide +kernel
theorem dX5_run_80 : decode cX5_run 80 = .ok (.iload 5, 2) := by decide +kernel
theorem dX5_run_82 : decode cX5_run 82 = .ok (.iload 4, 2) := by decide +kernel
theorem dX5_run_84 : decode cX5_run 84 = .ok (.isub, 1) := by decide +kernel
theorem dX5_run_85 : decode cX5_run 85 = .ok (.iconst 1, 1) := by decide +kernel
theorem dX5_run_86 : decode cX5_run 86 = .ok (.iadd, 1) := by decide +kernel
theorem dX5_run_87 : decode cX5_run 87 = .ok (.istore_n 2, 1) := by decide +kernel
theorem dX5_run_88 : decode cX5_run 88 = .ok (.iload 4, 2) := by decide +kernel
theorem dX5_run_90 : decode cX5_run 90 = .ok (.istore_n 3, 1) := by decide +kernel
theorem dX5_run_91 : decode cX5_run 91 = .ok (.iinc 5 1, 3) := by decide +kernel
theorem dX5_run_94 : decode cX5_run 94 = .ok (.goto (-62), 3) := by decide +kernel
theorem dX5_run_97 : decode cX5_run 97 = .ok (.iload_n 1, 1) := by decide +kernel
theorem dX5_run_98 : decode cX5_run 98 = .ok (.ifCond .ne 7, 3) := by decide +kernel
theorem dX5_run_101 : decode cX5_run 101 = .ok (.iload_n 2, 1) := by decide +kernel
theorem dX5_run_102 : decode cX5_run 102 = .ok (.goto 4, 3) := by decide +kernel
theorem dX5_run_105 : decode cX5_run 105 = .ok (.iload_n 3, 1) := by decide +kernel
theorem dX5_run_106 : decode cX5_run 106 = .ok (.ireturn, 1) := by decide +kernel
set_option maxRecDepth 20000 in
theorem ggX5_shape_X5_hasWell : GoodIn wsX5_shape wsX5_hasWell := goodIn_r _ [6, 1, 7, 26, 27, 28, 29, 30, 31, 32, 33, 34, 35, 36, 37, 38, 39] (by decide +kernel) (by decide +kernel)
set_option maxRecDepth 20000 in
theorem gX5_shape_X5_hasWell : GoodIn wsX5_shape (wsV RX5 111 RX5 yX5_hasWell wsX5_hasWell) := goodIn_app (goodIn_of _ (by decide +kernel)) ggX5_shape_X5_hasWell
set_option maxRecDepth 20000 in
theorem ggX5_shape_X5_isKind : GoodIn wsX5_shape wsX5_isKind := goodIn_r _ [10] (by decide +kernel) (by decide +kernel)
set_option maxRecDepth 20000 in
theorem gX5_shape_X5_isKind : GoodIn wsX5_shape (va_wsS RX5 127 yX5_isKind wsX5_isKind) := goodIn_app (goodIn_of _ (by decide +kernel)) ggX5_shape_X5_isKind
set_option maxRecDepth 20000 in
theorem ggX5_shape_X5_isWish : GoodIn wsX5_shape wsX5_isWish := goodIn_r _ [13] (by decide +kernel) (by decide +kernel)
set_option maxRecDepth 20000 in
theorem gX5_shape_X5_isWish : GoodIn wsX5_shape (va_wsS RX5 124 yX5_isWish wsX5_isWish) := goodIn_app (goodIn_of _ (by decide +kernel)) ggX5_shape_X5_isWish
set_option maxRecDepth 20000 in
theorem ggX5_shape_X4_wishNow : GoodIn wsX5_shape wsX4_wishNow := goodIn_r _ [18, 19, 20, 21, 22, 5, 23, 24, 25, 33, 34, 35, 36, 37, 38, 39] (by decide +kernel) (by decide +kernel)
set_option maxRecDepth 20000 in
theorem gX5_shape_X4_wishNow : GoodIn wsX5_shape (wsV RX5 156 RX4 yX4_wishNow wsX4_wishNow) := goodIn_app (goodIn_of _ (by decide +kernel)) ggX5_shape_X4_wishNow
theorem dX5_shape_0 : decode cX5_shape 0 = .ok (.aload_n 0, 1) := by decide +kernel
theorem dX5_shape_1 : decode cX5_shape 1 = .ok (.invokevirtual 111, 3) := by decide +kernel
theorem dX5_shape_4 : decode cX5_shape 4 = .ok (.ifCond .ne 6, 3) := by decide +kernel
theorem dX5_shape_7 : decode cX5_shape 7 = .ok (.bipush (-3), 2) := by decide +kernel
theorem dX5_shape_9 : decode cX5_shape 9 = .ok (.ireturn, 1) := by decide +kernel
theorem dX5_shape_10 : decode cX5_shape 10 = .ok (.iload_n 1, 1) := by decide +kernel
theorem dX5_shape_11 : decode cX5_shape 11 = .ok (.invokestatic 127, 3) := by decide +kernel
theorem dX5_shape_14 : decode cX5_shape 14 = .ok (.ifCond .eq 10, 3) := by decide +kernel
theorem dX5_shape_17 : decode cX5_shape 17 = .ok (.iload_n 2, 1) := by decide +kernel
theorem dX5_shape_18 : decode cX5_shape 18 = .ok (.invokestatic 124, 3) := by decide +kernel
theorem dX5_shape_21 : decode cX5_shape 21 = .ok (.ifCond .ne 6, 3) := by decide +kernel
theorem dX5_shape_24 : decode cX5_shape 24 = .ok (.bipush (-2), 2) := by decide +kernel
theorem dX5_shape_26 : decode cX5_shape 26 = .ok (.ireturn, 1) := by decide +kernel
theorem dX5_shape_27 : decode cX5_shape 27 = .ok (.iconst 0, 1) := by decide +kernel
theorem dX5_shape_28 : decode cX5_shape 28 = .ok (.istore_n 3, 1) := by decide +kernel
theorem dX5_shape_29 : decode cX5_shape 29 = .ok (.iload_n 3, 1) := by decide +kernel
theorem dX5_shape_30 : decode cX5_shape 30 = .ok (.bipush 10, 2) := by decide +kernel
theorem dX5_shape_32 : decode cX5_shape 32 = .ok (.if_icmp .ge 24, 3) := by decide +kernel
theorem dX5_shape_35 : decode cX5_shape 35 = .ok (.aload_n 0, 1) := by decide +kernel
theorem dX5_shape_36 : decode cX5_shape 36 = .ok (.getfield 12, 3) := by decide +kernel
theorem dX5_shape_39 : decode cX5_shape 39 = .ok (.iload_n 1, 1) := by decide +kernel
theorem dX5_shape_40 : decode cX5_shape 40 = .ok (.iload_n 3, 1) := by decide +kernel
theorem dX5_shape_41 : decode cX5_shape 41 = .ok (.invokevirtual 156, 3) := by decide +kernel
theorem dX5_shape_44 : decode cX5_shape 44 = .ok (.iload_n 2, 1) := by decide +kernel
theorem dX5_shape_45 : decode cX5_shape 45 = .ok (.if_icmp .ne 5, 3) := by decide +kernel
theorem dX5_shape_48 : decode cX5_shape 48 = .ok (.iload_n 3, 1) := by decide +kernel
theorem dX5_shape_49 : decode cX5_shape 49 = .ok (.ireturn, 1) := by decide +kernel
theorem dX5_shape_50 : decode cX5_shape 50 = .ok (.iinc 3 1, 3) := by decide +kernel
theorem dX5_shape_53 : decode cX5_shape 53 = .ok (.goto (-24), 3) := by decide +kernel
theorem dX5_shape_56 : decode cX5_shape 56 = .ok (.bipush (-9), 2) := by decide +kernel
theorem dX5_shape_58 : decode cX5_shape 58 = .ok (.ireturn, 1) := by decide +kernel
set_option maxRecDepth 20000 in
theorem ggX5_layers_X5_isSheet : GoodIn wsX5_layers wsX5_isSheet := goodIn_r _ [10] (by decide +kernel) (by decide +kernel)
set_option maxRecDepth 20000 in
theorem gX5_layers_X5_isSheet : GoodIn wsX5_layers (va_wsS RX5 50 yX5_isSheet wsX5_isSheet) := goodIn_app (goodIn_of _ (by decide +kernel)) ggX5_layers_X5_isSheet
set_option maxRecDepth 20000 in
theorem ggX5_layers_X5_isLane : GoodIn wsX5_layers wsX5_isLane := goodIn_r _ [13] (by decide +kernel) (by decide +kernel)
set_option maxRecDepth 20000 in
theorem gX5_layers_X5_isLane : GoodIn wsX5_layers (va_wsS RX5 54 yX5_isLane wsX5_isLane) := goodIn_app (goodIn_of _ (by decide +kernel)) ggX5_layers_X5_isLane
set_option maxRecDepth 20000 in
theorem ggX5_layers_X5_hasWell : GoodIn wsX5_layers wsX5_hasWell := goodIn_r _ [17, 3, 4, 102, 103, 104, 105, 106, 107, 108, 109, 110, 111, 112, 113, 114, 115] (by decide +kernel) (by decide +kernel)
set_option maxRecDepth 20000 in
theorem gX5_layers_X5_hasWell : GoodIn wsX5_layers (wsV RX5 111 RX5 yX5_hasWell wsX5_hasWell) := goodIn_app (goodIn_of _ (by decide +kernel)) ggX5_layers_X5_hasWell
set_option maxRecDepth 20000 in
theorem ggX5_layers_X3_faultOfCells : GoodIn wsX5_layers wsX3_faultOfCells := goodIn_r _ [22, 23, 24, 25, 21, 26, 27, 28, 29, 30, 31, 32, 33, 34, 35, 36, 121, 122, 123] (by decide +kernel) (by decide +kernel)
set_option maxRecDepth 20000 in
theorem gX5_layers_X3_faultOfCells : GoodIn wsX5_layers (wsV RX5 139 RX3 yX3_faultOfCells wsX3_faultOfCells) := goodIn_app (goodIn_of _ (by decide +kernel)) ggX5_layers_X3_faultOfCells
set_option maxRecDepth 20000 in
theorem ggX5_layers_X5_failed : GoodIn wsX5_layers wsX5_failed := goodIn_r _ [40, 1, 102, 103, 104, 105, 106, 107, 108] (by decide +kernel) (by decide +kernel)
set_option maxRecDepth 20000 in
theorem gX5_layers_X5_failed : GoodIn wsX5_layers (wsV RX5 65 RX5 yX5_failed wsX5_failed) := goodIn_app (goodIn_of _ (by decide +kernel)) ggX5_layers_X5_failed
set_option maxRecDepth 20000 in
theorem ggX5_layers_X3_at : GoodIn wsX5_layers wsX3_at := goodIn_r _ [44, 45, 32, 33, 34, 21, 35, 36, 121, 122, 123] (by decide +kernel) (by decide +kernel)
set_option maxRecDepth 20000 in
theorem gX5_layers_X3_at : GoodIn wsX5_layers (wsV RX5 143 RX3 yX3_at wsX3_at) := goodIn_app (goodIn_of _ (by decide +kernel)) ggX5_layers_X3_at
set_option maxRecDepth 20000 in
theorem ggX5_layers_X5_isWish : GoodIn wsX5_layers wsX5_isWish := goodIn_r _ [48] (by decide +kernel) (by decide +kernel)
set_option maxRecDepth 20000 in
theorem gX5_layers_X5_isWish : GoodIn wsX5_layers (va_wsS RX5 124 yX5_isWish wsX5_isWish) := goodIn_app (goodIn_of _ (by decide +kernel)) ggX5_layers_X5_isWish
set_option maxRecDepth 20000 in
theorem ggX5_layers_X1_ask : GoodIn wsX5_layers wsX1_ask := goodIn_r _ [53, 54, 55, 56, 57, 58, 59, 60, 61, 62, 63, 64, 65, 66, 42, 43, 21, 44, 45, 32, 33, 34, 35, 36, 67, 68, 69, 70, 71, 72, 73, 74, 75, 76, 77, 78, 79, 9, 80, 81, 82, 83, 84, 85, 86, 87, 88, 89, 90, 91, 92, 52, 93, 109, 110, 111, 112, 113, 114, 115, 116, 117, 118, 119, 120, 121, 122, 123] (by decide +kernel) (by decide +kernel)
set_option maxRecDepth 20000 in
theorem gX5_layers_X1_ask : GoodIn wsX5_layers (wsV RX5 159 RX1 yX1_ask wsX1_ask) := goodIn_app (goodIn_of _ (by decide +kernel)) ggX5_layers_X1_ask
set_option maxRecDepth 20000 in
theorem ggX5_layers_X1_firstAt : GoodIn wsX5_layers wsX1_firstAt := goodIn_r _ [97, 65, 59, 63, 98, 99, 100, 52, 101, 61, 60, 116, 117, 118, 119, 120] (by decide +kernel) (by decide +kernel)
set_option maxRecDepth 20000 in
theorem gX5_layers_X1_firstAt : GoodIn wsX5_layers (wsV RX5 166 RX1 yX1_firstAt wsX1_firstAt) := goodIn_app (goodIn_of _ (by decide +kernel)) ggX5_layers_X1_firstAt
theorem dX5_layers_0 : decode cX5_layers 0 = .ok (.aload_n 0, 1) := by decide +kernel
theorem dX5_layers_1 : decode cX5_layers 1 = .ok (.iconst 0, 1) := by decide +kernel
theorem dX5_layers_2 : decode cX5_layers 2 = .ok (.putfield 46, 3) := by decide +kernel
theorem dX5_layers_5 : decode cX5_layers 5 = .ok (.iload_n 1, 1) := by decide +kernel
theorem dX5_layers_6 : decode cX5_layers 6 = .ok (.invokestatic 50, 3) := by decide +kernel
theorem dX5_layers_9 : decode cX5_layers 9 = .ok (.ifCond .ne 5, 3) := by decide +kernel
theorem dX5_layers_12 : decode cX5_layers 12 = .ok (.iconst (-1), 1) := by decide +kernel
theorem dX5_layers_13 : decode cX5_layers 13 = .ok (.ireturn, 1) := by decide +kernel
theorem dX5_layers_14 : decode cX5_layers 14 = .ok (.iload_n 2, 1) := by decide +kernel
theorem dX5_layers_15 : decode cX5_layers 15 = .ok (.invokestatic 54, 3) := by decide +kernel
theorem dX5_layers_18 : decode cX5_layers 18 = .ok (.ifCond .eq 16, 3) := by decide +kernel
theorem dX5_layers_21 : decode cX5_layers 21 = .ok (.iload 4, 2) := by decide +kernel
theorem dX5_layers_23 : decode cX5_layers 23 = .ok (.iconst (-1), 1) := by decide +kernel
theorem dX5_layers_24 : decode cX5_layers 24 = .ok (.if_icmp .lt 10, 3) := by decide +kernel
theorem dX5_layers_27 : decode cX5_layers 27 = .ok (.iload 4, 2) := by decide +kernel
theorem dX5_layers_29 : decode cX5_layers 29 = .ok (.bipush 9, 2) := by decide +kernel
theorem dX5_layers_31 : decode cX5_layers 31 = .ok (.if_icmp .lt 6, 3) := by decide +kernel
theorem dX5_layers_34 : decode cX5_layers 34 = .ok (.bipush (-2), 2) := by decide +kernel
theorem dX5_layers_36 : decode cX5_layers 36 = .ok (.ireturn, 1) := by decide +kernel
theorem dX5_layers_37 : decode cX5_layers 37 = .ok (.aload_n 0, 1) := by decide +kernel
theorem dX5_layers_38 : decode cX5_layers 38 = .ok (.invokevirtual 111, 3) := by decide +kernel
theorem dX5_layers_41 : decode cX5_layers 41 = .ok (.ifCond .ne 6, 3) := by decide +kernel
theorem dX5_layers_44 : decode cX5_layers 44 = .ok (.bipush (-3), 2) := by decide +kernel
theorem dX5_layers_46 : decode cX5_layers 46 = .ok (.ireturn, 1) := by decide +kernel
theorem dX5_layers_47 : decode cX5_layers 47 = .ok (.aload_n 0, 1) := by decide +kernel
theorem dX5_layers_48 : decode cX5_layers 48 = .ok (.getfield 41, 3) := by decide +kernel
theorem dX5_layers_51 : decode cX5_layers 51 = .ok (.iload_n 1, 1) := by decide +kernel
theorem dX5_layers_52 : decode cX5_layers 52 = .ok (.aaload, 1) := by decide +kernel
theorem dX5_layers_53 : decode cX5_layers 53 = .ok (.astore 5, 2) := by decide +kernel
theorem dX5_layers_55 : decode cX5_layers 55 = .ok (.aload 5, 2) := by decide +kernel
theorem dX5_layers_57 : decode cX5_layers 57 = .ok (.iload_n 2, 1) := by decide +kernel
theorem dX5_layers_58 : decode cX5_layers 58 = .ok (.iload_n 3, 1) := by decide +kernel
theorem dX5_layers_59 : decode cX5_layers 59 = .ok (.aload_n 0, 1) := by decide +kernel
theorem dX5_layers_60 : decode cX5_layers 60 = .ok (.getfield 12, 3) := by decide +kernel
theorem dX5_layers_63 : decode cX5_layers 63 = .ok (.getfield 79, 3) := by decide +kernel
theorem dX5_layers_66 : decode cX5_layers 66 = .ok (.invokevirtual 139, 3) := by decide +kernel
theorem dX5_layers_69 : decode cX5_layers 69 = .ok (.istore 6, 2) := by decide +kernel
theorem dX5_layers_71 : decode cX5_layers 71 = .ok (.iload 6, 2) := by decide +kernel
theorem dX5_layers_73 : decode cX5_layers 73 = .ok (.ifCond .eq 10, 3) := by decide +kernel
theorem dX5_layers_76 : decode cX5_layers 76 = .ok (.aload_n 0, 1) := by decide +kernel
theorem dX5_layers_77 : decode cX5_layers 77 = .ok (.iload 6, 2) := by decide +kernel
theorem dX5_layers_79 : decode cX5_layers 79 = .ok (.invokevirtual 65, 3) := by decide +kernel
theorem dX5_layers_82 : decode cX5_layers 82 = .ok (.ireturn, 1) := by decide +kernel
theorem dX5_layers_83 : decode cX5_layers 83 = .ok (.iconst 0, 1) := by decide +kernel
theorem dX5_layers_84 : decode cX5_layers 84 = .ok (.istore 7, 2) := by decide +kernel
theorem dX5_layers_86 : decode cX5_layers 86 = .ok (.iload 7, 2) := by decide +kernel
theorem dX5_layers_88 : decode cX5_layers 88 = .ok (.aload_n 0, 1) := by decide +kernel
theorem dX5_layers_89 : decode cX5_layers 89 = .ok (.getfield 12, 3) := by decide +kernel
theorem dX5_layers_92 : decode cX5_layers 92 = .ok (.getfield 79, 3) := by decide +kernel
theorem dX5_layers_95 : decode cX5_layers 95 = .ok (.if_icmp .ge 38, 3) := by decide +kernel
theorem dX5_layers_98 : decode cX5_layers 98 = .ok (.aload 5, 2) := by decide +kernel
theorem dX5_layers_100 : decode cX5_layers 100 = .ok (.iload_n 3, 1) := by decide +kernel
theorem dX5_layers_101 : decode cX5_layers 101 = .ok (.iload 7, 2) := by decide +kernel
theorem dX5_layers_103 : decode cX5_layers 103 = .ok (.iadd, 1) := by decide +kernel
theorem dX5_layers_104 : decode cX5_layers 104 = .ok (.invokevirtual 143, 3) := by decide +kernel
theorem dX5_layers_107 : decode cX5_layers 107 = .ok (.istore 8, 2) := by decide +kernel
theorem dX5_layers_109 : decode cX5_layers 109 = .ok (.iload 8, 2) := by decide +kernel
theorem dX5_layers_111 : decode cX5_layers 111 = .ok (.invokestatic 124, 3) := by decide +kernel
theorem dX5_layers_114 : decode cX5_layers 114 = .ok (.ifCond .ne 13, 3) := by decide +kernel
theorem dX5_layers_117 : decode cX5_layers 117 = .ok (.iload 8, 2) := by decide +kernel
theorem dX5_layers_119 : decode cX5_layers 119 = .ok (.bipush 6, 2) := by decide +kernel
theorem dX5_layers_121 : decode cX5_layers 121 = .ok (.if_icmp .eq 6, 3) := by decide +kernel
theorem dX5_layers_124 : decode cX5_layers 124 = .ok (.bipush (-2), 2) := by decide +kernel
theorem dX5_layers_126 : decode cX5_layers 126 = .ok (.ireturn, 1) := by decide +kernel
theorem dX5_layers_127 : decode cX5_layers 127 = .ok (.iinc 7 1, 3) := by decide +kernel
theorem dX5_layers_130 : decode cX5_layers 130 = .ok (.goto (-44), 3) := by decide +kernel
theorem dX5_layers_133 : decode cX5_layers 133 = .ok (.aload_n 0, 1) := by decide +kernel
theorem dX5_layers_134 : decode cX5_layers 134 = .ok (.getfield 35, 3) := by decide +kernel
theorem dX5_layers_137 : decode cX5_layers 137 = .ok (.aload_n 0, 1) := by decide +kernel
theorem dX5_layers_138 : decode cX5_layers 138 = .ok (.getfield 12, 3) := by decide +kernel
theorem dX5_layers_141 : decode cX5_layers 141 = .ok (.aload 5, 2) := by decide +kernel
theorem dX5_layers_143 : decode cX5_layers 143 = .ok (.iload_n 3, 1) := by decide +kernel
theorem dX5_layers_144 : decode cX5_layers 144 = .ok (.invokevirtual 159, 3) := by decide +kernel
theorem dX5_layers_147 : decode cX5_layers 147 = .ok (.iload 4, 2) := by decide +kernel
theorem dX5_layers_149 : decode cX5_layers 149 = .ok (.ifCond .ge 13, 3) := by decide +kernel
theorem dX5_layers_152 : decode cX5_layers 152 = .ok (.aload_n 0, 1) := by decide +kernel
theorem dX5_layers_153 : decode cX5_layers 153 = .ok (.getfield 35, 3) := by decide +kernel
theorem dX5_layers_156 : decode cX5_layers 156 = .ok (.getfield 163, 3) := by decide +kernel
theorem dX5_layers_159 : decode cX5_layers 159 = .ok (.goto 12, 3) := by decide +kernel
theorem dX5_layers_162 : decode cX5_layers 162 = .ok (.aload_n 0, 1) := by decide +kernel
theorem dX5_layers_163 : decode cX5_layers 163 = .ok (.getfield 35, 3) := by decide +kernel
theorem dX5_layers_166 : decode cX5_layers 166 = .ok (.iload 4, 2) := by decide +kernel
theorem dX5_layers_168 : decode cX5_layers 168 = .ok (.invokevirtual 166, 3) := by decide +kernel
theorem dX5_layers_171 : decode cX5_layers 171 = .ok (.ireturn, 1) := by decide +kernel
set_option maxRecDepth 20000 in
theorem ggX5_reading_X4_isPin : GoodIn wsX5_reading wsX4_isPin := goodIn_r _ [8, 9, 32, 33, 34, 35, 36, 37, 38] (by decide +kernel) (by decide +kernel)
set_option maxRecDepth 20000 in
theorem gX5_reading_X4_isPin : GoodIn wsX5_reading (wsV RX5 82 RX4 yX4_isPin wsX4_isPin) := goodIn_app (goodIn_of _ (by decide +kernel)) ggX5_reading_X4_isPin
set_option maxRecDepth 20000 in
theorem ggX5_reading_X5_isWish : GoodIn wsX5_reading wsX5_isWish := goodIn_r _ [13] (by decide +kernel) (by decide +kernel)
set_option maxRecDepth 20000 in
theorem gX5_reading_X5_isWish : GoodIn wsX5_reading (va_wsS RX5 124 yX5_isWish wsX5_isWish) := goodIn_app (goodIn_of _ (by decide +kernel)) ggX5_reading_X5_isWish
set_option maxRecDepth 20000 in
theorem ggX5_reading_X2_add : GoodIn wsX5_reading wsX2_add := goodIn_r _ [18, 19, 20, 21, 29, 30, 31] (by decide +kernel) (by decide +kernel)
set_option maxRecDepth 20000 in
theorem gX5_reading_X2_add : GoodIn wsX5_reading (wsV RX5 172 RX2 yX2_add wsX2_add) := goodIn_app (goodIn_of _ (by decide +kernel)) ggX5_reading_X2_add
theorem dX5_reading_0 : decode cX5_reading 0 = .ok (.aload_n 0, 1) := by decide +kernel
theorem dX5_reading_1 : decode cX5_reading 1 = .ok (.getfield 12, 3) := by decide +kernel
theorem dX5_reading_4 : decode cX5_reading 4 = .ok (.iload_n 1, 1) := by decide +kernel
theorem dX5_reading_5 : decode cX5_reading 5 = .ok (.invokevirtual 82, 3) := by decide +kernel
theorem dX5_reading_8 : decode cX5_reading 8 = .ok (.ifCond .ne 5, 3) := by decide +kernel
theorem dX5_reading_11 : decode cX5_reading 11 = .ok (.iconst (-1), 1) := by decide +kernel
theorem dX5_reading_12 : decode cX5_reading 12 = .ok (.ireturn, 1) := by decide +kernel
theorem dX5_reading_13 : decode cX5_reading 13 = .ok (.iload_n 2, 1) := by decide +kernel
theorem dX5_reading_14 : decode cX5_reading 14 = .ok (.invokestatic 124, 3) := by decide +kernel
theorem dX5_reading_17 : decode cX5_reading 17 = .ok (.ifCond .ne 6, 3) := by decide +kernel
theorem dX5_reading_20 : decode cX5_reading 20 = .ok (.bipush (-2), 2) := by decide +kernel
theorem dX5_reading_22 : decode cX5_reading 22 = .ok (.ireturn, 1) := by decide +kernel
theorem dX5_reading_23 : decode cX5_reading 23 = .ok (.aload_n 0, 1) := by decide +kernel
theorem dX5_reading_24 : decode cX5_reading 24 = .ok (.getfield 21, 3) := by decide +kernel
theorem dX5_reading_27 : decode cX5_reading 27 = .ok (.getfield 169, 3) := by decide +kernel
theorem dX5_reading_30 : decode cX5_reading 30 = .ok (.istore_n 3, 1) := by decide +kernel
theorem dX5_reading_31 : decode cX5_reading 31 = .ok (.aload_n 0, 1) := by decide +kernel
theorem dX5_reading_32 : decode cX5_reading 32 = .ok (.getfield 21, 3) := by decide +kernel
theorem dX5_reading_35 : decode cX5_reading 35 = .ok (.iload_n 1, 1) := by decide +kernel
theorem dX5_reading_36 : decode cX5_reading 36 = .ok (.iload_n 2, 1) := by decide +kernel
theorem dX5_reading_37 : decode cX5_reading 37 = .ok (.invokevirtual 172, 3) := by decide +kernel
theorem dX5_reading_40 : decode cX5_reading 40 = .ok (.ifCond .ne 6, 3) := by decide +kernel
theorem dX5_reading_43 : decode cX5_reading 43 = .ok (.bipush (-4), 2) := by decide +kernel
theorem dX5_reading_45 : decode cX5_reading 45 = .ok (.ireturn, 1) := by decide +kernel
theorem dX5_reading_46 : decode cX5_reading 46 = .ok (.iload_n 3, 1) := by decide +kernel
theorem dX5_reading_47 : decode cX5_reading 47 = .ok (.ireturn, 1) := by decide +kernel
theorem dX5_back_0 : decode cX5_back 0 = .ok (.iload_n 1, 1) := by decide +kernel
theorem dX5_back_1 : decode cX5_back 1 = .ok (.ifCond .lt 14, 3) := by decide +kernel
theorem dX5_back_4 : decode cX5_back 4 = .ok (.iload_n 1, 1) := by decide +kernel
theorem dX5_back_5 : decode cX5_back 5 = .ok (.aload_n 0, 1) := by decide +kernel
theorem dX5_back_6 : decode cX5_back 6 = .ok (.getfield 21, 3) := by decide +kernel
theorem dX5_back_9 : decode cX5_back 9 = .ok (.getfield 169, 3) := by decide +kernel
theorem dX5_back_12 : decode cX5_back 12 = .ok (.if_icmp .le 6, 3) := by decide +kernel
theorem dX5_back_15 : decode cX5_back 15 = .ok (.bipush (-2), 2) := by decide +kernel
theorem dX5_back_17 : decode cX5_back 17 = .ok (.ireturn, 1) := by decide +kernel
theorem dX5_back_18 : decode cX5_back 18 = .ok (.aload_n 0, 1) := by decide +kernel
theorem dX5_back_19 : decode cX5_back 19 = .ok (.getfield 21, 3) := by decide +kernel
theorem dX5_back_22 : decode cX5_back 22 = .ok (.dup, 1) := by decide +kernel
theorem dX5_back_23 : decode cX5_back 23 = .ok (.getfield 169, 3) := by decide +kernel
theorem dX5_back_26 : decode cX5_back 26 = .ok (.iload_n 1, 1) := by decide +kernel
theorem dX5_back_27 : decode cX5_back 27 = .ok (.isub, 1) := by decide +kernel
theorem dX5_back_28 : decode cX5_back 28 = .ok (.putfield 169, 3) := by decide +kernel
theorem dX5_back_31 : decode cX5_back 31 = .ok (.aload_n 0, 1) := by decide +kernel
theorem dX5_back_32 : decode cX5_back 32 = .ok (.getfield 21, 3) := by decide +kernel
theorem dX5_back_35 : decode cX5_back 35 = .ok (.getfield 169, 3) := by decide +kernel
theorem dX5_back_38 : decode cX5_back 38 = .ok (.ireturn, 1) := by decide +kernel
set_option maxRecDepth 20000 in
theorem ggX5_bends_X4_isPin : GoodIn wsX5_bends wsX4_isPin := goodIn_r _ [7, 8, 48, 49, 50, 51, 52, 53, 54] (by decide +kernel) (by decide +kernel)
set_option maxRecDepth 20000 in
theorem gX5_bends_X4_isPin : GoodIn wsX5_bends (wsV RX5 82 RX4 yX4_isPin wsX4_isPin) := goodIn_app (goodIn_of _ (by decide +kernel)) ggX5_bends_X4_isPin
set_option maxRecDepth 20000 in
theorem ggX5_bends_X4_kindAt : GoodIn wsX5_bends wsX4_kindAt := goodIn_r _ [12, 13, 14, 4, 5, 6, 7, 8, 48, 49, 50, 51, 52, 53, 54] (by decide +kernel) (by decide +kernel)
set_option maxRecDepth 20000 in
theorem gX5_bends_X4_kindAt : GoodIn wsX5_bends (wsV RX5 85 RX4 yX4_kindAt wsX4_kindAt) := goodIn_app (goodIn_of _ (by decide +kernel)) ggX5_bends_X4_kindAt
set_option maxRecDepth 20000 in
theorem ggX5_bends_X5_turnOf : GoodIn wsX5_bends wsX5_turnOf := goodIn_r _ [18] (by decide +kernel) (by decide +kernel)
set_option maxRecDepth 20000 in
theorem gX5_bends_X5_turnOf : GoodIn wsX5_bends (va_wsS RX5 94 yX5_turnOf wsX5_turnOf) := goodIn_app (goodIn_of _ (by decide +kernel)) ggX5_bends_X5_turnOf
set_option maxRecDepth 20000 in
theorem ggX5_bends_X2_areSoWith : GoodIn wsX5_bends wsX2_areSoWith := goodIn_r _ [23, 24, 25, 26, 27, 28, 29, 30, 31, 6, 32, 13, 33, 14, 4, 5, 7, 8, 16, 17, 18, 34, 35, 36, 37, 38, 39, 40, 55, 56, 57, 48, 49, 50, 51, 52, 53, 54] (by decide +kernel) (by decide +kernel)
set_option maxRecDepth 20000 in
theorem gX5_bends_X2_areSoWith : GoodIn wsX5_bends (wsV RX5 175 RX2 yX2_areSoWith wsX2_areSoWith) := goodIn_app (goodIn_of _ (by decide +kernel)) ggX5_bends_X2_areSoWith
theorem dX5_bends_0 : decode cX5_bends 0 = .ok (.aload_n 0, 1) := by decide +kernel
theorem dX5_bends_1 : decode cX5_bends 1 = .ok (.getfield 12, 3) := by decide +kernel
theorem dX5_bends_4 : decode cX5_bends 4 = .ok (.iload_n 1, 1) := by decide +kernel
theorem dX5_bends_5 : decode cX5_bends 5 = .ok (.invokevirtual 82, 3) := by decide +kernel
theorem dX5_bends_8 : decode cX5_bends 8 = .ok (.ifCond .ne 5, 3) := by decide +kernel
theorem dX5_bends_11 : decode cX5_bends 11 = .ok (.iconst (-1), 1) := by decide +kernel
theorem dX5_bends_12 : decode cX5_bends 12 = .ok (.ireturn, 1) := by decide +kernel
theorem dX5_bends_13 : decode cX5_bends 13 = .ok (.iconst 0, 1) := by decide +kernel
theorem dX5_bends_14 : decode cX5_bends 14 = .ok (.istore_n 2, 1) := by decide +kernel
theorem dX5_bends_15 : decode cX5_bends 15 = .ok (.iconst 0, 1) := by decide +kernel
theorem dX5_bends_16 : decode cX5_bends 16 = .ok (.istore_n 3, 1) := by decide +kernel
theorem dX5_bends_17 : decode cX5_bends 17 = .ok (.iload_n 3, 1) := by decide +kernel
theorem dX5_bends_18 : decode cX5_bends 18 = .ok (.bipush 10, 2) := by decide +kernel
theorem dX5_bends_20 : decode cX5_bends 20 = .ok (.if_icmp .ge 42, 3) := by decide +kernel
theorem dX5_bends_23 : decode cX5_bends 23 = .ok (.aload_n 0, 1) := by decide +kernel
theorem dX5_bends_24 : decode cX5_bends 24 = .ok (.getfield 21, 3) := by decide +kernel
theorem dX5_bends_27 : decode cX5_bends 27 = .ok (.aload_n 0, 1) := by decide +kernel
theorem dX5_bends_28 : decode cX5_bends 28 = .ok (.getfield 12, 3) := by decide +kernel
theorem dX5_bends_31 : decode cX5_bends 31 = .ok (.iload_n 1, 1) := by decide +kernel
theorem dX5_bends_32 : decode cX5_bends 32 = .ok (.aload_n 0, 1) := by decide +kernel
theorem dX5_bends_33 : decode cX5_bends 33 = .ok (.getfield 12, 3) := by decide +kernel
theorem dX5_bends_36 : decode cX5_bends 36 = .ok (.iload_n 1, 1) := by decide +kernel
theorem dX5_bends_37 : decode cX5_bends 37 = .ok (.invokevirtual 85, 3) := by decide +kernel
theorem dX5_bends_40 : decode cX5_bends 40 = .ok (.iload_n 3, 1) := by decide +kernel
theorem dX5_bends_41 : decode cX5_bends 41 = .ok (.invokestatic 94, 3) := by decide +kernel
theorem dX5_bends_44 : decode cX5_bends 44 = .ok (.invokevirtual 175, 3) := by decide +kernel
theorem dX5_bends_47 : decode cX5_bends 47 = .ok (.ifCond .eq 9, 3) := by decide +kernel
theorem dX5_bends_50 : decode cX5_bends 50 = .ok (.iload_n 2, 1) := by decide +kernel
theorem dX5_bends_51 : decode cX5_bends 51 = .ok (.iconst 1, 1) := by decide +kernel
theorem dX5_bends_52 : decode cX5_bends 52 = .ok (.iload_n 3, 1) := by decide +kernel
theorem dX5_bends_53 : decode cX5_bends 53 = .ok (.ishl, 1) := by decide +kernel
theorem dX5_bends_54 : decode cX5_bends 54 = .ok (.ior, 1) := by decide +kernel
theorem dX5_bends_55 : decode cX5_bends 55 = .ok (.istore_n 2, 1) := by decide +kernel
theorem dX5_bends_56 : decode cX5_bends 56 = .ok (.iinc 3 1, 3) := by decide +kernel
theorem dX5_bends_59 : decode cX5_bends 59 = .ok (.goto (-42), 3) := by decide +kernel
theorem dX5_bends_62 : decode cX5_bends 62 = .ok (.iload_n 2, 1) := by decide +kernel
theorem dX5_bends_63 : decode cX5_bends 63 = .ok (.ireturn, 1) := by decide +kernel
set_option maxRecDepth 20000 in
theorem ggX5_kinds_X4_isPin : GoodIn wsX5_kinds wsX4_isPin := goodIn_r _ [7, 8, 48, 49, 50, 51, 52, 53, 54] (by decide +kernel) (by decide +kernel)
set_option maxRecDepth 20000 in
theorem gX5_kinds_X4_isPin : GoodIn wsX5_kinds (wsV RX5 82 RX4 yX4_isPin wsX4_isPin) := goodIn_app (goodIn_of _ (by decide +kernel)) ggX5_kinds_X4_isPin
set_option maxRecDepth 20000 in
theorem ggX5_kinds_X4_bendAt : GoodIn wsX5_kinds wsX4_bendAt := goodIn_r _ [12, 13, 14, 4, 5, 6, 7, 8, 48, 49, 50, 51, 52, 53, 54] (by decide +kernel) (by decide +kernel)
set_option maxRecDepth 20000 in
theorem gX5_kinds_X4_bendAt : GoodIn wsX5_kinds (wsV RX5 88 RX4 yX4_bendAt wsX4_bendAt) := goodIn_app (goodIn_of _ (by decide +kernel)) ggX5_kinds_X4_bendAt
set_option maxRecDepth 20000 in
theorem ggX5_kinds_X5_turnOf : GoodIn wsX5_kinds wsX5_turnOf := goodIn_r _ [18] (by decide +kernel) (by decide +kernel)
set_option maxRecDepth 20000 in
theorem gX5_kinds_X5_turnOf : GoodIn wsX5_kinds (va_wsS RX5 94 yX5_turnOf wsX5_turnOf) := goodIn_app (goodIn_of _ (by decide +kernel)) ggX5_kinds_X5_turnOf
set_option maxRecDepth 20000 in
theorem ggX5_kinds_X2_areSoWith : GoodIn wsX5_kinds wsX2_areSoWith := goodIn_r _ [23, 24, 25, 26, 27, 28, 29, 30, 31, 6, 32, 33, 13, 14, 4, 5, 7, 8, 16, 17, 18, 34, 35, 36, 37, 38, 39, 40, 55, 56, 57, 48, 49, 50, 51, 52, 53, 54] (by decide +kernel) (by decide +kernel)
set_option maxRecDepth 20000 in
theorem gX5_kinds_X2_areSoWith : GoodIn wsX5_kinds (wsV RX5 175 RX2 yX2_areSoWith wsX2_areSoWith) := goodIn_app (goodIn_of _ (by decide +kernel)) ggX5_kinds_X2_areSoWith
theorem dX5_kinds_0 : decode cX5_kinds 0 = .ok (.aload_n 0, 1) := by decide +kernel
theorem dX5_kinds_1 : decode cX5_kinds 1 = .ok (.getfield 12, 3) := by decide +kernel
theorem dX5_kinds_4 : decode cX5_kinds 4 = .ok (.iload_n 1, 1) := by decide +kernel
theorem dX5_kinds_5 : decode cX5_kinds 5 = .ok (.invokevirtual 82, 3) := by decide +kernel
theorem dX5_kinds_8 : decode cX5_kinds 8 = .ok (.ifCond .ne 5, 3) := by decide +kernel
theorem dX5_kinds_11 : decode cX5_kinds 11 = .ok (.iconst (-1), 1) := by decide +kernel
theorem dX5_kinds_12 : decode cX5_kinds 12 = .ok (.ireturn, 1) := by decide +kernel
theorem dX5_kinds_13 : decode cX5_kinds 13 = .ok (.iconst 0, 1) := by decide +kernel
theorem dX5_kinds_14 : decode cX5_kinds 14 = .ok (.istore_n 2, 1) := by decide +kernel
theorem dX5_kinds_15 : decode cX5_kinds 15 = .ok (.iconst 0, 1) := by decide +kernel
theorem dX5_kinds_16 : decode cX5_kinds 16 = .ok (.istore_n 3, 1) := by decide +kernel
theorem dX5_kinds_17 : decode cX5_kinds 17 = .ok (.iload_n 3, 1) := by decide +kernel
theorem dX5_kinds_18 : decode cX5_kinds 18 = .ok (.iconst 2, 1) := by decide +kernel
theorem dX5_kinds_19 : decode cX5_kinds 19 = .ok (.if_icmp .gt 42, 3) := by decide +kernel
theorem dX5_kinds_22 : decode cX5_kinds 22 = .ok (.aload_n 0, 1) := by decide +kernel
theorem dX5_kinds_23 : decode cX5_kinds 23 = .ok (.getfield 21, 3) := by decide +kernel
theorem dX5_kinds_26 : decode cX5_kinds 26 = .ok (.aload_n 0, 1) := by decide +kernel
theorem dX5_kinds_27 : decode cX5_kinds 27 = .ok (.getfield 12, 3) := by decide +kernel
theorem dX5_kinds_30 : decode cX5_kinds 30 = .ok (.iload_n 1, 1) := by decide +kernel
theorem dX5_kinds_31 : decode cX5_kinds 31 = .ok (.iload_n 3, 1) := by decide +kernel
theorem dX5_kinds_32 : decode cX5_kinds 32 = .ok (.aload_n 0, 1) := by decide +kernel
theorem dX5_kinds_33 : decode cX5_kinds 33 = .ok (.getfield 12, 3) := by decide +kernel
theorem dX5_kinds_36 : decode cX5_kinds 36 = .ok (.iload_n 1, 1) := by decide +kernel
theorem dX5_kinds_37 : decode cX5_kinds 37 = .ok (.invokevirtual 88, 3) := by decide +kernel
theorem dX5_kinds_40 : decode cX5_kinds 40 = .ok (.invokestatic 94, 3) := by decide +kernel
theorem dX5_kinds_43 : decode cX5_kinds 43 = .ok (.invokevirtual 175, 3) := by decide +kernel
theorem dX5_kinds_46 : decode cX5_kinds 46 = .ok (.ifCond .eq 9, 3) := by decide +kernel
theorem dX5_kinds_49 : decode cX5_kinds 49 = .ok (.iload_n 2, 1) := by decide +kernel
theorem dX5_kinds_50 : decode cX5_kinds 50 = .ok (.iconst 1, 1) := by decide +kernel
theorem dX5_kinds_51 : decode cX5_kinds 51 = .ok (.iload_n 3, 1) := by decide +kernel
theorem dX5_kinds_52 : decode cX5_kinds 52 = .ok (.ishl, 1) := by decide +kernel
theorem dX5_kinds_53 : decode cX5_kinds 53 = .ok (.ior, 1) := by decide +kernel
theorem dX5_kinds_54 : decode cX5_kinds 54 = .ok (.istore_n 2, 1) := by decide +kernel
theorem dX5_kinds_55 : decode cX5_kinds 55 = .ok (.iinc 3 1, 3) := by decide +kernel
theorem dX5_kinds_58 : decode cX5_kinds 58 = .ok (.goto (-41), 3) := by decide +kernel
theorem dX5_kinds_61 : decode cX5_kinds 61 = .ok (.iload_n 2, 1) := by decide +kernel
theorem dX5_kinds_62 : decode cX5_kinds 62 = .ok (.ireturn, 1) := by decide +kernel
set_option maxRecDepth 20000 in
theorem ggX5_keys_X5_hasWell : GoodIn wsX5_keys wsX5_hasWell := goodIn_r _ [7, 2, 8, 41, 42, 43, 44, 45, 46, 47, 48, 49, 50, 51, 52, 53, 54] (by decide +kernel) (by decide +kernel)
set_option maxRecDepth 20000 in
theorem gX5_keys_X5_hasWell : GoodIn wsX5_keys (wsV RX5 111 RX5 yX5_hasWell wsX5_hasWell) := goodIn_app (goodIn_of _ (by decide +kernel)) ggX5_keys_X5_hasWell
set_option maxRecDepth 20000 in
theorem ggX5_keys_X2_areSoByKey : GoodIn wsX5_keys wsX2_areSoByKey := goodIn_r _ [13, 14, 15, 16, 17, 18, 19, 20, 21, 22, 23, 24, 25, 26, 27, 28, 29, 6, 30, 31, 32, 33, 34, 35, 36, 37, 55, 56, 57, 48, 49, 50, 51, 52, 53, 54] (by decide +kernel) (by decide +kernel)
set_option maxRecDepth 20000 in
theorem gX5_keys_X2_areSoByKey : GoodIn wsX5_keys (wsV RX5 179 RX2 yX2_areSoByKey wsX2_areSoByKey) := goodIn_app (goodIn_of _ (by decide +kernel)) ggX5_keys_X2_areSoByKey
set_option maxRecDepth 20000 in
theorem ggX5_keys_X5_keyNumber : GoodIn wsX5_keys wsX5_keyNumber := goodIn_r _ [40] (by decide +kernel) (by decide +kernel)
set_option maxRecDepth 20000 in
theorem gX5_keys_X5_keyNumber : GoodIn wsX5_keys (va_wsS RX5 121 yX5_keyNumber wsX5_keyNumber) := goodIn_app (goodIn_of _ (by decide +kernel)) ggX5_keys_X5_keyNumber
theorem dX5_keys_0 : decode cX5_keys 0 = .ok (.aload_n 0, 1) := by decide +kernel
theorem dX5_keys_1 : decode cX5_keys 1 = .ok (.invokevirtual 111, 3) := by decide +kernel
theorem dX5_keys_4 : decode cX5_keys 4 = .ok (.ifCond .ne 6, 3) := by decide +kernel
theorem dX5_keys_7 : decode cX5_keys 7 = .ok (.bipush (-3), 2) := by decide +kernel
theorem dX5_keys_9 : decode cX5_keys 9 = .ok (.ireturn, 1) := by decide +kernel
theorem dX5_keys_10 : decode cX5_keys 10 = .ok (.iload_n 1, 1) := by decide +kernel
theorem dX5_keys_11 : decode cX5_keys 11 = .ok (.ifCond .lt 8, 3) := by decide +kernel
theorem dX5_keys_14 : decode cX5_keys 14 = .ok (.iload_n 1, 1) := by decide +kernel
theorem dX5_keys_15 : decode cX5_keys 15 = .ok (.iconst 2, 1) := by decide +kernel
theorem dX5_keys_16 : decode cX5_keys 16 = .ok (.if_icmp .le 6, 3) := by decide +kernel
theorem dX5_keys_19 : decode cX5_keys 19 = .ok (.bipush (-2), 2) := by decide +kernel
theorem dX5_keys_21 : decode cX5_keys 21 = .ok (.ireturn, 1) := by decide +kernel
theorem dX5_keys_22 : decode cX5_keys 22 = .ok (.iconst 0, 1) := by decide +kernel
theorem dX5_keys_23 : decode cX5_keys 23 = .ok (.istore_n 2, 1) := by decide +kernel
theorem dX5_keys_24 : decode cX5_keys 24 = .ok (.bipush (-9), 2) := by decide +kernel
theorem dX5_keys_26 : decode cX5_keys 26 = .ok (.istore_n 3, 1) := by decide +kernel
theorem dX5_keys_27 : decode cX5_keys 27 = .ok (.bipush (-9), 2) := by decide +kernel
theorem dX5_keys_29 : decode cX5_keys 29 = .ok (.istore 4, 2) := by decide +kernel
theorem dX5_keys_31 : decode cX5_keys 31 = .ok (.iconst 1, 1) := by decide +kernel
theorem dX5_keys_32 : decode cX5_keys 32 = .ok (.istore 5, 2) := by decide +kernel
theorem dX5_keys_34 : decode cX5_keys 34 = .ok (.iload 5, 2) := by decide +kernel
theorem dX5_keys_36 : decode cX5_keys 36 = .ok (.iconst 5, 1) := by decide +kernel
theorem dX5_keys_37 : decode cX5_keys 37 = .ok (.if_icmp .gt 67, 3) := by decide +kernel
theorem dX5_keys_40 : decode cX5_keys 40 = .ok (.iconst 0, 1) := by decide +kernel
theorem dX5_keys_41 : decode cX5_keys 41 = .ok (.istore 6, 2) := by decide +kernel
theorem dX5_keys_43 : decode cX5_keys 43 = .ok (.iload 6, 2) := by decide +kernel
theorem dX5_keys_45 : decode cX5_keys 45 = .ok (.iconst 5, 1) := by decide +kernel
theorem dX5_keys_46 : decode cX5_keys 46 = .ok (.if_icmp .gt 52, 3) := by decide +kernel
theorem dX5_keys_49 : decode cX5_keys 49 = .ok (.aload_n 0, 1) := by decide +kernel
theorem dX5_keys_50 : decode cX5_keys 50 = .ok (.getfield 21, 3) := by decide +kernel
theorem dX5_keys_53 : decode cX5_keys 53 = .ok (.aload_n 0, 1) := by decide +kernel
theorem dX5_keys_54 : decode cX5_keys 54 = .ok (.getfield 12, 3) := by decide +kernel
theorem dX5_keys_57 : decode cX5_keys 57 = .ok (.iload 5, 2) := by decide +kernel
theorem dX5_keys_59 : decode cX5_keys 59 = .ok (.iload 6, 2) := by decide +kernel
theorem dX5_keys_61 : decode cX5_keys 61 = .ok (.invokevirtual 179, 3) := by decide +kernel
theorem dX5_keys_64 : decode cX5_keys 64 = .ok (.ifCond .eq 28, 3) := by decide +kernel
theorem dX5_keys_67 : decode cX5_keys 67 = .ok (.iinc 2 1, 3) := by decide +kernel
theorem dX5_keys_70 : decode cX5_keys 70 = .ok (.iload 5, 2) := by decide +kernel
theorem dX5_keys_72 : decode cX5_keys 72 = .ok (.iload 6, 2) := by decide +kernel
theorem dX5_keys_74 : decode cX5_keys 74 = .ok (.invokestatic 121, 3) := by decide +kernel
theorem dX5_keys_77 : decode cX5_keys 77 = .ok (.istore 4, 2) := by decide +kernel
theorem dX5_keys_79 : decode cX5_keys 79 = .ok (.iload_n 3, 1) := by decide +kernel
theorem dX5_keys_80 : decode cX5_keys 80 = .ok (.bipush (-9), 2) := by decide +kernel
theorem dX5_keys_82 : decode cX5_keys 82 = .ok (.if_icmp .ne 8, 3) := by decide +kernel
theorem dX5_keys_85 : decode cX5_keys 85 = .ok (.iload 4, 2) := by decide +kernel
theorem dX5_keys_87 : decode cX5_keys 87 = .ok (.goto 4, 3) := by decide +kernel
theorem dX5_keys_90 : decode cX5_keys 90 = .ok (.iload_n 3, 1) := by decide +kernel
theorem dX5_keys_91 : decode cX5_keys 91 = .ok (.istore_n 3, 1) := by decide +kernel
theorem dX5_keys_92 : decode cX5_keys 92 = .ok (.iinc 6 1, 3) := by decide +kernel
theorem dX5_keys_95 : decode cX5_keys 95 = .ok (.goto (-52), 3) := by decide +kernel
theorem dX5_keys_98 : decode cX5_keys 98 = .ok (.iinc 5 1, 3) := by decide +kernel
theorem dX5_keys_101 : decode cX5_keys 101 = .ok (.goto (-67), 3) := by decide +kernel
theorem dX5_keys_104 : decode cX5_keys 104 = .ok (.iload_n 1, 1) := by decide +kernel
theorem dX5_keys_105 : decode cX5_keys 105 = .ok (.ifCond .ne 5, 3) := by decide +kernel
theorem dX5_keys_108 : decode cX5_keys 108 = .ok (.iload_n 2, 1) := by decide +kernel
theorem dX5_keys_109 : decode cX5_keys 109 = .ok (.ireturn, 1) := by decide +kernel
theorem dX5_keys_110 : decode cX5_keys 110 = .ok (.iload_n 1, 1) := by decide +kernel
theorem dX5_keys_111 : decode cX5_keys 111 = .ok (.iconst 1, 1) := by decide +kernel
theorem dX5_keys_112 : decode cX5_keys 112 = .ok (.if_icmp .ne 7, 3) := by decide +kernel
theorem dX5_keys_115 : decode cX5_keys 115 = .ok (.iload_n 3, 1) := by decide +kernel
theorem dX5_keys_116 : decode cX5_keys 116 = .ok (.goto 5, 3) := by decide +kernel
theorem dX5_keys_119 : decode cX5_keys 119 = .ok (.iload 4, 2) := by decide +kernel
theorem dX5_keys_121 : decode cX5_keys 121 = .ok (.ireturn, 1) := by decide +kernel
set_option maxRecDepth 20000 in
theorem ggX5_odds_X5_isKind : GoodIn wsX5_odds wsX5_isKind := goodIn_r _ [6] (by decide +kernel) (by decide +kernel)
set_option maxRecDepth 20000 in
theorem gX5_odds_X5_isKind : GoodIn wsX5_odds (va_wsS RX5 127 yX5_isKind wsX5_isKind) := goodIn_app (goodIn_of _ (by decide +kernel)) ggX5_odds_X5_isKind
set_option maxRecDepth 20000 in
theorem ggX5_odds_X5_isWish : GoodIn wsX5_odds wsX5_isWish := goodIn_r _ [9] (by decide +kernel) (by decide +kernel)
set_option maxRecDepth 20000 in
theorem gX5_odds_X5_isWish : GoodIn wsX5_odds (va_wsS RX5 124 yX5_isWish wsX5_isWish) := goodIn_app (goodIn_of _ (by decide +kernel)) ggX5_odds_X5_isWish
set_option maxRecDepth 20000 in
theorem ggX5_odds_X5_hasWell : GoodIn wsX5_odds wsX5_hasWell := goodIn_r _ [13, 2, 14, 30, 31, 32, 33, 34, 35, 36, 37, 38, 39, 40, 41, 42, 43] (by decide +kernel) (by decide +kernel)
set_option maxRecDepth 20000 in
theorem gX5_odds_X5_hasWell : GoodIn wsX5_odds (wsV RX5 111 RX5 yX5_hasWell wsX5_hasWell) := goodIn_app (goodIn_of _ (by decide +kernel)) ggX5_odds_X5_hasWell
set_option maxRecDepth 20000 in
theorem ggX5_odds_X4_wishNow : GoodIn wsX5_odds wsX4_wishNow := goodIn_r _ [19, 20, 21, 22, 23, 5, 24, 25, 26, 37, 38, 39, 40, 41, 42, 43] (by decide +kernel) (by decide +kernel)
set_option maxRecDepth 20000 in
theorem gX5_odds_X4_wishNow : GoodIn wsX5_odds (wsV RX5 156 RX4 yX4_wishNow wsX4_wishNow) := goodIn_app (goodIn_of _ (by decide +kernel)) ggX5_odds_X4_wishNow
set_option maxRecDepth 20000 in
theorem ggX5_odds_X5_greatestShared : GoodIn wsX5_odds wsX5_greatestShared := goodIn_r _ [29] (by decide +kernel) (by decide +kernel)
set_option maxRecDepth 20000 in
theorem gX5_odds_X5_greatestShared : GoodIn wsX5_odds (va_wsS RX5 184 yX5_greatestShared wsX5_greatestShared) := goodIn_app (goodIn_of _ (by decide +kernel)) ggX5_odds_X5_greatestShared
theorem dX5_odds_0 : decode cX5_odds 0 = .ok (.iload_n 1, 1) := by decide +kernel
theorem dX5_odds_1 : decode cX5_odds 1 = .ok (.invokestatic 127, 3) := by decide +kernel
theorem dX5_odds_4 : decode cX5_odds 4 = .ok (.ifCond .eq 26, 3) := by decide +kernel
theorem dX5_odds_7 : decode cX5_odds 7 = .ok (.iload_n 2, 1) := by decide +kernel
theorem dX5_odds_8 : decode cX5_odds 8 = .ok (.invokestatic 124, 3) := by decide +kernel
theorem dX5_odds_11 : decode cX5_odds 11 = .ok (.ifCond .eq 19, 3) := by decide +kernel
theorem dX5_odds_14 : decode cX5_odds 14 = .ok (.iload_n 3, 1) := by decide +kernel
theorem dX5_odds_15 : decode cX5_odds 15 = .ok (.ifCond .eq 8, 3) := by decide +kernel
theorem dX5_odds_18 : decode cX5_odds 18 = .ok (.iload_n 3, 1) := by decide +kernel
theorem dX5_odds_19 : decode cX5_odds 19 = .ok (.iconst 1, 1) := by decide +kernel
theorem dX5_odds_20 : decode cX5_odds 20 = .ok (.if_icmp .ne 10, 3) := by decide +kernel
theorem dX5_odds_23 : decode cX5_odds 23 = .ok (.aload_n 0, 1) := by decide +kernel
theorem dX5_odds_24 : decode cX5_odds 24 = .ok (.invokevirtual 111, 3) := by decide +kernel
theorem dX5_odds_27 : decode cX5_odds 27 = .ok (.ifCond .ne 7, 3) := by decide +kernel
theorem dX5_odds_30 : decode cX5_odds 30 = .ok (.ldc2_w 182, 3) := by decide +kernel
theorem dX5_odds_33 : decode cX5_odds 33 = .ok (.lreturn, 1) := by decide +kernel
theorem dX5_odds_34 : decode cX5_odds 34 = .ok (.iconst 0, 1) := by decide +kernel
theorem dX5_odds_35 : decode cX5_odds 35 = .ok (.istore 4, 2) := by decide +kernel
theorem dX5_odds_37 : decode cX5_odds 37 = .ok (.iconst 0, 1) := by decide +kernel
theorem dX5_odds_38 : decode cX5_odds 38 = .ok (.istore 5, 2) := by decide +kernel
theorem dX5_odds_40 : decode cX5_odds 40 = .ok (.iload 5, 2) := by decide +kernel
theorem dX5_odds_42 : decode cX5_odds 42 = .ok (.bipush 10, 2) := by decide +kernel
theorem dX5_odds_44 : decode cX5_odds 44 = .ok (.if_icmp .ge 26, 3) := by decide +kernel
theorem dX5_odds_47 : decode cX5_odds 47 = .ok (.aload_n 0, 1) := by decide +kernel
theorem dX5_odds_48 : decode cX5_odds 48 = .ok (.getfield 12, 3) := by decide +kernel
theorem dX5_odds_51 : decode cX5_odds 51 = .ok (.iload_n 1, 1) := by decide +kernel
theorem dX5_odds_52 : decode cX5_odds 52 = .ok (.iload 5, 2) := by decide +kernel
theorem dX5_odds_54 : decode cX5_odds 54 = .ok (.invokevirtual 156, 3) := by decide +kernel
theorem dX5_odds_57 : decode cX5_odds 57 = .ok (.iload_n 2, 1) := by decide +kernel
theorem dX5_odds_58 : decode cX5_odds 58 = .ok (.if_icmp .ne 6, 3) := by decide +kernel
theorem dX5_odds_61 : decode cX5_odds 61 = .ok (.iinc 4 1, 3) := by decide +kernel
theorem dX5_odds_64 : decode cX5_odds 64 = .ok (.iinc 5 1, 3) := by decide +kernel
theorem dX5_odds_67 : decode cX5_odds 67 = .ok (.goto (-27), 3) := by decide +kernel
theorem dX5_odds_70 : decode cX5_odds 70 = .ok (.iload 4, 2) := by decide +kernel
theorem dX5_odds_72 : decode cX5_odds 72 = .ok (.bipush 10, 2) := by decide +kernel
theorem dX5_odds_74 : decode cX5_odds 74 = .ok (.invokestatic 184, 3) := by decide +kernel
theorem dX5_odds_77 : decode cX5_odds 77 = .ok (.istore 5, 2) := by decide +kernel
theorem dX5_odds_79 : decode cX5_odds 79 = .ok (.iload_n 3, 1) := by decide +kernel
theorem dX5_odds_80 : decode cX5_odds 80 = .ok (.ifCond .ne 12, 3) := by decide +kernel
theorem dX5_odds_83 : decode cX5_odds 83 = .ok (.iload 4, 2) := by decide +kernel
theorem dX5_odds_85 : decode cX5_odds 85 = .ok (.iload 5, 2) := by decide +kernel
theorem dX5_odds_87 : decode cX5_odds 87 = .ok (.idiv, 1) := by decide +kernel
theorem dX5_odds_88 : decode cX5_odds 88 = .ok (.i2l, 1) := by decide +kernel
theorem dX5_odds_89 : decode cX5_odds 89 = .ok (.goto 9, 3) := by decide +kernel
theorem dX5_odds_92 : decode cX5_odds 92 = .ok (.bipush 10, 2) := by decide +kernel
theorem dX5_odds_94 : decode cX5_odds 94 = .ok (.iload 5, 2) := by decide +kernel
theorem dX5_odds_96 : decode cX5_odds 96 = .ok (.idiv, 1) := by decide +kernel
theorem dX5_odds_97 : decode cX5_odds 97 = .ok (.i2l, 1) := by decide +kernel
theorem dX5_odds_98 : decode cX5_odds 98 = .ok (.lreturn, 1) := by decide +kernel
set_option maxRecDepth 20000 in
theorem ggX5_sheet_X5_isSheet : GoodIn wsX5_sheet wsX5_isSheet := goodIn_r _ [6] (by decide +kernel) (by decide +kernel)
set_option maxRecDepth 20000 in
theorem gX5_sheet_X5_isSheet : GoodIn wsX5_sheet (va_wsS RX5 50 yX5_isSheet wsX5_isSheet) := goodIn_app (goodIn_of _ (by decide +kernel)) ggX5_sheet_X5_isSheet
set_option maxRecDepth 20000 in
theorem ggX5_sheet_X5_isLane : GoodIn wsX5_sheet wsX5_isLane := goodIn_r _ [9] (by decide +kernel) (by decide +kernel)
set_option maxRecDepth 20000 in
theorem gX5_sheet_X5_isLane : GoodIn wsX5_sheet (va_wsS RX5 54 yX5_isLane wsX5_isLane) := goodIn_app (goodIn_of _ (by decide +kernel)) ggX5_sheet_X5_isLane
set_option maxRecDepth 20000 in
theorem ggX5_sheet_X5_failed : GoodIn wsX5_sheet wsX5_failed := goodIn_r _ [13, 1, 29, 30, 31, 32, 33, 34, 35] (by decide +kernel) (by decide +kernel)
set_option maxRecDepth 20000 in
theorem gX5_sheet_X5_failed : GoodIn wsX5_sheet (wsV RX5 65 RX5 yX5_failed wsX5_failed) := goodIn_app (goodIn_of _ (by decide +kernel)) ggX5_sheet_X5_failed
set_option maxRecDepth 20000 in
theorem ggX5_sheet_X3_begin : GoodIn wsX5_sheet wsX3_begin := goodIn_r _ [18, 19, 20, 21, 22, 23, 24, 25, 26, 27, 28, 36, 37, 38] (by decide +kernel) (by decide +kernel)
set_option maxRecDepth 20000 in
theorem gX5_sheet_X3_begin : GoodIn wsX5_sheet (wsV RX5 187 RX3 yX3_begin wsX3_begin) := goodIn_app (goodIn_of _ (by decide +kernel)) ggX5_sheet_X3_begin
theorem dX5_sheet_0 : decode cX5_sheet 0 = .ok (.aload_n 0, 1) := by decide +kernel
theorem dX5_sheet_1 : decode cX5_sheet 1 = .ok (.iconst 0, 1) := by decide +kernel
theorem dX5_sheet_2 : decode cX5_sheet 2 = .ok (.putfield 46, 3) := by decide +kernel
theorem dX5_sheet_5 : decode cX5_sheet 5 = .ok (.iload_n 1, 1) := by decide +kernel
theorem dX5_sheet_6 : decode cX5_sheet 6 = .ok (.invokestatic 50, 3) := by decide +kernel
theorem dX5_sheet_9 : decode cX5_sheet 9 = .ok (.ifCond .ne 5, 3) := by decide +kernel
theorem dX5_sheet_12 : decode cX5_sheet 12 = .ok (.iconst (-1), 1) := by decide +kernel
theorem dX5_sheet_13 : decode cX5_sheet 13 = .ok (.ireturn, 1) := by decide +kernel
theorem dX5_sheet_14 : decode cX5_sheet 14 = .ok (.iload_n 2, 1) := by decide +kernel
theorem dX5_sheet_15 : decode cX5_sheet 15 = .ok (.invokestatic 54, 3) := by decide +kernel
theorem dX5_sheet_18 : decode cX5_sheet 18 = .ok (.ifCond .eq 9, 3) := by decide +kernel
theorem dX5_sheet_21 : decode cX5_sheet 21 = .ok (.iload_n 3, 1) := by decide +kernel
theorem dX5_sheet_22 : decode cX5_sheet 22 = .ok (.bipush 60, 2) := by decide +kernel
theorem dX5_sheet_24 : decode cX5_sheet 24 = .ok (.if_icmp .le 6, 3) := by decide +kernel
theorem dX5_sheet_27 : decode cX5_sheet 27 = .ok (.bipush (-2), 2) := by decide +kernel
theorem dX5_sheet_29 : decode cX5_sheet 29 = .ok (.ireturn, 1) := by decide +kernel
theorem dX5_sheet_30 : decode cX5_sheet 30 = .ok (.iload_n 3, 1) := by decide +kernel
theorem dX5_sheet_31 : decode cX5_sheet 31 = .ok (.ifCond .ge 9, 3) := by decide +kernel
theorem dX5_sheet_34 : decode cX5_sheet 34 = .ok (.aload_n 0, 1) := by decide +kernel
theorem dX5_sheet_35 : decode cX5_sheet 35 = .ok (.iconst 4, 1) := by decide +kernel
theorem dX5_sheet_36 : decode cX5_sheet 36 = .ok (.invokevirtual 65, 3) := by decide +kernel
theorem dX5_sheet_39 : decode cX5_sheet 39 = .ok (.ireturn, 1) := by decide +kernel
theorem dX5_sheet_40 : decode cX5_sheet 40 = .ok (.aload_n 0, 1) := by decide +kernel
theorem dX5_sheet_41 : decode cX5_sheet 41 = .ok (.getfield 41, 3) := by decide +kernel
theorem dX5_sheet_44 : decode cX5_sheet 44 = .ok (.iload_n 1, 1) := by decide +kernel
theorem dX5_sheet_45 : decode cX5_sheet 45 = .ok (.aaload, 1) := by decide +kernel
theorem dX5_sheet_46 : decode cX5_sheet 46 = .ok (.iload_n 2, 1) := by decide +kernel
theorem dX5_sheet_47 : decode cX5_sheet 47 = .ok (.iload_n 3, 1) := by decide +kernel
theorem dX5_sheet_48 : decode cX5_sheet 48 = .ok (.invokevirtual 187, 3) := by decide +kernel
theorem dX5_sheet_51 : decode cX5_sheet 51 = .ok (.iconst 1, 1) := by decide +kernel
theorem dX5_sheet_52 : decode cX5_sheet 52 = .ok (.ireturn, 1) := by decide +kernel
set_option maxRecDepth 20000 in
theorem ggX5_lose_X5_isSheet : GoodIn wsX5_lose wsX5_isSheet := goodIn_r _ [5] (by decide +kernel) (by decide +kernel)
set_option maxRecDepth 20000 in
theorem gX5_lose_X5_isSheet : GoodIn wsX5_lose (va_wsS RX5 50 yX5_isSheet wsX5_isSheet) := goodIn_app (goodIn_of _ (by decide +kernel)) ggX5_lose_X5_isSheet
set_option maxRecDepth 20000 in
theorem ggX5_lose_X3_hasRow : GoodIn wsX5_lose wsX3_hasRow := goodIn_r _ [10, 11, 24, 25, 26] (by decide +kernel) (by decide +kernel)
set_option maxRecDepth 20000 in
theorem gX5_lose_X3_hasRow : GoodIn wsX5_lose (wsV RX5 190 RX3 yX3_hasRow wsX3_hasRow) := goodIn_app (goodIn_of _ (by decide +kernel)) ggX5_lose_X3_hasRow
set_option maxRecDepth 20000 in
theorem ggX5_lose_X3_end : GoodIn wsX5_lose wsX3_end := goodIn_r _ [15, 11, 16, 24, 25, 26] (by decide +kernel) (by decide +kernel)
set_option maxRecDepth 20000 in
theorem gX5_lose_X3_end : GoodIn wsX5_lose (wsV RX5 193 RX3 yX3_end wsX3_end) := goodIn_app (goodIn_of _ (by decide +kernel)) ggX5_lose_X3_end
theorem dX5_lose_0 : decode cX5_lose 0 = .ok (.iload_n 1, 1) := by decide +kernel
theorem dX5_lose_1 : decode cX5_lose 1 = .ok (.invokestatic 50, 3) := by decide +kernel
theorem dX5_lose_4 : decode cX5_lose 4 = .ok (.ifCond .ne 5, 3) := by decide +kernel
theorem dX5_lose_7 : decode cX5_lose 7 = .ok (.iconst (-1), 1) := by decide +kernel
theorem dX5_lose_8 : decode cX5_lose 8 = .ok (.ireturn, 1) := by decide +kernel
theorem dX5_lose_9 : decode cX5_lose 9 = .ok (.aload_n 0, 1) := by decide +kernel
theorem dX5_lose_10 : decode cX5_lose 10 = .ok (.getfield 41, 3) := by decide +kernel
theorem dX5_lose_13 : decode cX5_lose 13 = .ok (.iload_n 1, 1) := by decide +kernel
theorem dX5_lose_14 : decode cX5_lose 14 = .ok (.aaload, 1) := by decide +kernel
theorem dX5_lose_15 : decode cX5_lose 15 = .ok (.invokevirtual 190, 3) := by decide +kernel
theorem dX5_lose_18 : decode cX5_lose 18 = .ok (.istore_n 2, 1) := by decide +kernel
theorem dX5_lose_19 : decode cX5_lose 19 = .ok (.aload_n 0, 1) := by decide +kernel
theorem dX5_lose_20 : decode cX5_lose 20 = .ok (.getfield 41, 3) := by decide +kernel
theorem dX5_lose_23 : decode cX5_lose 23 = .ok (.iload_n 1, 1) := by decide +kernel
theorem dX5_lose_24 : decode cX5_lose 24 = .ok (.aaload, 1) := by decide +kernel
theorem dX5_lose_25 : decode cX5_lose 25 = .ok (.invokevirtual 193, 3) := by decide +kernel
theorem dX5_lose_28 : decode cX5_lose 28 = .ok (.iload_n 2, 1) := by decide +kernel
theorem dX5_lose_29 : decode cX5_lose 29 = .ok (.ifCond .eq 7, 3) := by decide +kernel
theorem dX5_lose_32 : decode cX5_lose 32 = .ok (.iconst 1, 1) := by decide +kernel
theorem dX5_lose_33 : decode cX5_lose 33 = .ok (.goto 4, 3) := by decide +kernel
theorem dX5_lose_36 : decode cX5_lose 36 = .ok (.iconst 0, 1) := by decide +kernel
theorem dX5_lose_37 : decode cX5_lose 37 = .ok (.ireturn, 1) := by decide +kernel
set_option maxRecDepth 20000 in
theorem ggX5_put_X5_isSheet : GoodIn wsX5_put wsX5_isSheet := goodIn_r _ [6] (by decide +kernel) (by decide +kernel)
set_option maxRecDepth 20000 in
theorem gX5_put_X5_isSheet : GoodIn wsX5_put (va_wsS RX5 50 yX5_isSheet wsX5_isSheet) := goodIn_app (goodIn_of _ (by decide +kernel)) ggX5_put_X5_isSheet
set_option maxRecDepth 20000 in
theorem ggX5_put_X3_hasRow : GoodIn wsX5_put wsX3_hasRow := goodIn_r _ [11, 12, 35, 36, 37] (by decide +kernel) (by decide +kernel)
set_option maxRecDepth 20000 in
theorem gX5_put_X3_hasRow : GoodIn wsX5_put (wsV RX5 190 RX3 yX3_hasRow wsX3_hasRow) := goodIn_app (goodIn_of _ (by decide +kernel)) ggX5_put_X3_hasRow
set_option maxRecDepth 20000 in
theorem ggX5_put_X5_failed : GoodIn wsX5_put wsX5_failed := goodIn_r _ [16, 1, 28, 29, 30, 31, 32, 33, 34] (by decide +kernel) (by decide +kernel)
set_option maxRecDepth 20000 in
theorem gX5_put_X5_failed : GoodIn wsX5_put (wsV RX5 65 RX5 yX5_failed wsX5_failed) := goodIn_app (goodIn_of _ (by decide +kernel)) ggX5_put_X5_failed
set_option maxRecDepth 20000 in
theorem ggX5_put_X3_hasCells : GoodIn wsX5_put wsX3_hasCells := goodIn_r _ [20, 21, 35, 36, 37] (by decide +kernel) (by decide +kernel)
set_option maxRecDepth 20000 in
theorem gX5_put_X3_hasCells : GoodIn wsX5_put (wsV RX5 61 RX3 yX3_hasCells wsX3_hasCells) := goodIn_app (goodIn_of _ (by decide +kernel)) ggX5_put_X3_hasCells
set_option maxRecDepth 20000 in
theorem ggX5_put_X3_set : GoodIn wsX5_put wsX3_set := goodIn_r _ [25, 12, 26, 27, 18, 19, 10, 20, 21, 35, 36, 37] (by decide +kernel) (by decide +kernel)
set_option maxRecDepth 20000 in
theorem gX5_put_X3_set : GoodIn wsX5_put (wsV RX5 196 RX3 yX3_set wsX3_set) := goodIn_app (goodIn_of _ (by decide +kernel)) ggX5_put_X3_set
theorem dX5_put_0 : decode cX5_put 0 = .ok (.aload_n 0, 1) := by decide +kernel
theorem dX5_put_1 : decode cX5_put 1 = .ok (.iconst 0, 1) := by decide +kernel
theorem dX5_put_2 : decode cX5_put 2 = .ok (.putfield 46, 3) := by decide +kernel
theorem dX5_put_5 : decode cX5_put 5 = .ok (.iload_n 1, 1) := by decide +kernel
theorem dX5_put_6 : decode cX5_put 6 = .ok (.invokestatic 50, 3) := by decide +kernel
theorem dX5_put_9 : decode cX5_put 9 = .ok (.ifCond .ne 5, 3) := by decide +kernel
theorem dX5_put_12 : decode cX5_put 12 = .ok (.iconst (-1), 1) := by decide +kernel
theorem dX5_put_13 : decode cX5_put 13 = .ok (.ireturn, 1) := by decide +kernel
theorem dX5_put_14 : decode cX5_put 14 = .ok (.aload_n 0, 1) := by decide +kernel
theorem dX5_put_15 : decode cX5_put 15 = .ok (.getfield 41, 3) := by decide +kernel
theorem dX5_put_18 : decode cX5_put 18 = .ok (.iload_n 1, 1) := by decide +kernel
theorem dX5_put_19 : decode cX5_put 19 = .ok (.aaload, 1) := by decide +kernel
theorem dX5_put_20 : decode cX5_put 20 = .ok (.astore 4, 2) := by decide +kernel
theorem dX5_put_22 : decode cX5_put 22 = .ok (.aload 4, 2) := by decide +kernel
theorem dX5_put_24 : decode cX5_put 24 = .ok (.invokevirtual 190, 3) := by decide +kernel
theorem dX5_put_27 : decode cX5_put 27 = .ok (.ifCond .ne 9, 3) := by decide +kernel
theorem dX5_put_30 : decode cX5_put 30 = .ok (.aload_n 0, 1) := by decide +kernel
theorem dX5_put_31 : decode cX5_put 31 = .ok (.iconst 1, 1) := by decide +kernel
theorem dX5_put_32 : decode cX5_put 32 = .ok (.invokevirtual 65, 3) := by decide +kernel
theorem dX5_put_35 : decode cX5_put 35 = .ok (.ireturn, 1) := by decide +kernel
theorem dX5_put_36 : decode cX5_put 36 = .ok (.aload 4, 2) := by decide +kernel
theorem dX5_put_38 : decode cX5_put 38 = .ok (.iload_n 2, 1) := by decide +kernel
theorem dX5_put_39 : decode cX5_put 39 = .ok (.iconst 1, 1) := by decide +kernel
theorem dX5_put_40 : decode cX5_put 40 = .ok (.invokevirtual 61, 3) := by decide +kernel
theorem dX5_put_43 : decode cX5_put 43 = .ok (.ifCond .ne 9, 3) := by decide +kernel
theorem dX5_put_46 : decode cX5_put 46 = .ok (.aload_n 0, 1) := by decide +kernel
theorem dX5_put_47 : decode cX5_put 47 = .ok (.iconst 3, 1) := by decide +kernel
theorem dX5_put_48 : decode cX5_put 48 = .ok (.invokevirtual 65, 3) := by decide +kernel
theorem dX5_put_51 : decode cX5_put 51 = .ok (.ireturn, 1) := by decide +kernel
theorem dX5_put_52 : decode cX5_put 52 = .ok (.aload 4, 2) := by decide +kernel
theorem dX5_put_54 : decode cX5_put 54 = .ok (.iload_n 2, 1) := by decide +kernel
theorem dX5_put_55 : decode cX5_put 55 = .ok (.iload_n 3, 1) := by decide +kernel
theorem dX5_put_56 : decode cX5_put 56 = .ok (.invokevirtual 196, 3) := by decide +kernel
theorem dX5_put_59 : decode cX5_put 59 = .ok (.iconst 1, 1) := by decide +kernel
theorem dX5_put_60 : decode cX5_put 60 = .ok (.ireturn, 1) := by decide +kernel
set_option maxRecDepth 20000 in
theorem ggX5_cell_X5_isSheet : GoodIn wsX5_cell wsX5_isSheet := goodIn_r _ [7] (by decide +kernel) (by decide +kernel)
set_option maxRecDepth 20000 in
theorem gX5_cell_X5_isSheet : GoodIn wsX5_cell (va_wsS RX5 50 yX5_isSheet wsX5_isSheet) := goodIn_app (goodIn_of _ (by decide +kernel)) ggX5_cell_X5_isSheet
set_option maxRecDepth 20000 in
theorem ggX5_cell_X5_isLane : GoodIn wsX5_cell wsX5_isLane := goodIn_r _ [10] (by decide +kernel) (by decide +kernel)
set_option maxRecDepth 20000 in
theorem gX5_cell_X5_isLane : GoodIn wsX5_cell (va_wsS RX5 54 yX5_isLane wsX5_isLane) := goodIn_app (goodIn_of _ (by decide +kernel)) ggX5_cell_X5_isLane
set_option maxRecDepth 20000 in
theorem ggX5_cell_X3_faultOfCells : GoodIn wsX5_cell wsX3_faultOfCells := goodIn_r _ [15, 16, 17, 18, 14, 19, 20, 21, 22, 23, 24, 25, 26, 27, 28, 29, 42, 43, 44] (by decide +kernel) (by decide +kernel)
set_option maxRecDepth 20000 in
theorem gX5_cell_X3_faultOfCells : GoodIn wsX5_cell (wsV RX5 139 RX3 yX3_faultOfCells wsX3_faultOfCells) := goodIn_app (goodIn_of _ (by decide +kernel)) ggX5_cell_X3_faultOfCells
set_option maxRecDepth 20000 in
theorem ggX5_cell_X3_at : GoodIn wsX5_cell wsX3_at := goodIn_r _ [33, 34, 25, 26, 27, 14, 28, 29, 42, 43, 44] (by decide +kernel) (by decide +kernel)
set_option maxRecDepth 20000 in
theorem gX5_cell_X3_at : GoodIn wsX5_cell (wsV RX5 143 RX3 yX3_at wsX3_at) := goodIn_app (goodIn_of _ (by decide +kernel)) ggX5_cell_X3_at
theorem dX5_cell_0 : decode cX5_cell 0 = .ok (.aload_n 0, 1) := by decide +kernel
theorem dX5_cell_1 : decode cX5_cell 1 = .ok (.iconst 0, 1) := by decide +kernel
theorem dX5_cell_2 : decode cX5_cell 2 = .ok (.putfield 46, 3) := by decide +kernel
theorem dX5_cell_5 : decode cX5_cell 5 = .ok (.iload_n 1, 1) := by decide +kernel
theorem dX5_cell_6 : decode cX5_cell 6 = .ok (.invokestatic 50, 3) := by decide +kernel
theorem dX5_cell_9 : decode cX5_cell 9 = .ok (.ifCond .eq 10, 3) := by decide +kernel
theorem dX5_cell_12 : decode cX5_cell 12 = .ok (.iload_n 3, 1) := by decide +kernel
theorem dX5_cell_13 : decode cX5_cell 13 = .ok (.invokestatic 54, 3) := by decide +kernel
theorem dX5_cell_16 : decode cX5_cell 16 = .ok (.ifCond .ne 7, 3) := by decide +kernel
theorem dX5_cell_19 : decode cX5_cell 19 = .ok (.ldc2_w 182, 3) := by decide +kernel
theorem dX5_cell_22 : decode cX5_cell 22 = .ok (.lreturn, 1) := by decide +kernel
theorem dX5_cell_23 : decode cX5_cell 23 = .ok (.aload_n 0, 1) := by decide +kernel
theorem dX5_cell_24 : decode cX5_cell 24 = .ok (.getfield 41, 3) := by decide +kernel
theorem dX5_cell_27 : decode cX5_cell 27 = .ok (.iload_n 1, 1) := by decide +kernel
theorem dX5_cell_28 : decode cX5_cell 28 = .ok (.aaload, 1) := by decide +kernel
theorem dX5_cell_29 : decode cX5_cell 29 = .ok (.astore 4, 2) := by decide +kernel
theorem dX5_cell_31 : decode cX5_cell 31 = .ok (.aload 4, 2) := by decide +kernel
theorem dX5_cell_33 : decode cX5_cell 33 = .ok (.iload_n 3, 1) := by decide +kernel
theorem dX5_cell_34 : decode cX5_cell 34 = .ok (.iload_n 2, 1) := by decide +kernel
theorem dX5_cell_35 : decode cX5_cell 35 = .ok (.iconst 1, 1) := by decide +kernel
theorem dX5_cell_36 : decode cX5_cell 36 = .ok (.invokevirtual 139, 3) := by decide +kernel
theorem dX5_cell_39 : decode cX5_cell 39 = .ok (.istore 5, 2) := by decide +kernel
theorem dX5_cell_41 : decode cX5_cell 41 = .ok (.iload 5, 2) := by decide +kernel
theorem dX5_cell_43 : decode cX5_cell 43 = .ok (.ifCond .eq 13, 3) := by decide +kernel
theorem dX5_cell_46 : decode cX5_cell 46 = .ok (.aload_n 0, 1) := by decide +kernel
theorem dX5_cell_47 : decode cX5_cell 47 = .ok (.iload 5, 2) := by decide +kernel
theorem dX5_cell_49 : decode cX5_cell 49 = .ok (.putfield 46, 3) := by decide +kernel
theorem dX5_cell_52 : decode cX5_cell 52 = .ok (.ldc2_w 182, 3) := by decide +kernel
theorem dX5_cell_55 : decode cX5_cell 55 = .ok (.lreturn, 1) := by decide +kernel
theorem dX5_cell_56 : decode cX5_cell 56 = .ok (.aload 4, 2) := by decide +kernel
theorem dX5_cell_58 : decode cX5_cell 58 = .ok (.iload_n 2, 1) := by decide +kernel
theorem dX5_cell_59 : decode cX5_cell 59 = .ok (.invokevirtual 143, 3) := by decide +kernel
theorem dX5_cell_62 : decode cX5_cell 62 = .ok (.i2l, 1) := by decide +kernel
theorem dX5_cell_63 : decode cX5_cell 63 = .ok (.lreturn, 1) := by decide +kernel
set_option maxRecDepth 20000 in
theorem ggX5_copy_X5_isSheet : GoodIn wsX5_copy wsX5_isSheet := goodIn_r _ [12] (by decide +kernel) (by decide +kernel)
set_option maxRecDepth 20000 in
theorem gX5_copy_X5_isSheet : GoodIn wsX5_copy (va_wsS RX5 50 yX5_isSheet wsX5_isSheet) := goodIn_app (goodIn_of _ (by decide +kernel)) ggX5_copy_X5_isSheet
set_option maxRecDepth 20000 in
theorem ggX5_copy_X3_hasRow : GoodIn wsX5_copy wsX3_hasRow := goodIn_r _ [17, 18, 35, 36, 37] (by decide +kernel) (by decide +kernel)
set_option maxRecDepth 20000 in
theorem gX5_copy_X3_hasRow : GoodIn wsX5_copy (wsV RX5 190 RX3 yX3_hasRow wsX3_hasRow) := goodIn_app (goodIn_of _ (by decide +kernel)) ggX5_copy_X3_hasRow
set_option maxRecDepth 20000 in
theorem ggX5_copy_X5_failed : GoodIn wsX5_copy wsX5_failed := goodIn_r _ [22, 1, 28, 29, 30, 31, 32, 33, 34] (by decide +kernel) (by decide +kernel)
set_option maxRecDepth 20000 in
theorem gX5_copy_X5_failed : GoodIn wsX5_copy (wsV RX5 65 RX5 yX5_failed wsX5_failed) := goodIn_app (goodIn_of _ (by decide +kernel)) ggX5_copy_X5_failed
set_option maxRecDepth 20000 in
theorem ggX5_copy_X3_hasCells : GoodIn wsX5_copy wsX3_hasCells := goodIn_r _ [26, 27, 35, 36, 37] (by decide +kernel) (by decide +kernel)
set_option maxRecDepth 20000 in
theorem gX5_copy_X3_hasCells : GoodIn wsX5_copy (wsV RX5 61 RX3 yX3_hasCells wsX3_hasCells) := goodIn_app (goodIn_of _ (by decide +kernel)) ggX5_copy_X3_hasCells
theorem dX5_copy_0 : decode cX5_copy 0 = .ok (.aload_n 0, 1) := by decide +kernel
theorem dX5_copy_1 : decode cX5_copy 1 = .ok (.iconst 0, 1) := by decide +kernel
theorem dX5_copy_2 : decode cX5_copy 2 = .ok (.putfield 46, 3) := by decide +kernel
theorem dX5_copy_5 : decode cX5_copy 5 = .ok (.iload_n 1, 1) := by decide +kernel
theorem dX5_copy_6 : decode cX5_copy 6 = .ok (.invokestatic 50, 3) := by decide +kernel
theorem dX5_copy_9 : decode cX5_copy 9 = .ok (.ifCond .eq 10, 3) := by decide +kernel
theorem dX5_copy_12 : decode cX5_copy 12 = .ok (.iload_n 3, 1) := by decide +kernel
theorem dX5_copy_13 : decode cX5_copy 13 = .ok (.invokestatic 50, 3) := by decide +kernel
theorem dX5_copy_16 : decode cX5_copy 16 = .ok (.ifCond .ne 5, 3) := by decide +kernel
theorem dX5_copy_19 : decode cX5_copy 19 = .ok (.iconst (-1), 1) := by decide +kernel
theorem dX5_copy_20 : decode cX5_copy 20 = .ok (.ireturn, 1) := by decide +kernel
theorem dX5_copy_21 : decode cX5_copy 21 = .ok (.aload_n 0, 1) := by decide +kernel
theorem dX5_copy_22 : decode cX5_copy 22 = .ok (.getfield 41, 3) := by decide +kernel
theorem dX5_copy_25 : decode cX5_copy 25 = .ok (.iload_n 1, 1) := by decide +kernel
theorem dX5_copy_26 : decode cX5_copy 26 = .ok (.aaload, 1) := by decide +kernel
theorem dX5_copy_27 : decode cX5_copy 27 = .ok (.astore 6, 2) := by decide +kernel
theorem dX5_copy_29 : decode cX5_copy 29 = .ok (.aload_n 0, 1) := by decide +kernel
theorem dX5_copy_30 : decode cX5_copy 30 = .ok (.getfield 41, 3) := by decide +kernel
theorem dX5_copy_33 : decode cX5_copy 33 = .ok (.iload_n 3, 1) := by decide +kernel
theorem dX5_copy_34 : decode cX5_copy 34 = .ok (.aaload, 1) := by decide +kernel
theorem dX5_copy_35 : decode cX5_copy 35 = .ok (.astore 7, 2) := by decide +kernel
theorem dX5_copy_37 : decode cX5_copy 37 = .ok (.aload 6, 2) := by decide +kernel
theorem dX5_copy_39 : decode cX5_copy 39 = .ok (.invokevirtual 190, 3) := by decide +kernel
theorem dX5_copy_42 : decode cX5_copy 42 = .ok (.ifCond .eq 11, 3) := by decide +kernel
theorem dX5_copy_45 : decode cX5_copy 45 = .ok (.aload 7, 2) := by decide +kernel
theorem dX5_copy_47 : decode cX5_copy 47 = .ok (.invokevirtual 190, 3) := by decide +kernel
theorem dX5_copy_50 : decode cX5_copy 50 = .ok (.ifCond .ne 9, 3) := by decide +kernel
theorem dX5_copy_53 : decode cX5_copy 53 = .ok (.aload_n 0, 1) := by decide +kernel
theorem dX5_copy_54 : decode cX5_copy 54 = .ok (.iconst 1, 1) := by decide +kernel
theorem dX5_copy_55 : decode cX5_copy 55 = .ok (.invokevirtual 65, 3) := by decide +kernel
theorem dX5_copy_58 : decode cX5_copy 58 = .ok (.ireturn, 1) := by decide +kernel
theorem dX5_copy_59 : decode cX5_copy 59 = .ok (.aload 6, 2) := by decide +kernel
theorem dX5_copy_61 : decode cX5_copy 61 = .ok (.getfield 199, 3) := by decide +kernel
theorem dX5_copy_64 : decode cX5_copy 64 = .ok (.aload 7, 2) := by decide +kernel
theorem dX5_copy_66 : decode cX5_copy 66 = .ok (.getfield 199, 3) := by decide +kernel
theorem dX5_copy_69 : decode cX5_copy 69 = .ok (.if_icmp .eq 9, 3) := by decide +kernel
theorem dX5_copy_72 : decode cX5_copy 72 = .ok (.aload_n 0, 1) := by decide +kernel
theorem dX5_copy_73 : decode cX5_copy 73 = .ok (.iconst 2, 1) := by decide +kernel
theorem dX5_copy_74 : decode cX5_copy 74 = .ok (.invokevirtual 65, 3) := by decide +kernel
theorem dX5_copy_77 : decode cX5_copy 77 = .ok (.ireturn, 1) := by decide +kernel
theorem dX5_copy_78 : decode cX5_copy 78 = .ok (.aload 6, 2) := by decide +kernel
theorem dX5_copy_80 : decode cX5_copy 80 = .ok (.iload_n 2, 1) := by decide +kernel
theorem dX5_copy_81 : decode cX5_copy 81 = .ok (.iload 5, 2) := by decide +kernel
theorem dX5_copy_83 : decode cX5_copy 83 = .ok (.invokevirtual 61, 3) := by decide +kernel
theorem dX5_copy_86 : decode cX5_copy 86 = .ok (.ifCond .eq 15, 3) := by decide +kernel
theorem dX5_copy_89 : decode cX5_copy 89 = .ok (.aload 7, 2) := by decide +kernel
theorem dX5_copy_91 : decode cX5_copy 91 = .ok (.iload 4, 2) := by decide +kernel
theorem dX5_copy_93 : decode cX5_copy 93 = .ok (.iload 5, 2) := by decide +kernel
theorem dX5_copy_95 : decode cX5_copy 95 = .ok (.invokevirtual 61, 3) := by decide +kernel
theorem dX5_copy_98 : decode cX5_copy 98 = .ok (.ifCond .ne 9, 3) := by decide +kernel
theorem dX5_copy_101 : decode cX5_copy 101 = .ok (.aload_n 0, 1) := by decide +kernel
theorem dX5_copy_102 : decode cX5_copy 102 = .ok (.iconst 3, 1) := by decide +kernel
theorem dX5_copy_103 : decode cX5_copy 103 = .ok (.invokevirtual 65, 3) := by decide +kernel
theorem dX5_copy_106 : decode cX5_copy 106 = .ok (.ireturn, 1) := by decide +kernel
theorem dX5_copy_107 : decode cX5_copy 107 = .ok (.aload 6, 2) := by decide +kernel
theorem dX5_copy_109 : decode cX5_copy 109 = .ok (.getfield 202, 3) := by decide +kernel
theorem dX5_copy_112 : decode cX5_copy 112 = .ok (.iload_n 2, 1) := by decide +kernel
theorem dX5_copy_113 : decode cX5_copy 113 = .ok (.aload 7, 2) := by decide +kernel
theorem dX5_copy_115 : decode cX5_copy 115 = .ok (.getfield 202, 3) := by decide +kernel
theorem dX5_copy_118 : decode cX5_copy 118 = .ok (.iload 4, 2) := by decide +kernel
theorem dX5_copy_120 : decode cX5_copy 120 = .ok (.iload 5, 2) := by decide +kernel
theorem dX5_copy_122 : decode cX5_copy 122 = .ok (.invokestatic 206, 3) := by decide +kernel
theorem dX5_copy_125 : decode cX5_copy 125 = .ok (.iload 5, 2) := by decide +kernel
theorem dX5_copy_127 : decode cX5_copy 127 = .ok (.ireturn, 1) := by decide +kernel
set_option maxRecDepth 20000 in
theorem ggX5_tell_X4_isPin : GoodIn wsX5_tell wsX4_isPin := goodIn_r _ [6, 7, 44, 45, 46, 47, 48, 49, 50] (by decide +kernel) (by decide +kernel)
set_option maxRecDepth 20000 in
theorem gX5_tell_X4_isPin : GoodIn wsX5_tell (wsV RX5 82 RX4 yX4_isPin wsX4_isPin) := goodIn_app (goodIn_of _ (by decide +kernel)) ggX5_tell_X4_isPin
set_option maxRecDepth 20000 in
theorem ggX5_tell_X4_bendAt : GoodIn wsX5_tell wsX4_bendAt := goodIn_r _ [11, 12, 13, 3, 4, 5, 6, 7, 44, 45, 46, 47, 48, 49, 50] (by decide +kernel) (by decide +kernel)
set_option maxRecDepth 20000 in
theorem gX5_tell_X4_bendAt : GoodIn wsX5_tell (wsV RX5 88 RX4 yX4_bendAt wsX4_bendAt) := goodIn_app (goodIn_of _ (by decide +kernel)) ggX5_tell_X4_bendAt
set_option maxRecDepth 20000 in
theorem ggX5_tell_X4_kindAt : GoodIn wsX5_tell wsX4_kindAt := goodIn_r _ [17, 18, 13, 3, 4, 5, 6, 7, 44, 45, 46, 47, 48, 49, 50] (by decide +kernel) (by decide +kernel)
set_option maxRecDepth 20000 in
theorem gX5_tell_X4_kindAt : GoodIn wsX5_tell (wsV RX5 85 RX4 yX4_kindAt wsX4_kindAt) := goodIn_app (goodIn_of _ (by decide +kernel)) ggX5_tell_X4_kindAt
set_option maxRecDepth 20000 in
theorem ggX5_tell_X5_tellPlain : GoodIn wsX5_tell wsX5_tellPlain := goodIn_r _ [23, 24, 25, 26, 22, 27, 28, 37, 38, 39, 40, 41, 42, 43] (by decide +kernel) (by decide +kernel)
set_option maxRecDepth 20000 in
theorem gX5_tell_X5_tellPlain : GoodIn wsX5_tell (wsV RX5 212 RX5 yX5_tellPlain wsX5_tellPlain) := goodIn_app (goodIn_of _ (by decide +kernel)) ggX5_tell_X5_tellPlain
set_option maxRecDepth 20000 in
theorem ggX5_tell_X5_tellCrook : GoodIn wsX5_tell wsX5_tellCrook := goodIn_r _ [32, 24, 25, 26, 22, 27, 28, 19, 20, 21, 23, 37, 38, 39, 40, 41, 42, 43] (by decide +kernel) (by decide +kernel)
set_option maxRecDepth 20000 in
theorem gX5_tell_X5_tellCrook : GoodIn wsX5_tell (wsV RX5 215 RX5 yX5_tellCrook wsX5_tellCrook) := goodIn_app (goodIn_of _ (by decide +kernel)) ggX5_tell_X5_tellCrook
set_option maxRecDepth 20000 in
theorem ggX5_tell_X5_tellDouble : GoodIn wsX5_tell wsX5_tellDouble := goodIn_r _ [36, 24, 25, 26, 22, 27, 28, 29, 30, 31, 32, 19, 20, 21, 23, 37, 38, 39, 40, 41, 42, 43] (by decide +kernel) (by decide +kernel)
set_option maxRecDepth 20000 in
theorem gX5_tell_X5_tellDouble : GoodIn wsX5_tell (wsV RX5 218 RX5 yX5_tellDouble wsX5_tellDouble) := goodIn_app (goodIn_of _ (by decide +kernel)) ggX5_tell_X5_tellDouble
theorem dX5_tell_0 : decode cX5_tell 0 = .ok (.aload_n 0, 1) := by decide +kernel
theorem dX5_tell_1 : decode cX5_tell 1 = .ok (.getfield 12, 3) := by decide +kernel
theorem dX5_tell_4 : decode cX5_tell 4 = .ok (.iload_n 1, 1) := by decide +kernel
theorem dX5_tell_5 : decode cX5_tell 5 = .ok (.invokevirtual 82, 3) := by decide +kernel
theorem dX5_tell_8 : decode cX5_tell 8 = .ok (.ifCond .ne 5, 3) := by decide +kernel
theorem dX5_tell_11 : decode cX5_tell 11 = .ok (.iconst (-1), 1) := by decide +kernel
theorem dX5_tell_12 : decode cX5_tell 12 = .ok (.ireturn, 1) := by decide +kernel
theorem dX5_tell_13 : decode cX5_tell 13 = .ok (.aload_n 0, 1) := by decide +kernel
theorem dX5_tell_14 : decode cX5_tell 14 = .ok (.getfield 12, 3) := by decide +kernel
theorem dX5_tell_17 : decode cX5_tell 17 = .ok (.iload_n 1, 1) := by decide +kernel
theorem dX5_tell_18 : decode cX5_tell 18 = .ok (.invokevirtual 88, 3) := by decide +kernel
theorem dX5_tell_21 : decode cX5_tell 21 = .ok (.istore_n 2, 1) := by decide +kernel
theorem dX5_tell_22 : decode cX5_tell 22 = .ok (.aload_n 0, 1) := by decide +kernel
theorem dX5_tell_23 : decode cX5_tell 23 = .ok (.getfield 12, 3) := by decide +kernel
theorem dX5_tell_26 : decode cX5_tell 26 = .ok (.iload_n 1, 1) := by decide +kernel
theorem dX5_tell_27 : decode cX5_tell 27 = .ok (.invokevirtual 85, 3) := by decide +kernel
theorem dX5_tell_30 : decode cX5_tell 30 = .ok (.lookupswitch 38 #[(0, 26), (1, 32)], 26) := by decide +kernel
theorem dX5_tell_56 : decode cX5_tell 56 = .ok (.aload_n 0, 1) := by decide +kernel
theorem dX5_tell_57 : decode cX5_tell 57 = .ok (.iload_n 2, 1) := by decide +kernel
theorem dX5_tell_58 : decode cX5_tell 58 = .ok (.invokevirtual 212, 3) := by decide +kernel
theorem dX5_tell_61 : decode cX5_tell 61 = .ok (.ireturn, 1) := by decide +kernel
theorem dX5_tell_62 : decode cX5_tell 62 = .ok (.aload_n 0, 1) := by decide +kernel
theorem dX5_tell_63 : decode cX5_tell 63 = .ok (.iload_n 2, 1) := by decide +kernel
theorem dX5_tell_64 : decode cX5_tell 64 = .ok (.invokevirtual 215, 3) := by decide +kernel
theorem dX5_tell_67 : decode cX5_tell 67 = .ok (.ireturn, 1) := by decide +kernel
theorem dX5_tell_68 : decode cX5_tell 68 = .ok (.aload_n 0, 1) := by decide +kernel
theorem dX5_tell_69 : decode cX5_tell 69 = .ok (.iload_n 2, 1) := by decide +kernel
theorem dX5_tell_70 : decode cX5_tell 70 = .ok (.invokevirtual 218, 3) := by decide +kernel
theorem dX5_tell_73 : decode cX5_tell 73 = .ok (.ireturn, 1) := by decide +kernel
set_option maxRecDepth 20000 in
theorem ggX5_splash_X4_isPin : GoodIn wsX5_splash wsX4_isPin := goodIn_r _ [6, 7, 27, 28, 29, 30, 31, 32, 33] (by decide +kernel) (by decide +kernel)
set_option maxRecDepth 20000 in
theorem gX5_splash_X4_isPin : GoodIn wsX5_splash (wsV RX5 82 RX4 yX4_isPin wsX4_isPin) := goodIn_app (goodIn_of _ (by decide +kernel)) ggX5_splash_X4_isPin
set_option maxRecDepth 20000 in
theorem ggX5_splash_X4_kindAt : GoodIn wsX5_splash wsX4_kindAt := goodIn_r _ [11, 12, 13, 3, 4, 5, 6, 7, 27, 28, 29, 30, 31, 32, 33] (by decide +kernel) (by decide +kernel)
set_option maxRecDepth 20000 in
theorem gX5_splash_X4_kindAt : GoodIn wsX5_splash (wsV RX5 85 RX4 yX4_kindAt wsX4_kindAt) := goodIn_app (goodIn_of _ (by decide +kernel)) ggX5_splash_X4_kindAt
set_option maxRecDepth 20000 in
theorem ggX5_splash_X5_beginBody : GoodIn wsX5_splash wsX5_beginBody := goodIn_r _ [18, 19, 20, 21, 22, 23, 24, 25, 26] (by decide +kernel) (by decide +kernel)
set_option maxRecDepth 20000 in
theorem gX5_splash_X5_beginBody : GoodIn wsX5_splash (wsV RX5 221 RX5 yX5_beginBody wsX5_beginBody) := goodIn_app (goodIn_of _ (by decide +kernel)) ggX5_splash_X5_beginBody
theorem dX5_splash_0 : decode cX5_splash 0 = .ok (.aload_n 0, 1) := by decide +kernel
theorem dX5_splash_1 : decode cX5_splash 1 = .ok (.getfield 12, 3) := by decide +kernel
theorem dX5_splash_4 : decode cX5_splash 4 = .ok (.iload_n 1, 1) := by decide +kernel
theorem dX5_splash_5 : decode cX5_splash 5 = .ok (.invokevirtual 82, 3) := by decide +kernel
theorem dX5_splash_8 : decode cX5_splash 8 = .ok (.ifCond .ne 5, 3) := by decide +kernel
theorem dX5_splash_11 : decode cX5_splash 11 = .ok (.iconst (-1), 1) := by decide +kernel
theorem dX5_splash_12 : decode cX5_splash 12 = .ok (.ireturn, 1) := by decide +kernel
theorem dX5_splash_13 : decode cX5_splash 13 = .ok (.aload_n 0, 1) := by decide +kernel
theorem dX5_splash_14 : decode cX5_splash 14 = .ok (.getfield 12, 3) := by decide +kernel
theorem dX5_splash_17 : decode cX5_splash 17 = .ok (.iload_n 1, 1) := by decide +kernel
theorem dX5_splash_18 : decode cX5_splash 18 = .ok (.invokevirtual 85, 3) := by decide +kernel
theorem dX5_splash_21 : decode cX5_splash 21 = .ok (.iconst 2, 1) := by decide +kernel
theorem dX5_splash_22 : decode cX5_splash 22 = .ok (.if_icmp .ne 11, 3) := by decide +kernel
theorem dX5_splash_25 : decode cX5_splash 25 = .ok (.aload_n 0, 1) := by decide +kernel
theorem dX5_splash_26 : decode cX5_splash 26 = .ok (.iconst 5, 1) := by decide +kernel
theorem dX5_splash_27 : decode cX5_splash 27 = .ok (.invokevirtual 221, 3) := by decide +kernel
theorem dX5_splash_30 : decode cX5_splash 30 = .ok (.bipush 50, 2) := by decide +kernel
theorem dX5_splash_32 : decode cX5_splash 32 = .ok (.ireturn, 1) := by decide +kernel
theorem dX5_splash_33 : decode cX5_splash 33 = .ok (.aload_n 0, 1) := by decide +kernel
theorem dX5_splash_34 : decode cX5_splash 34 = .ok (.iconst 4, 1) := by decide +kernel
theorem dX5_splash_35 : decode cX5_splash 35 = .ok (.invokevirtual 221, 3) := by decide +kernel
theorem dX5_splash_38 : decode cX5_splash 38 = .ok (.iload_n 1, 1) := by decide +kernel
theorem dX5_splash_39 : decode cX5_splash 39 = .ok (.ireturn, 1) := by decide +kernel
set_option maxRecDepth 20000 in
theorem ggX5_as_X4_isPin : GoodIn wsX5_as wsX4_isPin := goodIn_r _ [7, 8, 30, 31, 32, 33, 34, 35, 36] (by decide +kernel) (by decide +kernel)
set_option maxRecDepth 20000 in
theorem gX5_as_X4_isPin : GoodIn wsX5_as (wsV RX5 82 RX4 yX4_isPin wsX4_isPin) := goodIn_app (goodIn_of _ (by decide +kernel)) ggX5_as_X4_isPin
set_option maxRecDepth 20000 in
theorem ggX5_as_X5_isKind : GoodIn wsX5_as wsX5_isKind := goodIn_r _ [12] (by decide +kernel) (by decide +kernel)
set_option maxRecDepth 20000 in
theorem gX5_as_X5_isKind : GoodIn wsX5_as (va_wsS RX5 127 yX5_isKind wsX5_isKind) := goodIn_app (goodIn_of _ (by decide +kernel)) ggX5_as_X5_isKind
set_option maxRecDepth 20000 in
theorem ggX5_as_X4_kindAt : GoodIn wsX5_as wsX4_kindAt := goodIn_r _ [16, 17, 18, 4, 5, 6, 7, 8, 30, 31, 32, 33, 34, 35, 36] (by decide +kernel) (by decide +kernel)
set_option maxRecDepth 20000 in
theorem gX5_as_X4_kindAt : GoodIn wsX5_as (wsV RX5 85 RX4 yX4_kindAt wsX4_kindAt) := goodIn_app (goodIn_of _ (by decide +kernel)) ggX5_as_X4_kindAt
set_option maxRecDepth 20000 in
theorem ggX5_as_X5_failed : GoodIn wsX5_as wsX5_failed := goodIn_r _ [22, 1, 23, 24, 25, 26, 27, 28, 29] (by decide +kernel) (by decide +kernel)
set_option maxRecDepth 20000 in
theorem gX5_as_X5_failed : GoodIn wsX5_as (wsV RX5 65 RX5 yX5_failed wsX5_failed) := goodIn_app (goodIn_of _ (by decide +kernel)) ggX5_as_X5_failed
theorem dX5_as_0 : decode cX5_as 0 = .ok (.aload_n 0, 1) := by decide +kernel
theorem dX5_as_1 : decode cX5_as 1 = .ok (.iconst 0, 1) := by decide +kernel
theorem dX5_as_2 : decode cX5_as 2 = .ok (.putfield 46, 3) := by decide +kernel
theorem dX5_as_5 : decode cX5_as 5 = .ok (.aload_n 0, 1) := by decide +kernel
theorem dX5_as_6 : decode cX5_as 6 = .ok (.getfield 12, 3) := by decide +kernel
theorem dX5_as_9 : decode cX5_as 9 = .ok (.iload_n 1, 1) := by decide +kernel
theorem dX5_as_10 : decode cX5_as 10 = .ok (.invokevirtual 82, 3) := by decide +kernel
theorem dX5_as_13 : decode cX5_as 13 = .ok (.ifCond .ne 5, 3) := by decide +kernel
theorem dX5_as_16 : decode cX5_as 16 = .ok (.iconst (-1), 1) := by decide +kernel
theorem dX5_as_17 : decode cX5_as 17 = .ok (.ireturn, 1) := by decide +kernel
theorem dX5_as_18 : decode cX5_as 18 = .ok (.iload_n 2, 1) := by decide +kernel
theorem dX5_as_19 : decode cX5_as 19 = .ok (.invokestatic 127, 3) := by decide +kernel
theorem dX5_as_22 : decode cX5_as 22 = .ok (.ifCond .ne 6, 3) := by decide +kernel
theorem dX5_as_25 : decode cX5_as 25 = .ok (.bipush (-2), 2) := by decide +kernel
theorem dX5_as_27 : decode cX5_as 27 = .ok (.ireturn, 1) := by decide +kernel
theorem dX5_as_28 : decode cX5_as 28 = .ok (.aload_n 0, 1) := by decide +kernel
theorem dX5_as_29 : decode cX5_as 29 = .ok (.getfield 12, 3) := by decide +kernel
theorem dX5_as_32 : decode cX5_as 32 = .ok (.iload_n 1, 1) := by decide +kernel
theorem dX5_as_33 : decode cX5_as 33 = .ok (.invokevirtual 85, 3) := by decide +kernel
theorem dX5_as_36 : decode cX5_as 36 = .ok (.iload_n 2, 1) := by decide +kernel
theorem dX5_as_37 : decode cX5_as 37 = .ok (.if_icmp .ge 9, 3) := by decide +kernel
theorem dX5_as_40 : decode cX5_as 40 = .ok (.aload_n 0, 1) := by decide +kernel
theorem dX5_as_41 : decode cX5_as 41 = .ok (.iconst 2, 1) := by decide +kernel
theorem dX5_as_42 : decode cX5_as 42 = .ok (.invokevirtual 65, 3) := by decide +kernel
theorem dX5_as_45 : decode cX5_as 45 = .ok (.ireturn, 1) := by decide +kernel
theorem dX5_as_46 : decode cX5_as 46 = .ok (.iconst 1, 1) := by decide +kernel
theorem dX5_as_47 : decode cX5_as 47 = .ok (.ireturn, 1) := by decide +kernel
theorem dX5_trace_0 : decode cX5_trace 0 = .ok (.aload_n 0, 1) := by decide +kernel
theorem dX5_trace_1 : decode cX5_trace 1 = .ok (.getfield 225, 3) := by decide +kernel
theorem dX5_trace_4 : decode cX5_trace 4 = .ok (.ireturn, 1) := by decide +kernel
theorem dX5_fault_0 : decode cX5_fault 0 = .ok (.aload_n 0, 1) := by decide +kernel
theorem dX5_fault_1 : decode cX5_fault 1 = .ok (.getfield 46, 3) := by decide +kernel
theorem dX5_fault_4 : decode cX5_fault 4 = .ok (.ireturn, 1) := by decide +kernel
theorem dX5_many_0 : decode cX5_many 0 = .ok (.iload_n 1, 1) := by decide +kernel
theorem dX5_many_1 : decode cX5_many 1 = .ok (.tableswitch 75 0 4 #[35, 43, 51, 59, 67], 35) := by decide +kernel
theorem dX5_many_36 : decode cX5_many 36 = .ok (.aload_n 0, 1) := by decide +kernel
theorem dX5_many_37 : decode cX5_many 37 = .ok (.getfield 12, 3) := by decide +kernel
theorem dX5_many_40 : decode cX5_many 40 = .ok (.getfield 79, 3) := by decide +kernel
theorem dX5_many_43 : decode cX5_many 43 = .ok (.ireturn, 1) := by decide +kernel
theorem dX5_many_44 : decode cX5_many 44 = .ok (.aload_n 0, 1) := by decide +kernel
theorem dX5_many_45 : decode cX5_many 45 = .ok (.getfield 12, 3) := by decide +kernel
theorem dX5_many_48 : decode cX5_many 48 = .ok (.getfield 115, 3) := by decide +kernel
theorem dX5_many_51 : decode cX5_many 51 = .ok (.ireturn, 1) := by decide +kernel
theorem dX5_many_52 : decode cX5_many 52 = .ok (.aload_n 0, 1) := by decide +kernel
theorem dX5_many_53 : decode cX5_many 53 = .ok (.getfield 12, 3) := by decide +kernel
theorem dX5_many_56 : decode cX5_many 56 = .ok (.getfield 118, 3) := by decide +kernel
theorem dX5_many_59 : decode cX5_many 59 = .ok (.ireturn, 1) := by decide +kernel
theorem dX5_many_60 : decode cX5_many 60 = .ok (.aload_n 0, 1) := by decide +kernel
theorem dX5_many_61 : decode cX5_many 61 = .ok (.getfield 12, 3) := by decide +kernel
theorem dX5_many_64 : decode cX5_many 64 = .ok (.getfield 101, 3) := by decide +kernel
theorem dX5_many_67 : decode cX5_many 67 = .ok (.ireturn, 1) := by decide +kernel
theorem dX5_many_68 : decode cX5_many 68 = .ok (.aload_n 0, 1) := by decide +kernel
theorem dX5_many_69 : decode cX5_many 69 = .ok (.getfield 21, 3) := by decide +kernel
theorem dX5_many_72 : decode cX5_many 72 = .ok (.getfield 169, 3) := by decide +kernel
theorem dX5_many_75 : decode cX5_many 75 = .ok (.ireturn, 1) := by decide +kernel
theorem dX5_many_76 : decode cX5_many 76 = .ok (.bipush (-2), 2) := by decide +kernel
theorem dX5_many_78 : decode cX5_many 78 = .ok (.ireturn, 1) := by decide +kernel
theorem dX5_failed_0 : decode cX5_failed 0 = .ok (.aload_n 0, 1) := by decide +kernel
theorem dX5_failed_1 : decode cX5_failed 1 = .ok (.iload_n 1, 1) := by decide +kernel
theorem dX5_failed_2 : decode cX5_failed 2 = .ok (.putfield 46, 3) := by decide +kernel
theorem dX5_failed_5 : decode cX5_failed 5 = .ok (.bipush (-10), 2) := by decide +kernel
theorem dX5_failed_7 : decode cX5_failed 7 = .ok (.iload_n 1, 1) := by decide +kernel
theorem dX5_failed_8 : decode cX5_failed 8 = .ok (.isub, 1) := by decide +kernel
theorem dX5_failed_9 : decode cX5_failed 9 = .ok (.ireturn, 1) := by decide +kernel
theorem dX5_hasWell_0 : decode cX5_hasWell 0 = .ok (.aload_n 0, 1) := by decide +kernel
theorem dX5_hasWell_1 : decode cX5_hasWell 1 = .ok (.getfield 12, 3) := by decide +kernel
theorem dX5_hasWell_4 : decode cX5_hasWell 4 = .ok (.getfield 79, 3) := by decide +kernel
theorem dX5_hasWell_7 : decode cX5_hasWell 7 = .ok (.ifCond .le 7, 3) := by decide +kernel
theorem dX5_hasWell_10 : decode cX5_hasWell 10 = .ok (.iconst 1, 1) := by decide +kernel
theorem dX5_hasWell_11 : decode cX5_hasWell 11 = .ok (.goto 4, 3) := by decide +kernel
theorem dX5_hasWell_14 : decode cX5_hasWell 14 = .ok (.iconst 0, 1) := by decide +kernel
theorem dX5_hasWell_15 : decode cX5_hasWell 15 = .ok (.ireturn, 1) := by decide +kernel
theorem dX5_isSheet_0 : decode cX5_isSheet 0 = .ok (.iload_n 0, 1) := by decide +kernel
theorem dX5_isSheet_1 : decode cX5_isSheet 1 = .ok (.ifCond .lt 12, 3) := by decide +kernel
theorem dX5_isSheet_4 : decode cX5_isSheet 4 = .ok (.iload_n 0, 1) := by decide +kernel
theorem dX5_isSheet_5 : decode cX5_isSheet 5 = .ok (.iconst 4, 1) := by decide +kernel
theorem dX5_isSheet_6 : decode cX5_isSheet 6 = .ok (.if_icmp .ge 7, 3) := by decide +kernel
theorem dX5_isSheet_9 : decode cX5_isSheet 9 = .ok (.iconst 1, 1) := by decide +kernel
theorem dX5_isSheet_10 : decode cX5_isSheet 10 = .ok (.goto 4, 3) := by decide +kernel
theorem dX5_isSheet_13 : decode cX5_isSheet 13 = .ok (.iconst 0, 1) := by decide +kernel
theorem dX5_isSheet_14 : decode cX5_isSheet 14 = .ok (.ireturn, 1) := by decide +kernel
theorem dX5_isLane_0 : decode cX5_isLane 0 = .ok (.iload_n 0, 1) := by decide +kernel
theorem dX5_isLane_1 : decode cX5_isLane 1 = .ok (.ifCond .lt 12, 3) := by decide +kernel
theorem dX5_isLane_4 : decode cX5_isLane 4 = .ok (.iload_n 0, 1) := by decide +kernel
theorem dX5_isLane_5 : decode cX5_isLane 5 = .ok (.iconst 3, 1) := by decide +kernel
theorem dX5_isLane_6 : decode cX5_isLane 6 = .ok (.if_icmp .ge 7, 3) := by decide +kernel
theorem dX5_isLane_9 : decode cX5_isLane 9 = .ok (.iconst 1, 1) := by decide +kernel
theorem dX5_isLane_10 : decode cX5_isLane 10 = .ok (.goto 4, 3) := by decide +kernel
theorem dX5_isLane_13 : decode cX5_isLane 13 = .ok (.iconst 0, 1) := by decide +kernel
theorem dX5_isLane_14 : decode cX5_isLane 14 = .ok (.ireturn, 1) := by decide +kernel
theorem dX5_isKind_0 : decode cX5_isKind 0 = .ok (.iload_n 0, 1) := by decide +kernel
theorem dX5_isKind_1 : decode cX5_isKind 1 = .ok (.ifCond .lt 12, 3) := by decide +kernel
theorem dX5_isKind_4 : decode cX5_isKind 4 = .ok (.iload_n 0, 1) := by decide +kernel
theorem dX5_isKind_5 : decode cX5_isKind 5 = .ok (.iconst 2, 1) := by decide +kernel
theorem dX5_isKind_6 : decode cX5_isKind 6 = .ok (.if_icmp .gt 7, 3) := by decide +kernel
theorem dX5_isKind_9 : decode cX5_isKind 9 = .ok (.iconst 1, 1) := by decide +kernel
theorem dX5_isKind_10 : decode cX5_isKind 10 = .ok (.goto 4, 3) := by decide +kernel
theorem dX5_isKind_13 : decode cX5_isKind 13 = .ok (.iconst 0, 1) := by decide +kernel
theorem dX5_isKind_14 : decode cX5_isKind 14 = .ok (.ireturn, 1) := by decide +kernel
theorem dX5_isBend_0 : decode cX5_isBend 0 = .ok (.iload_n 0, 1) := by decide +kernel
theorem dX5_isBend_1 : decode cX5_isBend 1 = .ok (.ifCond .lt 13, 3) := by decide +kernel
theorem dX5_isBend_4 : decode cX5_isBend 4 = .ok (.iload_n 0, 1) := by decide +kernel
theorem dX5_isBend_5 : decode cX5_isBend 5 = .ok (.bipush 10, 2) := by decide +kernel
theorem dX5_isBend_7 : decode cX5_isBend 7 = .ok (.if_icmp .ge 7, 3) := by decide +kernel
theorem dX5_isBend_10 : decode cX5_isBend 10 = .ok (.iconst 1, 1) := by decide +kernel
theorem dX5_isBend_11 : decode cX5_isBend 11 = .ok (.goto 4, 3) := by decide +kernel
theorem dX5_isBend_14 : decode cX5_isBend 14 = .ok (.iconst 0, 1) := by decide +kernel
theorem dX5_isBend_15 : decode cX5_isBend 15 = .ok (.ireturn, 1) := by decide +kernel
theorem dX5_isWish_0 : decode cX5_isWish 0 = .ok (.iload_n 0, 1) := by decide +kernel
theorem dX5_isWish_1 : decode cX5_isWish 1 = .ok (.ifCond .lt 13, 3) := by decide +kernel
theorem dX5_isWish_4 : decode cX5_isWish 4 = .ok (.iload_n 0, 1) := by decide +kernel
theorem dX5_isWish_5 : decode cX5_isWish 5 = .ok (.bipush 6, 2) := by decide +kernel
theorem dX5_isWish_7 : decode cX5_isWish 7 = .ok (.if_icmp .ge 7, 3) := by decide +kernel
theorem dX5_isWish_10 : decode cX5_isWish 10 = .ok (.iconst 1, 1) := by decide +kernel
theorem dX5_isWish_11 : decode cX5_isWish 11 = .ok (.goto 4, 3) := by decide +kernel
theorem dX5_isWish_14 : decode cX5_isWish 14 = .ok (.iconst 0, 1) := by decide +kernel
theorem dX5_isWish_15 : decode cX5_isWish 15 = .ok (.ireturn, 1) := by decide +kernel
theorem dX5_isToldOfCentury_0 : decode cX5_isToldOfCentury 0 = .ok (.iload_n 0, 1) := by decide +kernel
theorem dX5_isToldOfCentury_1 : decode cX5_isToldOfCentury 1 = .ok (.ifCond .lt 8, 3) := by decide +kernel
theorem dX5_isToldOfCentury_4 : decode cX5_isToldOfCentury 4 = .ok (.iload_n 0, 1) := by decide +kernel
theorem dX5_isToldOfCentury_5 : decode cX5_isToldOfCentury 5 = .ok (.iconst 4, 1) := by decide +kernel
theorem dX5_isToldOfCentury_6 : decode cX5_isToldOfCentury 6 = .ok (.if_icmp .le 15, 3) := by decide +kernel
theorem dX5_isToldOfCentury_9 : decode cX5_isToldOfCentury 9 = .ok (.iload_n 0, 1) := by decide +kernel
theorem dX5_isToldOfCentury_10 : decode cX5_isToldOfCentury 10 = .ok (.bipush 10, 2) := by decide +kernel
theorem dX5_isToldOfCentury_12 : decode cX5_isToldOfCentury 12 = .ok (.if_icmp .lt 13, 3) := by decide +kernel
theorem dX5_isToldOfCentury_15 : decode cX5_isToldOfCentury 15 = .ok (.iload_n 0, 1) := by decide +kernel
theorem dX5_isToldOfCentury_16 : decode cX5_isToldOfCentury 16 = .ok (.bipush 19, 2) := by decide +kernel
theorem dX5_isToldOfCentury_18 : decode cX5_isToldOfCentury 18 = .ok (.if_icmp .ge 7, 3) := by decide +kernel
theorem dX5_isToldOfCentury_21 : decode cX5_isToldOfCentury 21 = .ok (.iconst 1, 1) := by decide +kernel
theorem dX5_isToldOfCentury_22 : decode cX5_isToldOfCentury 22 = .ok (.goto 4, 3) := by decide +kernel
theorem dX5_isToldOfCentury_25 : decode cX5_isToldOfCentury 25 = .ok (.iconst 0, 1) := by decide +kernel
theorem dX5_isToldOfCentury_26 : decode cX5_isToldOfCentury 26 = .ok (.ireturn, 1) := by decide +kernel
set_option maxRecDepth 20000 in
theorem ggX5_isAct_X5_isKind : GoodIn wsX5_isAct wsX5_isKind := goodIn_r _ [4] (by decide +kernel) (by decide +kernel)
set_option maxRecDepth 20000 in
theorem gX5_isAct_X5_isKind : GoodIn wsX5_isAct (va_wsS RX5 127 yX5_isKind wsX5_isKind) := goodIn_app (goodIn_of _ (by decide +kernel)) ggX5_isAct_X5_isKind
set_option maxRecDepth 20000 in
theorem ggX5_isAct_X5_isBend : GoodIn wsX5_isAct wsX5_isBend := goodIn_r _ [7] (by decide +kernel) (by decide +kernel)
set_option maxRecDepth 20000 in
theorem gX5_isAct_X5_isBend : GoodIn wsX5_isAct (va_wsS RX5 104 yX5_isBend wsX5_isBend) := goodIn_app (goodIn_of _ (by decide +kernel)) ggX5_isAct_X5_isBend
theorem dX5_isAct_0 : decode cX5_isAct 0 = .ok (.iload_n 1, 1) := by decide +kernel
theorem dX5_isAct_1 : decode cX5_isAct 1 = .ok (.invokestatic 127, 3) := by decide +kernel
theorem dX5_isAct_4 : decode cX5_isAct 4 = .ok (.ifCond .eq 8, 3) := by decide +kernel
theorem dX5_isAct_7 : decode cX5_isAct 7 = .ok (.iload_n 0, 1) := by decide +kernel
theorem dX5_isAct_8 : decode cX5_isAct 8 = .ok (.invokestatic 104, 3) := by decide +kernel
theorem dX5_isAct_11 : decode cX5_isAct 11 = .ok (.ireturn, 1) := by decide +kernel
theorem dX5_isAct_12 : decode cX5_isAct 12 = .ok (.iload_n 1, 1) := by decide +kernel
theorem dX5_isAct_13 : decode cX5_isAct 13 = .ok (.iconst 3, 1) := by decide +kernel
theorem dX5_isAct_14 : decode cX5_isAct 14 = .ok (.if_icmp .ne 19, 3) := by decide +kernel
theorem dX5_isAct_17 : decode cX5_isAct 17 = .ok (.iload_n 0, 1) := by decide +kernel
theorem dX5_isAct_18 : decode cX5_isAct 18 = .ok (.ifCond .lt 13, 3) := by decide +kernel
theorem dX5_isAct_21 : decode cX5_isAct 21 = .ok (.iload_n 0, 1) := by decide +kernel
theorem dX5_isAct_22 : decode cX5_isAct 22 = .ok (.bipush 99, 2) := by decide +kernel
theorem dX5_isAct_24 : decode cX5_isAct 24 = .ok (.if_icmp .gt 7, 3) := by decide +kernel
theorem dX5_isAct_27 : decode cX5_isAct 27 = .ok (.iconst 1, 1) := by decide +kernel
theorem dX5_isAct_28 : decode cX5_isAct 28 = .ok (.goto 4, 3) := by decide +kernel
theorem dX5_isAct_31 : decode cX5_isAct 31 = .ok (.iconst 0, 1) := by decide +kernel
theorem dX5_isAct_32 : decode cX5_isAct 32 = .ok (.ireturn, 1) := by decide +kernel
theorem dX5_isAct_33 : decode cX5_isAct 33 = .ok (.iload_n 1, 1) := by decide +kernel
theorem dX5_isAct_34 : decode cX5_isAct 34 = .ok (.iconst 4, 1) := by decide +kernel
theorem dX5_isAct_35 : decode cX5_isAct 35 = .ok (.if_icmp .ne 11, 3) := by decide +kernel
theorem dX5_isAct_38 : decode cX5_isAct 38 = .ok (.iload_n 0, 1) := by decide +kernel
theorem dX5_isAct_39 : decode cX5_isAct 39 = .ok (.ifCond .ne 7, 3) := by decide +kernel
theorem dX5_isAct_42 : decode cX5_isAct 42 = .ok (.iconst 1, 1) := by decide +kernel
theorem dX5_isAct_43 : decode cX5_isAct 43 = .ok (.goto 4, 3) := by decide +kernel
theorem dX5_isAct_46 : decode cX5_isAct 46 = .ok (.iconst 0, 1) := by decide +kernel
theorem dX5_isAct_47 : decode cX5_isAct 47 = .ok (.ireturn, 1) := by decide +kernel
theorem dX5_keyNumber_0 : decode cX5_keyNumber 0 = .ok (.bipush 10, 2) := by decide +kernel
theorem dX5_keyNumber_2 : decode cX5_keyNumber 2 = .ok (.iload_n 0, 1) := by decide +kernel
theorem dX5_keyNumber_3 : decode cX5_keyNumber 3 = .ok (.imul, 1) := by decide +kernel
theorem dX5_keyNumber_4 : decode cX5_keyNumber 4 = .ok (.iload_n 1, 1) := by decide +kernel
theorem dX5_keyNumber_5 : decode cX5_keyNumber 5 = .ok (.iadd, 1) := by decide +kernel
theorem dX5_keyNumber_6 : decode cX5_keyNumber 6 = .ok (.ireturn, 1) := by decide +kernel
theorem dX5_turnOf_0 : decode cX5_turnOf 0 = .ok (.iload_n 0, 1) := by decide +kernel
theorem dX5_turnOf_1 : decode cX5_turnOf 1 = .ok (.ifCond .ne 5, 3) := by decide +kernel
theorem dX5_turnOf_4 : decode cX5_turnOf 4 = .ok (.iload_n 1, 1) := by decide +kernel
theorem dX5_turnOf_5 : decode cX5_turnOf 5 = .ok (.ireturn, 1) := by decide +kernel
theorem dX5_turnOf_6 : decode cX5_turnOf 6 = .ok (.iload_n 0, 1) := by decide +kernel
theorem dX5_turnOf_7 : decode cX5_turnOf 7 = .ok (.iconst 1, 1) := by decide +kernel
theorem dX5_turnOf_8 : decode cX5_turnOf 8 = .ok (.if_icmp .ne 9, 3) := by decide +kernel
theorem dX5_turnOf_11 : decode cX5_turnOf 11 = .ok (.iload_n 1, 1) := by decide +kernel
theorem dX5_turnOf_12 : decode cX5_turnOf 12 = .ok (.iconst 1, 1) := by decide +kernel
theorem dX5_turnOf_13 : decode cX5_turnOf 13 = .ok (.iadd, 1) := by decide +kernel
theorem dX5_turnOf_14 : decode cX5_turnOf 14 = .ok (.goto 8, 3) := by decide +kernel
theorem dX5_turnOf_17 : decode cX5_turnOf 17 = .ok (.iconst 2, 1) := by decide +kernel
theorem dX5_turnOf_18 : decode cX5_turnOf 18 = .ok (.iload_n 1, 1) := by decide +kernel
theorem dX5_turnOf_19 : decode cX5_turnOf 19 = .ok (.iconst 1, 1) := by decide +kernel
theorem dX5_turnOf_20 : decode cX5_turnOf 20 = .ok (.iadd, 1) := by decide +kernel
theorem dX5_turnOf_21 : decode cX5_turnOf 21 = .ok (.imul, 1) := by decide +kernel
theorem dX5_turnOf_22 : decode cX5_turnOf 22 = .ok (.ireturn, 1) := by decide +kernel
theorem dX5_wishOf_0 : decode cX5_wishOf 0 = .ok (.iload_n 0, 1) := by decide +kernel
theorem dX5_wishOf_1 : decode cX5_wishOf 1 = .ok (.iload_n 1, 1) := by decide +kernel
theorem dX5_wishOf_2 : decode cX5_wishOf 2 = .ok (.imul, 1) := by decide +kernel
theorem dX5_wishOf_3 : decode cX5_wishOf 3 = .ok (.iload_n 2, 1) := by decide +kernel
theorem dX5_wishOf_4 : decode cX5_wishOf 4 = .ok (.iload_n 3, 1) := by decide +kernel
theorem dX5_wishOf_5 : decode cX5_wishOf 5 = .ok (.imul, 1) := by decide +kernel
theorem dX5_wishOf_6 : decode cX5_wishOf 6 = .ok (.iadd, 1) := by decide +kernel
theorem dX5_wishOf_7 : decode cX5_wishOf 7 = .ok (.bipush 6, 2) := by decide +kernel
theorem dX5_wishOf_9 : decode cX5_wishOf 9 = .ok (.irem, 1) := by decide +kernel
theorem dX5_wishOf_10 : decode cX5_wishOf 10 = .ok (.ireturn, 1) := by decide +kernel
theorem dX5_greatestShared_0 : decode cX5_greatestShared 0 = .ok (.iload_n 1, 1) := by decide +kernel
theorem dX5_greatestShared_1 : decode cX5_greatestShared 1 = .ok (.istore_n 2, 1) := by decide +kernel
theorem dX5_greatestShared_2 : decode cX5_greatestShared 2 = .ok (.iload_n 2, 1) := by decide +kernel
theorem dX5_greatestShared_3 : decode cX5_greatestShared 3 = .ok (.iconst 1, 1) := by decide +kernel
theorem dX5_greatestShared_4 : decode cX5_greatestShared 4 = .ok (.if_icmp .le 23, 3) := by decide +kernel
theorem dX5_greatestShared_7 : decode cX5_greatestShared 7 = .ok (.iload_n 0, 1) := by decide +kernel
theorem dX5_greatestShared_8 : decode cX5_greatestShared 8 = .ok (.iload_n 2, 1) := by decide +kernel
theorem dX5_greatestShared_9 : decode cX5_greatestShared 9 = .ok (.irem, 1) := by decide +kernel
theorem dX5_greatestShared_10 : decode cX5_greatestShared 10 = .ok (.ifCond .ne 11, 3) := by decide +kernel
theorem dX5_greatestShared_13 : decode cX5_greatestShared 13 = .ok (.iload_n 1, 1) := by decide +kernel
theorem dX5_greatestShared_14 : decode cX5_greatestShared 14 = .ok (.iload_n 2, 1) := by decide +kernel
theorem dX5_greatestShared_15 : decode cX5_greatestShared 15 = .ok (.irem, 1) := by decide +kernel
theorem dX5_greatestShared_16 : decode cX5_greatestShared 16 = .ok (.ifCond .ne 5, 3) := by decide +kernel
theorem dX5_greatestShared_19 : decode cX5_greatestShared 19 = .ok (.iload_n 2, 1) := by decide +kernel
theorem dX5_greatestShared_20 : decode cX5_greatestShared 20 = .ok (.ireturn, 1) := by decide +kernel
theorem dX5_greatestShared_21 : decode cX5_greatestShared 21 = .ok (.iinc 2 (-1), 3) := by decide +kernel
theorem dX5_greatestShared_24 : decode cX5_greatestShared 24 = .ok (.goto (-22), 3) := by decide +kernel
theorem dX5_greatestShared_27 : decode cX5_greatestShared 27 = .ok (.iconst 1, 1) := by decide +kernel
theorem dX5_greatestShared_28 : decode cX5_greatestShared 28 = .ok (.ireturn, 1) := by decide +kernel
set_option maxRecDepth 20000 in
theorem ggX5_firstFault_X3_at : GoodIn wsX5_firstFault wsX3_at := goodIn_r _ [5, 6, 7, 8, 9, 4, 10, 11, 16, 17, 18] (by decide +kernel) (by decide +kernel)
set_option maxRecDepth 20000 in
theorem gX5_firstFault_X3_at : GoodIn wsX5_firstFault (wsV RX5 143 RX3 yX3_at wsX3_at) := goodIn_app (goodIn_of _ (by decide +kernel)) ggX5_firstFault_X3_at
set_option maxRecDepth 20000 in
theorem ggX5_firstFault_X5_goesOn : GoodIn wsX5_firstFault wsX5_goesOn := goodIn_r _ [15] (by decide +kernel) (by decide +kernel)
set_option maxRecDepth 20000 in
theorem gX5_firstFault_X5_goesOn : GoodIn wsX5_firstFault (va_wsS RX5 228 yX5_goesOn wsX5_goesOn) := goodIn_app (goodIn_of _ (by decide +kernel)) ggX5_firstFault_X5_goesOn
theorem dX5_firstFault_0 : decode cX5_firstFault 0 = .ok (.iconst 0, 1) := by decide +kernel
theorem dX5_firstFault_1 : decode cX5_firstFault 1 = .ok (.istore_n 3, 1) := by decide +kernel
theorem dX5_firstFault_2 : decode cX5_firstFault 2 = .ok (.iload_n 3, 1) := by decide +kernel
theorem dX5_firstFault_3 : decode cX5_firstFault 3 = .ok (.iload_n 2, 1) := by decide +kernel
theorem dX5_firstFault_4 : decode cX5_firstFault 4 = .ok (.if_icmp .ge 25, 3) := by decide +kernel
theorem dX5_firstFault_7 : decode cX5_firstFault 7 = .ok (.iload_n 3, 1) := by decide +kernel
theorem dX5_firstFault_8 : decode cX5_firstFault 8 = .ok (.aload_n 0, 1) := by decide +kernel
theorem dX5_firstFault_9 : decode cX5_firstFault 9 = .ok (.iload_n 1, 1) := by decide +kernel
theorem dX5_firstFault_10 : decode cX5_firstFault 10 = .ok (.iload_n 3, 1) := by decide +kernel
theorem dX5_firstFault_11 : decode cX5_firstFault 11 = .ok (.iadd, 1) := by decide +kernel
theorem dX5_firstFault_12 : decode cX5_firstFault 12 = .ok (.invokevirtual 143, 3) := by decide +kernel
theorem dX5_firstFault_15 : decode cX5_firstFault 15 = .ok (.invokestatic 228, 3) := by decide +kernel
theorem dX5_firstFault_18 : decode cX5_firstFault 18 = .ok (.ifCond .ne 5, 3) := by decide +kernel
theorem dX5_firstFault_21 : decode cX5_firstFault 21 = .ok (.iload_n 3, 1) := by decide +kernel
theorem dX5_firstFault_22 : decode cX5_firstFault 22 = .ok (.ireturn, 1) := by decide +kernel
theorem dX5_firstFault_23 : decode cX5_firstFault 23 = .ok (.iinc 3 1, 3) := by decide +kernel
theorem dX5_firstFault_26 : decode cX5_firstFault 26 = .ok (.goto (-24), 3) := by decide +kernel
theorem dX5_firstFault_29 : decode cX5_firstFault 29 = .ok (.iload_n 2, 1) := by decide +kernel
theorem dX5_firstFault_30 : decode cX5_firstFault 30 = .ok (.bipush 7, 2) := by decide +kernel
theorem dX5_firstFault_32 : decode cX5_firstFault 32 = .ok (.if_icmp .lt 15, 3) := by decide +kernel
theorem dX5_firstFault_35 : decode cX5_firstFault 35 = .ok (.iload_n 2, 1) := by decide +kernel
theorem dX5_firstFault_36 : decode cX5_firstFault 36 = .ok (.iconst 3, 1) := by decide +kernel
theorem dX5_firstFault_37 : decode cX5_firstFault 37 = .ok (.isub, 1) := by decide +kernel
theorem dX5_firstFault_38 : decode cX5_firstFault 38 = .ok (.iconst 4, 1) := by decide +kernel
theorem dX5_firstFault_39 : decode cX5_firstFault 39 = .ok (.irem, 1) := by decide +kernel
theorem dX5_firstFault_40 : decode cX5_firstFault 40 = .ok (.ifCond .ne 7, 3) := by decide +kernel
theorem dX5_firstFault_43 : decode cX5_firstFault 43 = .ok (.iconst 1, 1) := by decide +kernel
theorem dX5_firstFault_44 : decode cX5_firstFault 44 = .ok (.goto 4, 3) := by decide +kernel
theorem dX5_firstFault_47 : decode cX5_firstFault 47 = .ok (.iconst 0, 1) := by decide +kernel
theorem dX5_firstFault_48 : decode cX5_firstFault 48 = .ok (.istore_n 3, 1) := by decide +kernel
theorem dX5_firstFault_49 : decode cX5_firstFault 49 = .ok (.iload_n 3, 1) := by decide +kernel
theorem dX5_firstFault_50 : decode cX5_firstFault 50 = .ok (.ifCond .eq 8, 3) := by decide +kernel
theorem dX5_firstFault_53 : decode cX5_firstFault 53 = .ok (.bipush (-9), 2) := by decide +kernel
theorem dX5_firstFault_55 : decode cX5_firstFault 55 = .ok (.goto 4, 3) := by decide +kernel
theorem dX5_firstFault_58 : decode cX5_firstFault 58 = .ok (.iload_n 2, 1) := by decide +kernel
theorem dX5_firstFault_59 : decode cX5_firstFault 59 = .ok (.ireturn, 1) := by decide +kernel
theorem dX5_goesOn_0 : decode cX5_goesOn 0 = .ok (.iload_n 0, 1) := by decide +kernel
theorem dX5_goesOn_1 : decode cX5_goesOn 1 = .ok (.ifCond .ne 15, 3) := by decide +kernel
theorem dX5_goesOn_4 : decode cX5_goesOn 4 = .ok (.iload_n 1, 1) := by decide +kernel
theorem dX5_goesOn_5 : decode cX5_goesOn 5 = .ok (.bipush 119, 2) := by decide +kernel
theorem dX5_goesOn_7 : decode cX5_goesOn 7 = .ok (.if_icmp .ne 7, 3) := by decide +kernel
theorem dX5_goesOn_10 : decode cX5_goesOn 10 = .ok (.iconst 1, 1) := by decide +kernel
theorem dX5_goesOn_11 : decode cX5_goesOn 11 = .ok (.goto 4, 3) := by decide +kernel
theorem dX5_goesOn_14 : decode cX5_goesOn 14 = .ok (.iconst 0, 1) := by decide +kernel
theorem dX5_goesOn_15 : decode cX5_goesOn 15 = .ok (.ireturn, 1) := by decide +kernel
theorem dX5_goesOn_16 : decode cX5_goesOn 16 = .ok (.iload_n 0, 1) := by decide +kernel
theorem dX5_goesOn_17 : decode cX5_goesOn 17 = .ok (.iconst 1, 1) := by decide +kernel
theorem dX5_goesOn_18 : decode cX5_goesOn 18 = .ok (.if_icmp .ne 21, 3) := by decide +kernel
theorem dX5_goesOn_21 : decode cX5_goesOn 21 = .ok (.iload_n 1, 1) := by decide +kernel
theorem dX5_goesOn_22 : decode cX5_goesOn 22 = .ok (.bipush 49, 2) := by decide +kernel
theorem dX5_goesOn_24 : decode cX5_goesOn 24 = .ok (.if_icmp .lt 13, 3) := by decide +kernel
theorem dX5_goesOn_27 : decode cX5_goesOn 27 = .ok (.iload_n 1, 1) := by decide +kernel
theorem dX5_goesOn_28 : decode cX5_goesOn 28 = .ok (.bipush 53, 2) := by decide +kernel
theorem dX5_goesOn_30 : decode cX5_goesOn 30 = .ok (.if_icmp .gt 7, 3) := by decide +kernel
theorem dX5_goesOn_33 : decode cX5_goesOn 33 = .ok (.iconst 1, 1) := by decide +kernel
theorem dX5_goesOn_34 : decode cX5_goesOn 34 = .ok (.goto 4, 3) := by decide +kernel
theorem dX5_goesOn_37 : decode cX5_goesOn 37 = .ok (.iconst 0, 1) := by decide +kernel
theorem dX5_goesOn_38 : decode cX5_goesOn 38 = .ok (.ireturn, 1) := by decide +kernel
theorem dX5_goesOn_39 : decode cX5_goesOn 39 = .ok (.iload_n 0, 1) := by decide +kernel
theorem dX5_goesOn_40 : decode cX5_goesOn 40 = .ok (.iconst 2, 1) := by decide +kernel
theorem dX5_goesOn_41 : decode cX5_goesOn 41 = .ok (.if_icmp .ne 21, 3) := by decide +kernel
theorem dX5_goesOn_44 : decode cX5_goesOn 44 = .ok (.iload_n 1, 1) := by decide +kernel
theorem dX5_goesOn_45 : decode cX5_goesOn 45 = .ok (.bipush 48, 2) := by decide +kernel
theorem dX5_goesOn_47 : decode cX5_goesOn 47 = .ok (.if_icmp .lt 13, 3) := by decide +kernel
theorem dX5_goesOn_50 : decode cX5_goesOn 50 = .ok (.iload_n 1, 1) := by decide +kernel
theorem dX5_goesOn_51 : decode cX5_goesOn 51 = .ok (.bipush 53, 2) := by decide +kernel
theorem dX5_goesOn_53 : decode cX5_goesOn 53 = .ok (.if_icmp .gt 7, 3) := by decide +kernel
theorem dX5_goesOn_56 : decode cX5_goesOn 56 = .ok (.iconst 1, 1) := by decide +kernel
theorem dX5_goesOn_57 : decode cX5_goesOn 57 = .ok (.goto 4, 3) := by decide +kernel
theorem dX5_goesOn_60 : decode cX5_goesOn 60 = .ok (.iconst 0, 1) := by decide +kernel
theorem dX5_goesOn_61 : decode cX5_goesOn 61 = .ok (.ireturn, 1) := by decide +kernel
theorem dX5_goesOn_62 : decode cX5_goesOn 62 = .ok (.iload_n 0, 1) := by decide +kernel
theorem dX5_goesOn_63 : decode cX5_goesOn 63 = .ok (.bipush 39, 2) := by decide +kernel
theorem dX5_goesOn_65 : decode cX5_goesOn 65 = .ok (.if_icmp .lt 5, 3) := by decide +kernel
theorem dX5_goesOn_68 : decode cX5_goesOn 68 = .ok (.iconst 0, 1) := by decide +kernel
theorem dX5_goesOn_69 : decode cX5_goesOn 69 = .ok (.ireturn, 1) := by decide +kernel
theorem dX5_goesOn_70 : decode cX5_goesOn 70 = .ok (.iload_n 0, 1) := by decide +kernel
theorem dX5_goesOn_71 : decode cX5_goesOn 71 = .ok (.iconst 3, 1) := by decide +kernel
theorem dX5_goesOn_72 : decode cX5_goesOn 72 = .ok (.isub, 1) := by decide +kernel
theorem dX5_goesOn_73 : decode cX5_goesOn 73 = .ok (.iconst 4, 1) := by decide +kernel
theorem dX5_goesOn_74 : decode cX5_goesOn 74 = .ok (.irem, 1) := by decide +kernel
theorem dX5_goesOn_75 : decode cX5_goesOn 75 = .ok (.lookupswitch 61 #[(0, 25), (1, 37)], 25) := by decide +kernel
theorem dX5_goesOn_100 : decode cX5_goesOn 100 = .ok (.iload_n 1, 1) := by decide +kernel
theorem dX5_goesOn_101 : decode cX5_goesOn 101 = .ok (.bipush 59, 2) := by decide +kernel
theorem dX5_goesOn_103 : decode cX5_goesOn 103 = .ok (.if_icmp .ne 7, 3) := by decide +kernel
theorem dX5_goesOn_106 : decode cX5_goesOn 106 = .ok (.iconst 1, 1) := by decide +kernel
theorem dX5_goesOn_107 : decode cX5_goesOn 107 = .ok (.goto 4, 3) := by decide +kernel
theorem dX5_goesOn_110 : decode cX5_goesOn 110 = .ok (.iconst 0, 1) := by decide +kernel
theorem dX5_goesOn_111 : decode cX5_goesOn 111 = .ok (.ireturn, 1) := by decide +kernel
theorem dX5_goesOn_112 : decode cX5_goesOn 112 = .ok (.iload_n 1, 1) := by decide +kernel
theorem dX5_goesOn_113 : decode cX5_goesOn 113 = .ok (.bipush 112, 2) := by decide +kernel
theorem dX5_goesOn_115 : decode cX5_goesOn 115 = .ok (.if_icmp .eq 15, 3) := by decide +kernel
theorem dX5_goesOn_118 : decode cX5_goesOn 118 = .ok (.iload_n 1, 1) := by decide +kernel
theorem dX5_goesOn_119 : decode cX5_goesOn 119 = .ok (.bipush 99, 2) := by decide +kernel
theorem dX5_goesOn_121 : decode cX5_goesOn 121 = .ok (.if_icmp .eq 9, 3) := by decide +kernel
theorem dX5_goesOn_124 : decode cX5_goesOn 124 = .ok (.iload_n 1, 1) := by decide +kernel
theorem dX5_goesOn_125 : decode cX5_goesOn 125 = .ok (.bipush 100, 2) := by decide +kernel
theorem dX5_goesOn_127 : decode cX5_goesOn 127 = .ok (.if_icmp .ne 7, 3) := by decide +kernel
theorem dX5_goesOn_130 : decode cX5_goesOn 130 = .ok (.iconst 1, 1) := by decide +kernel
theorem dX5_goesOn_131 : decode cX5_goesOn 131 = .ok (.goto 4, 3) := by decide +kernel
theorem dX5_goesOn_134 : decode cX5_goesOn 134 = .ok (.iconst 0, 1) := by decide +kernel
theorem dX5_goesOn_135 : decode cX5_goesOn 135 = .ok (.ireturn, 1) := by decide +kernel
theorem dX5_goesOn_136 : decode cX5_goesOn 136 = .ok (.iload_n 1, 1) := by decide +kernel
theorem dX5_goesOn_137 : decode cX5_goesOn 137 = .ok (.bipush 48, 2) := by decide +kernel
theorem dX5_goesOn_139 : decode cX5_goesOn 139 = .ok (.if_icmp .lt 13, 3) := by decide +kernel
theorem dX5_goesOn_142 : decode cX5_goesOn 142 = .ok (.iload_n 1, 1) := by decide +kernel
theorem dX5_goesOn_143 : decode cX5_goesOn 143 = .ok (.bipush 57, 2) := by decide +kernel
theorem dX5_goesOn_145 : decode cX5_goesOn 145 = .ok (.if_icmp .gt 7, 3) := by decide +kernel
theorem dX5_goesOn_148 : decode cX5_goesOn 148 = .ok (.iconst 1, 1) := by decide +kernel
theorem dX5_goesOn_149 : decode cX5_goesOn 149 = .ok (.goto 4, 3) := by decide +kernel
theorem dX5_goesOn_152 : decode cX5_goesOn 152 = .ok (.iconst 0, 1) := by decide +kernel
theorem dX5_goesOn_153 : decode cX5_goesOn 153 = .ok (.ireturn, 1) := by decide +kernel
theorem dX5_beginBody_0 : decode cX5_beginBody 0 = .ok (.aload_n 0, 1) := by decide +kernel
theorem dX5_beginBody_1 : decode cX5_beginBody 1 = .ok (.bipush 31, 2) := by decide +kernel
theorem dX5_beginBody_3 : decode cX5_beginBody 3 = .ok (.aload_n 0, 1) := by decide +kernel
theorem dX5_beginBody_4 : decode cX5_beginBody 4 = .ok (.getfield 225, 3) := by decide +kernel
theorem dX5_beginBody_7 : decode cX5_beginBody 7 = .ok (.imul, 1) := by decide +kernel
theorem dX5_beginBody_8 : decode cX5_beginBody 8 = .ok (.iload_n 1, 1) := by decide +kernel
theorem dX5_beginBody_9 : decode cX5_beginBody 9 = .ok (.iadd, 1) := by decide +kernel
theorem dX5_beginBody_10 : decode cX5_beginBody 10 = .ok (.putfield 225, 3) := by decide +kernel
theorem dX5_beginBody_13 : decode cX5_beginBody 13 = .ok (.return_, 1) := by decide +kernel
set_option maxRecDepth 20000 in
theorem ggX5_tellPlain_X5_beginBody : GoodIn wsX5_tellPlain wsX5_beginBody := goodIn_r _ [5, 6, 7, 8, 9, 10, 11, 12, 13] (by decide +kernel) (by decide +kernel)
set_option maxRecDepth 20000 in
theorem gX5_tellPlain_X5_beginBody : GoodIn wsX5_tellPlain (wsV RX5 221 RX5 yX5_beginBody wsX5_beginBody) := goodIn_app (goodIn_of _ (by decide +kernel)) ggX5_tellPlain_X5_beginBody
theorem dX5_tellPlain_0 : decode cX5_tellPlain 0 = .ok (.aload_n 0, 1) := by decide +kernel
theorem dX5_tellPlain_1 : decode cX5_tellPlain 1 = .ok (.iconst 1, 1) := by decide +kernel
theorem dX5_tellPlain_2 : decode cX5_tellPlain 2 = .ok (.invokevirtual 221, 3) := by decide +kernel
theorem dX5_tellPlain_5 : decode cX5_tellPlain 5 = .ok (.iload_n 1, 1) := by decide +kernel
theorem dX5_tellPlain_6 : decode cX5_tellPlain 6 = .ok (.ireturn, 1) := by decide +kernel
set_option maxRecDepth 20000 in
theorem ggX5_tellCrook_X5_beginBody : GoodIn wsX5_tellCrook wsX5_beginBody := goodIn_r _ [5, 6, 11, 12, 13, 14, 15, 16, 17] (by decide +kernel) (by decide +kernel)
set_option maxRecDepth 20000 in
theorem gX5_tellCrook_X5_beginBody : GoodIn wsX5_tellCrook (wsV RX5 221 RX5 yX5_beginBody wsX5_beginBody) := goodIn_app (goodIn_of _ (by decide +kernel)) ggX5_tellCrook_X5_beginBody
set_option maxRecDepth 20000 in
theorem ggX5_tellCrook_X5_tellPlain : GoodIn wsX5_tellCrook wsX5_tellPlain := goodIn_r _ [10, 1, 2, 3, 4, 5, 6, 11, 12, 13, 14, 15, 16, 17] (by decide +kernel) (by decide +kernel)
set_option maxRecDepth 20000 in
theorem gX5_tellCrook_X5_tellPlain : GoodIn wsX5_tellCrook (wsV RX5 212 RX5 yX5_tellPlain wsX5_tellPlain) := goodIn_app (goodIn_of _ (by decide +kernel)) ggX5_tellCrook_X5_tellPlain
theorem dX5_tellCrook_0 : decode cX5_tellCrook 0 = .ok (.aload_n 0, 1) := by decide +kernel
theorem dX5_tellCrook_1 : decode cX5_tellCrook 1 = .ok (.iconst 2, 1) := by decide +kernel
theorem dX5_tellCrook_2 : decode cX5_tellCrook 2 = .ok (.invokevirtual 221, 3) := by decide +kernel
theorem dX5_tellCrook_5 : decode cX5_tellCrook 5 = .ok (.aload_n 0, 1) := by decide +kernel
theorem dX5_tellCrook_6 : decode cX5_tellCrook 6 = .ok (.iload_n 1, 1) := by decide +kernel
theorem dX5_tellCrook_7 : decode cX5_tellCrook 7 = .ok (.invokevirtual 212, 3) := by decide +kernel
theorem dX5_tellCrook_10 : decode cX5_tellCrook 10 = .ok (.bipush 100, 2) := by decide +kernel
theorem dX5_tellCrook_12 : decode cX5_tellCrook 12 = .ok (.iadd, 1) := by decide +kernel
theorem dX5_tellCrook_13 : decode cX5_tellCrook 13 = .ok (.ireturn, 1) := by decide +kernel
set_option maxRecDepth 20000 in
theorem ggX5_tellDouble_X5_beginBody : GoodIn wsX5_tellDouble wsX5_beginBody := goodIn_r _ [5, 6, 15, 16, 17, 18, 19, 20, 21] (by decide +kernel) (by decide +kernel)
set_option maxRecDepth 20000 in
theorem gX5_tellDouble_X5_beginBody : GoodIn wsX5_tellDouble (wsV RX5 221 RX5 yX5_beginBody wsX5_beginBody) := goodIn_app (goodIn_of _ (by decide +kernel)) ggX5_tellDouble_X5_beginBody
set_option maxRecDepth 20000 in
theorem ggX5_tellDouble_X5_tellCrook : GoodIn wsX5_tellDouble wsX5_tellCrook := goodIn_r _ [10, 1, 2, 3, 4, 5, 6, 11, 12, 13, 14, 15, 16, 17, 18, 19, 20, 21] (by decide +kernel) (by decide +kernel)
set_option maxRecDepth 20000 in
theorem gX5_tellDouble_X5_tellCrook : GoodIn wsX5_tellDouble (wsV RX5 215 RX5 yX5_tellCrook wsX5_tellCrook) := goodIn_app (goodIn_of _ (by decide +kernel)) ggX5_tellDouble_X5_tellCrook
set_option maxRecDepth 20000 in
theorem ggX5_tellDouble_X5_tellPlain : GoodIn wsX5_tellDouble wsX5_tellPlain := goodIn_r _ [14, 1, 2, 3, 4, 5, 6, 15, 16, 17, 18, 19, 20, 21] (by decide +kernel) (by decide +kernel)
set_option maxRecDepth 20000 in
theorem gX5_tellDouble_X5_tellPlain : GoodIn wsX5_tellDouble (wsV RX5 212 RX5 yX5_tellPlain wsX5_tellPlain) := goodIn_app (goodIn_of _ (by decide +kernel)) ggX5_tellDouble_X5_tellPlain
theorem dX5_tellDouble_0 : decode cX5_tellDouble 0 = .ok (.aload_n 0, 1) := by decide +kernel
theorem dX5_tellDouble_1 : decode cX5_tellDouble 1 = .ok (.iconst 3, 1) := by decide +kernel
theorem dX5_tellDouble_2 : decode cX5_tellDouble 2 = .ok (.invokevirtual 221, 3) := by decide +kernel
theorem dX5_tellDouble_5 : decode cX5_tellDouble 5 = .ok (.aload_n 0, 1) := by decide +kernel
theorem dX5_tellDouble_6 : decode cX5_tellDouble 6 = .ok (.iload_n 1, 1) := by decide +kernel
theorem dX5_tellDouble_7 : decode cX5_tellDouble 7 = .ok (.invokevirtual 215, 3) := by decide +kernel
theorem dX5_tellDouble_10 : decode cX5_tellDouble 10 = .ok (.istore_n 2, 1) := by decide +kernel
theorem dX5_tellDouble_11 : decode cX5_tellDouble 11 = .ok (.iload_n 2, 1) := by decide +kernel
theorem dX5_tellDouble_12 : decode cX5_tellDouble 12 = .ok (.aload_n 0, 1) := by decide +kernel
theorem dX5_tellDouble_13 : decode cX5_tellDouble 13 = .ok (.iload_n 1, 1) := by decide +kernel
theorem dX5_tellDouble_14 : decode cX5_tellDouble 14 = .ok (.invokevirtual 212, 3) := by decide +kernel
theorem dX5_tellDouble_17 : decode cX5_tellDouble 17 = .ok (.iadd, 1) := by decide +kernel
theorem dX5_tellDouble_18 : decode cX5_tellDouble 18 = .ok (.ireturn, 1) := by decide +kernel
