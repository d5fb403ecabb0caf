set_option maxRecDepth 20000 in
theorem ggX0_init_X4_init : GoodIn wsX0_init wsX4_init := goodIn_r _ [9, 10, 2, 3, 11, 12, 13, 14, 15, 16, 17, 18, 19, 20, 21] (by decide +kernel) (by decide +kernel)
set_option maxRecDepth 20000 in
theorem gX0_init_X4_init_n11 : GoodIn wsX0_init (wsX4_init) := ggX0_init_X4_init
theorem dX0_init_0 : decode cX0_init 0 = .ok (.aload_n 0, 1) := by decide +kernel
theorem dX0_init_1 : decode cX0_init 1 = .ok (.invokespecial 3, 3) := by decide +kernel
theorem dX0_init_4 : decode cX0_init 4 = .ok (.aload_n 0, 1) := by decide +kernel
theorem dX0_init_5 : decode cX0_init 5 = .ok (.new 9, 3) := by decide +kernel
theorem dX0_init_8 : decode cX0_init 8 = .ok (.dup, 1) := by decide +kernel
theorem dX0_init_9 : decode cX0_init 9 = .ok (.invokespecial 11, 3) := by decide +kernel
theorem dX0_init_12 : decode cX0_init 12 = .ok (.putfield 12, 3) := by decide +kernel
theorem dX0_init_15 : decode cX0_init 15 = .ok (.return_, 1) := by decide +kernel
set_option maxRecDepth 20000 in
theorem ggX0_play_X4_become : GoodIn wsX0_play wsX4_become := goodIn_r _ [8, 9, 10, 11, 12, 13, 14, 15, 16, 17, 18, 19, 62, 63, 64, 65, 66, 67, 68] (by decide +kernel) (by decide +kernel)
set_option maxRecDepth 20000 in
theorem gX0_play_X4_become : GoodIn wsX0_play (wsV RX0 18 RX4 yX4_become wsX4_become) := goodIn_app (goodIn_of _ (by decide +kernel)) ggX0_play_X4_become
set_option maxRecDepth 20000 in
theorem ggX0_play_X3_at : GoodIn wsX0_play wsX3_at := goodIn_r _ [24, 25, 26, 27, 28, 23, 29, 30, 69, 70, 71] (by decide +kernel) (by decide +kernel)
set_option maxRecDepth 20000 in
theorem gX0_play_X3_at : GoodIn wsX0_play (wsV RX0 29 RX3 yX3_at wsX3_at) := goodIn_app (goodIn_of _ (by decide +kernel)) ggX0_play_X3_at
set_option maxRecDepth 20000 in
theorem ggX0_play_X0_canDo : GoodIn wsX0_play wsX0_canDo := goodIn_r _ [35, 1, 36, 37, 3, 38, 39, 40, 7, 41, 16, 42, 43, 44, 45, 17, 9, 14, 18, 15, 46, 47, 48, 49, 50, 51, 52, 53, 54, 55, 56, 57, 58, 19, 59, 60, 61, 62, 63, 64, 65, 66, 67, 68] (by decide +kernel) (by decide +kernel)
set_option maxRecDepth 20000 in
theorem gX0_play_X0_canDo : GoodIn wsX0_play (wsV RX0 35 RX0 yX0_canDo wsX0_canDo) := goodIn_app (goodIn_of _ (by decide +kernel)) ggX0_play_X0_canDo
theorem dX0_play_0 : decode cX0_play 0 = .ok (.aload_n 0, 1) := by decide +kernel
theorem dX0_play_1 : decode cX0_play 1 = .ok (.getfield 12, 3) := by decide +kernel
theorem dX0_play_4 : decode cX0_play 4 = .ok (.aload_n 1, 1) := by decide +kernel
theorem dX0_play_5 : decode cX0_play 5 = .ok (.invokevirtual 18, 3) := by decide +kernel
theorem dX0_play_8 : decode cX0_play 8 = .ok (.aload_n 0, 1) := by decide +kernel
theorem dX0_play_9 : decode cX0_play 9 = .ok (.bipush (-9), 2) := by decide +kernel
theorem dX0_play_11 : decode cX0_play 11 = .ok (.putfield 22, 3) := by decide +kernel
theorem dX0_play_14 : decode cX0_play 14 = .ok (.aload_n 0, 1) := by decide +kernel
theorem dX0_play_15 : decode cX0_play 15 = .ok (.iconst 0, 1) := by decide +kernel
theorem dX0_play_16 : decode cX0_play 16 = .ok (.putfield 26, 3) := by decide +kernel
theorem dX0_play_19 : decode cX0_play 19 = .ok (.iconst 0, 1) := by decide +kernel
theorem dX0_play_20 : decode cX0_play 20 = .ok (.istore 5, 2) := by decide +kernel
theorem dX0_play_22 : decode cX0_play 22 = .ok (.iload 5, 2) := by decide +kernel
theorem dX0_play_24 : decode cX0_play 24 = .ok (.iload 4, 2) := by decide +kernel
theorem dX0_play_26 : decode cX0_play 26 = .ok (.if_icmp .ge 53, 3) := by decide +kernel
theorem dX0_play_29 : decode cX0_play 29 = .ok (.aload_n 0, 1) := by decide +kernel
theorem dX0_play_30 : decode cX0_play 30 = .ok (.getfield 22, 3) := by decide +kernel
theorem dX0_play_33 : decode cX0_play 33 = .ok (.bipush (-9), 2) := by decide +kernel
theorem dX0_play_35 : decode cX0_play 35 = .ok (.if_icmp .ne 44, 3) := by decide +kernel
theorem dX0_play_38 : decode cX0_play 38 = .ok (.aload_n 0, 1) := by decide +kernel
theorem dX0_play_39 : decode cX0_play 39 = .ok (.aload_n 2, 1) := by decide +kernel
theorem dX0_play_40 : decode cX0_play 40 = .ok (.iload_n 3, 1) := by decide +kernel
theorem dX0_play_41 : decode cX0_play 41 = .ok (.iconst 2, 1) := by decide +kernel
theorem dX0_play_42 : decode cX0_play 42 = .ok (.iload 5, 2) := by decide +kernel
theorem dX0_play_44 : decode cX0_play 44 = .ok (.imul, 1) := by decide +kernel
theorem dX0_play_45 : decode cX0_play 45 = .ok (.iadd, 1) := by decide +kernel
theorem dX0_play_46 : decode cX0_play 46 = .ok (.invokevirtual 29, 3) := by decide +kernel
theorem dX0_play_49 : decode cX0_play 49 = .ok (.aload_n 2, 1) := by decide +kernel
theorem dX0_play_50 : decode cX0_play 50 = .ok (.iload_n 3, 1) := by decide +kernel
theorem dX0_play_51 : decode cX0_play 51 = .ok (.iconst 2, 1) := by decide +kernel
theorem dX0_play_52 : decode cX0_play 52 = .ok (.iload 5, 2) := by decide +kernel
theorem dX0_play_54 : decode cX0_play 54 = .ok (.imul, 1) := by decide +kernel
theorem dX0_play_55 : decode cX0_play 55 = .ok (.iadd, 1) := by decide +kernel
theorem dX0_play_56 : decode cX0_play 56 = .ok (.iconst 1, 1) := by decide +kernel
theorem dX0_play_57 : decode cX0_play 57 = .ok (.iadd, 1) := by decide +kernel
theorem dX0_play_58 : decode cX0_play 58 = .ok (.invokevirtual 29, 3) := by decide +kernel
theorem dX0_play_61 : decode cX0_play 61 = .ok (.invokevirtual 35, 3) := by decide +kernel
theorem dX0_play_64 : decode cX0_play 64 = .ok (.ifCond .ne 9, 3) := by decide +kernel
theorem dX0_play_67 : decode cX0_play 67 = .ok (.aload_n 0, 1) := by decide +kernel
theorem dX0_play_68 : decode cX0_play 68 = .ok (.iload 5, 2) := by decide +kernel
theorem dX0_play_70 : decode cX0_play 70 = .ok (.putfield 22, 3) := by decide +kernel
theorem dX0_play_73 : decode cX0_play 73 = .ok (.iinc 5 1, 3) := by decide +kernel
theorem dX0_play_76 : decode cX0_play 76 = .ok (.goto (-54), 3) := by decide +kernel
theorem dX0_play_79 : decode cX0_play 79 = .ok (.return_, 1) := by decide +kernel
set_option maxRecDepth 20000 in
theorem ggX0_canDo_X4_dropTop : GoodIn wsX0_canDo wsX4_dropTop := goodIn_r _ [9, 10, 37, 38, 39, 40, 41, 42, 43] (by decide +kernel) (by decide +kernel)
set_option maxRecDepth 20000 in
theorem gX0_canDo_X4_dropTop : GoodIn wsX0_canDo (wsV RX0 39 RX4 yX4_dropTop wsX4_dropTop) := goodIn_app (goodIn_of _ (by decide +kernel)) ggX0_canDo_X4_dropTop
set_option maxRecDepth 20000 in
theorem ggX0_canDo_X4_wishAt : GoodIn wsX0_canDo wsX4_wishAt := goodIn_r _ [14, 15, 16, 17, 18, 19, 20, 21, 22, 8, 23, 10, 24, 25, 26, 27, 28, 37, 38, 39, 40, 41, 42, 43] (by decide +kernel) (by decide +kernel)
set_option maxRecDepth 20000 in
theorem gX0_canDo_X4_wishAt : GoodIn wsX0_canDo (wsV RX0 49 RX4 yX4_wishAt wsX4_wishAt) := goodIn_app (goodIn_of _ (by decide +kernel)) ggX0_canDo_X4_wishAt
set_option maxRecDepth 20000 in
theorem ggX0_canDo_X4_addTop : GoodIn wsX0_canDo wsX4_addTop := goodIn_r _ [32, 10, 16, 17, 19, 33, 37, 38, 39, 40, 41, 42, 43] (by decide +kernel) (by decide +kernel)
set_option maxRecDepth 20000 in
theorem gX0_canDo_X4_addTop : GoodIn wsX0_canDo (wsV RX0 52 RX4 yX4_addTop wsX4_addTop) := goodIn_app (goodIn_of _ (by decide +kernel)) ggX0_canDo_X4_addTop
theorem dX0_canDo_0 : decode cX0_canDo 0 = .ok (.iload_n 2, 1) := by decide +kernel
theorem dX0_canDo_1 : decode cX0_canDo 1 = .ok (.iconst 4, 1) := by decide +kernel
theorem dX0_canDo_2 : decode cX0_canDo 2 = .ok (.if_icmp .ne 11, 3) := by decide +kernel
theorem dX0_canDo_5 : decode cX0_canDo 5 = .ok (.aload_n 0, 1) := by decide +kernel
theorem dX0_canDo_6 : decode cX0_canDo 6 = .ok (.getfield 12, 3) := by decide +kernel
theorem dX0_canDo_9 : decode cX0_canDo 9 = .ok (.invokevirtual 39, 3) := by decide +kernel
theorem dX0_canDo_12 : decode cX0_canDo 12 = .ok (.ireturn, 1) := by decide +kernel
theorem dX0_canDo_13 : decode cX0_canDo 13 = .ok (.iload_n 2, 1) := by decide +kernel
theorem dX0_canDo_14 : decode cX0_canDo 14 = .ok (.iconst 3, 1) := by decide +kernel
theorem dX0_canDo_15 : decode cX0_canDo 15 = .ok (.if_icmp .ne 18, 3) := by decide +kernel
theorem dX0_canDo_18 : decode cX0_canDo 18 = .ok (.aload_n 0, 1) := by decide +kernel
theorem dX0_canDo_19 : decode cX0_canDo 19 = .ok (.getfield 12, 3) := by decide +kernel
theorem dX0_canDo_22 : decode cX0_canDo 22 = .ok (.dup, 1) := by decide +kernel
theorem dX0_canDo_23 : decode cX0_canDo 23 = .ok (.getfield 43, 3) := by decide +kernel
theorem dX0_canDo_26 : decode cX0_canDo 26 = .ok (.iload_n 1, 1) := by decide +kernel
theorem dX0_canDo_27 : decode cX0_canDo 27 = .ok (.iadd, 1) := by decide +kernel
theorem dX0_canDo_28 : decode cX0_canDo 28 = .ok (.putfield 43, 3) := by decide +kernel
theorem dX0_canDo_31 : decode cX0_canDo 31 = .ok (.iconst 1, 1) := by decide +kernel
theorem dX0_canDo_32 : decode cX0_canDo 32 = .ok (.ireturn, 1) := by decide +kernel
theorem dX0_canDo_33 : decode cX0_canDo 33 = .ok (.aload_n 0, 1) := by decide +kernel
theorem dX0_canDo_34 : decode cX0_canDo 34 = .ok (.getfield 12, 3) := by decide +kernel
theorem dX0_canDo_37 : decode cX0_canDo 37 = .ok (.aload_n 0, 1) := by decide +kernel
theorem dX0_canDo_38 : decode cX0_canDo 38 = .ok (.getfield 12, 3) := by decide +kernel
theorem dX0_canDo_41 : decode cX0_canDo 41 = .ok (.getfield 46, 3) := by decide +kernel
theorem dX0_canDo_44 : decode cX0_canDo 44 = .ok (.iconst 1, 1) := by decide +kernel
theorem dX0_canDo_45 : decode cX0_canDo 45 = .ok (.isub, 1) := by decide +kernel
theorem dX0_canDo_46 : decode cX0_canDo 46 = .ok (.invokevirtual 49, 3) := by decide +kernel
theorem dX0_canDo_49 : decode cX0_canDo 49 = .ok (.istore_n 3, 1) := by decide +kernel
theorem dX0_canDo_50 : decode cX0_canDo 50 = .ok (.aload_n 0, 1) := by decide +kernel
theorem dX0_canDo_51 : decode cX0_canDo 51 = .ok (.getfield 12, 3) := by decide +kernel
theorem dX0_canDo_54 : decode cX0_canDo 54 = .ok (.iload_n 2, 1) := by decide +kernel
theorem dX0_canDo_55 : decode cX0_canDo 55 = .ok (.iload_n 1, 1) := by decide +kernel
theorem dX0_canDo_56 : decode cX0_canDo 56 = .ok (.invokevirtual 52, 3) := by decide +kernel
theorem dX0_canDo_59 : decode cX0_canDo 59 = .ok (.ifCond .ne 5, 3) := by decide +kernel
theorem dX0_canDo_62 : decode cX0_canDo 62 = .ok (.iconst 0, 1) := by decide +kernel
theorem dX0_canDo_63 : decode cX0_canDo 63 = .ok (.ireturn, 1) := by decide +kernel
theorem dX0_canDo_64 : decode cX0_canDo 64 = .ok (.aload_n 0, 1) := by decide +kernel
theorem dX0_canDo_65 : decode cX0_canDo 65 = .ok (.getfield 12, 3) := by decide +kernel
theorem dX0_canDo_68 : decode cX0_canDo 68 = .ok (.aload_n 0, 1) := by decide +kernel
theorem dX0_canDo_69 : decode cX0_canDo 69 = .ok (.getfield 12, 3) := by decide +kernel
theorem dX0_canDo_72 : decode cX0_canDo 72 = .ok (.getfield 46, 3) := by decide +kernel
theorem dX0_canDo_75 : decode cX0_canDo 75 = .ok (.iconst 1, 1) := by decide +kernel
theorem dX0_canDo_76 : decode cX0_canDo 76 = .ok (.isub, 1) := by decide +kernel
theorem dX0_canDo_77 : decode cX0_canDo 77 = .ok (.invokevirtual 49, 3) := by decide +kernel
theorem dX0_canDo_80 : decode cX0_canDo 80 = .ok (.iload_n 3, 1) := by decide +kernel
theorem dX0_canDo_81 : decode cX0_canDo 81 = .ok (.if_icmp .ne 13, 3) := by decide +kernel
theorem dX0_canDo_84 : decode cX0_canDo 84 = .ok (.aload_n 0, 1) := by decide +kernel
theorem dX0_canDo_85 : decode cX0_canDo 85 = .ok (.dup, 1) := by decide +kernel
theorem dX0_canDo_86 : decode cX0_canDo 86 = .ok (.getfield 26, 3) := by decide +kernel
theorem dX0_canDo_89 : decode cX0_canDo 89 = .ok (.iconst 1, 1) := by decide +kernel
theorem dX0_canDo_90 : decode cX0_canDo 90 = .ok (.iadd, 1) := by decide +kernel
theorem dX0_canDo_91 : decode cX0_canDo 91 = .ok (.putfield 26, 3) := by decide +kernel
theorem dX0_canDo_94 : decode cX0_canDo 94 = .ok (.iconst 1, 1) := by decide +kernel
theorem dX0_canDo_95 : decode cX0_canDo 95 = .ok (.ireturn, 1) := by decide +kernel
set_option maxRecDepth 20000 in
theorem ggX0_told_X0_allWishes : GoodIn wsX0_told wsX0_allWishes := goodIn_r _ [10, 2, 3, 11, 12, 13, 14, 15, 16, 17, 18, 19, 20, 21, 22, 23, 24, 25, 26, 27, 28, 29, 30, 31, 32, 33, 34, 35, 36, 37, 38, 39, 40] (by decide +kernel) (by decide +kernel)
set_option maxRecDepth 20000 in
theorem gX0_told_X0_allWishes : GoodIn wsX0_told (wsV RX0 55 RX0 yX0_allWishes wsX0_allWishes) := goodIn_app (goodIn_of _ (by decide +kernel)) ggX0_told_X0_allWishes
set_option maxRecDepth 20000 in
theorem ggX0_told_X4_wishAt : GoodIn wsX0_told wsX4_wishAt := goodIn_r _ [15, 16, 17, 18, 19, 20, 21, 22, 23, 14, 24, 25, 26, 27, 28, 29, 30, 34, 35, 36, 37, 38, 39, 40] (by decide +kernel) (by decide +kernel)
set_option maxRecDepth 20000 in
theorem gX0_told_X4_wishAt : GoodIn wsX0_told (wsV RX0 49 RX4 yX4_wishAt wsX4_wishAt) := goodIn_app (goodIn_of _ (by decide +kernel)) ggX0_told_X4_wishAt
theorem dX0_told_0 : decode cX0_told 0 = .ok (.iload_n 1, 1) := by decide +kernel
theorem dX0_told_1 : decode cX0_told 1 = .ok (.iconst 1, 1) := by decide +kernel
theorem dX0_told_2 : decode cX0_told 2 = .ok (.if_icmp .ne 8, 3) := by decide +kernel
theorem dX0_told_5 : decode cX0_told 5 = .ok (.aload_n 0, 1) := by decide +kernel
theorem dX0_told_6 : decode cX0_told 6 = .ok (.getfield 22, 3) := by decide +kernel
theorem dX0_told_9 : decode cX0_told 9 = .ok (.ireturn, 1) := by decide +kernel
theorem dX0_told_10 : decode cX0_told 10 = .ok (.aload_n 0, 1) := by decide +kernel
theorem dX0_told_11 : decode cX0_told 11 = .ok (.getfield 22, 3) := by decide +kernel
theorem dX0_told_14 : decode cX0_told 14 = .ok (.bipush (-9), 2) := by decide +kernel
theorem dX0_told_16 : decode cX0_told 16 = .ok (.if_icmp .eq 11, 3) := by decide +kernel
theorem dX0_told_19 : decode cX0_told 19 = .ok (.bipush (-100), 2) := by decide +kernel
theorem dX0_told_21 : decode cX0_told 21 = .ok (.aload_n 0, 1) := by decide +kernel
theorem dX0_told_22 : decode cX0_told 22 = .ok (.getfield 22, 3) := by decide +kernel
theorem dX0_told_25 : decode cX0_told 25 = .ok (.isub, 1) := by decide +kernel
theorem dX0_told_26 : decode cX0_told 26 = .ok (.ireturn, 1) := by decide +kernel
theorem dX0_told_27 : decode cX0_told 27 = .ok (.iload_n 1, 1) := by decide +kernel
theorem dX0_told_28 : decode cX0_told 28 = .ok (.tableswitch 62 0 4 #[36, 62, 44, 49, 57], 36) := by decide +kernel
theorem dX0_told_64 : decode cX0_told 64 = .ok (.aload_n 0, 1) := by decide +kernel
theorem dX0_told_65 : decode cX0_told 65 = .ok (.getfield 12, 3) := by decide +kernel
theorem dX0_told_68 : decode cX0_told 68 = .ok (.getfield 46, 3) := by decide +kernel
theorem dX0_told_71 : decode cX0_told 71 = .ok (.ireturn, 1) := by decide +kernel
theorem dX0_told_72 : decode cX0_told 72 = .ok (.aload_n 0, 1) := by decide +kernel
theorem dX0_told_73 : decode cX0_told 73 = .ok (.getfield 26, 3) := by decide +kernel
theorem dX0_told_76 : decode cX0_told 76 = .ok (.ireturn, 1) := by decide +kernel
theorem dX0_told_77 : decode cX0_told 77 = .ok (.aload_n 0, 1) := by decide +kernel
theorem dX0_told_78 : decode cX0_told 78 = .ok (.getfield 12, 3) := by decide +kernel
theorem dX0_told_81 : decode cX0_told 81 = .ok (.getfield 43, 3) := by decide +kernel
theorem dX0_told_84 : decode cX0_told 84 = .ok (.ireturn, 1) := by decide +kernel
theorem dX0_told_85 : decode cX0_told 85 = .ok (.aload_n 0, 1) := by decide +kernel
theorem dX0_told_86 : decode cX0_told 86 = .ok (.invokevirtual 55, 3) := by decide +kernel
theorem dX0_told_89 : decode cX0_told 89 = .ok (.ireturn, 1) := by decide +kernel
theorem dX0_told_90 : decode cX0_told 90 = .ok (.aload_n 0, 1) := by decide +kernel
theorem dX0_told_91 : decode cX0_told 91 = .ok (.getfield 12, 3) := by decide +kernel
theorem dX0_told_94 : decode cX0_told 94 = .ok (.iload_n 1, 1) := by decide +kernel
theorem dX0_told_95 : decode cX0_told 95 = .ok (.bipush 10, 2) := by decide +kernel
theorem dX0_told_97 : decode cX0_told 97 = .ok (.isub, 1) := by decide +kernel
theorem dX0_told_98 : decode cX0_told 98 = .ok (.invokevirtual 49, 3) := by decide +kernel
theorem dX0_told_101 : decode cX0_told 101 = .ok (.ireturn, 1) := by decide +kernel
set_option maxRecDepth 20000 in
theorem ggX0_allWishes_X4_wishAt : GoodIn wsX0_allWishes wsX4_wishAt := goodIn_r _ [7, 8, 9, 10, 11, 12, 13, 14, 15, 6, 16, 17, 18, 19, 20, 21, 22, 26, 27, 28, 29, 30, 31, 32] (by decide +kernel) (by decide +kernel)
set_option maxRecDepth 20000 in
theorem gX0_allWishes_X4_wishAt : GoodIn wsX0_allWishes (wsV RX0 49 RX4 yX4_wishAt wsX4_wishAt) := goodIn_app (goodIn_of _ (by decide +kernel)) ggX0_allWishes_X4_wishAt
theorem dX0_allWishes_0 : decode cX0_allWishes 0 = .ok (.iconst 0, 1) := by decide +kernel
theorem dX0_allWishes_1 : decode cX0_allWishes 1 = .ok (.istore_n 1, 1) := by decide +kernel
theorem dX0_allWishes_2 : decode cX0_allWishes 2 = .ok (.iconst 0, 1) := by decide +kernel
theorem dX0_allWishes_3 : decode cX0_allWishes 3 = .ok (.istore_n 2, 1) := by decide +kernel
theorem dX0_allWishes_4 : decode cX0_allWishes 4 = .ok (.iload_n 2, 1) := by decide +kernel
theorem dX0_allWishes_5 : decode cX0_allWishes 5 = .ok (.aload_n 0, 1) := by decide +kernel
theorem dX0_allWishes_6 : decode cX0_allWishes 6 = .ok (.getfield 12, 3) := by decide +kernel
theorem dX0_allWishes_9 : decode cX0_allWishes 9 = .ok (.getfield 46, 3) := by decide +kernel
theorem dX0_allWishes_12 : decode cX0_allWishes 12 = .ok (.if_icmp .ge 22, 3) := by decide +kernel
theorem dX0_allWishes_15 : decode cX0_allWishes 15 = .ok (.iload_n 1, 1) := by decide +kernel
theorem dX0_allWishes_16 : decode cX0_allWishes 16 = .ok (.iconst 1, 1) := by decide +kernel
theorem dX0_allWishes_17 : decode cX0_allWishes 17 = .ok (.aload_n 0, 1) := by decide +kernel
theorem dX0_allWishes_18 : decode cX0_allWishes 18 = .ok (.getfield 12, 3) := by decide +kernel
theorem dX0_allWishes_21 : decode cX0_allWishes 21 = .ok (.iload_n 2, 1) := by decide +kernel
theorem dX0_allWishes_22 : decode cX0_allWishes 22 = .ok (.invokevirtual 49, 3) := by decide +kernel
theorem dX0_allWishes_25 : decode cX0_allWishes 25 = .ok (.ishl, 1) := by decide +kernel
theorem dX0_allWishes_26 : decode cX0_allWishes 26 = .ok (.ior, 1) := by decide +kernel
theorem dX0_allWishes_27 : decode cX0_allWishes 27 = .ok (.istore_n 1, 1) := by decide +kernel
theorem dX0_allWishes_28 : decode cX0_allWishes 28 = .ok (.iinc 2 1, 3) := by decide +kernel
theorem dX0_allWishes_31 : decode cX0_allWishes 31 = .ok (.goto (-27), 3) := by decide +kernel
theorem dX0_allWishes_34 : decode cX0_allWishes 34 = .ok (.iload_n 1, 1) := by decide +kernel
theorem dX0_allWishes_35 : decode cX0_allWishes 35 = .ok (.ireturn, 1) := by decide +kernel
theorem dX1_init_0 : decode cX1_init 0 = .ok (.aload_n 0, 1) := by decide +kernel
theorem dX1_init_1 : decode cX1_init 1 = .ok (.invokespecial 3, 3) := by decide +kernel
theorem dX1_init_4 : decode cX1_init 4 = .ok (.aload_n 0, 1) := by decide +kernel
theorem dX1_init_5 : decode cX1_init 5 = .ok (.bipush 9, 2) := by decide +kernel
theorem dX1_init_7 : decode cX1_init 7 = .ok (.newarray .int, 2) := by decide +kernel
theorem dX1_init_9 : decode cX1_init 9 = .ok (.putfield 9, 3) := by decide +kernel
theorem dX1_init_12 : decode cX1_init 12 = .ok (.aload_n 0, 1) := by decide +kernel
theorem dX1_init_13 : decode cX1_init 13 = .ok (.bipush 9, 2) := by decide +kernel
theorem dX1_init_15 : decode cX1_init 15 = .ok (.newarray .int, 2) := by decide +kernel
theorem dX1_init_17 : decode cX1_init 17 = .ok (.putfield 15, 3) := by decide +kernel
theorem dX1_init_20 : decode cX1_init 20 = .ok (.aload_n 0, 1) := by decide +kernel
theorem dX1_init_21 : decode cX1_init 21 = .ok (.bipush 6, 2) := by decide +kernel
theorem dX1_init_23 : decode cX1_init 23 = .ok (.newarray .int, 2) := by decide +kernel
theorem dX1_init_25 : decode cX1_init 25 = .ok (.putfield 18, 3) := by decide +kernel
theorem dX1_init_28 : decode cX1_init 28 = .ok (.return_, 1) := by decide +kernel
set_option maxRecDepth 20000 in
theorem ggX1_ask_X3_at : GoodIn wsX1_ask wsX3_at := goodIn_r _ [17, 18, 19, 20, 21, 16, 22, 23, 65, 66, 67] (by decide +kernel) (by decide +kernel)
set_option maxRecDepth 20000 in
theorem gX1_ask_X3_at : GoodIn wsX1_ask (wsV RX1 34 RX3 yX3_at wsX3_at) := goodIn_app (goodIn_of _ (by decide +kernel)) ggX1_ask_X3_at
set_option maxRecDepth 20000 in
theorem ggX1_ask_X4_turnAt : GoodIn wsX1_ask wsX4_turnAt := goodIn_r _ [28, 29, 30, 31, 32, 33, 27, 34, 35, 36, 37, 38, 53, 54, 55, 56, 57, 58, 59] (by decide +kernel) (by decide +kernel)
set_option maxRecDepth 20000 in
theorem gX1_ask_X4_turnAt : GoodIn wsX1_ask (wsV RX1 43 RX4 yX4_turnAt wsX4_turnAt) := goodIn_app (goodIn_of _ (by decide +kernel)) ggX1_ask_X4_turnAt
set_option maxRecDepth 20000 in
theorem ggX1_ask_J9_floorMod_7cf53 : GoodIn wsX1_ask wsJ9_floorMod_7cf53 := goodIn_r _ [42] (by decide +kernel) (by decide +kernel)
set_option maxRecDepth 20000 in
theorem gX1_ask_J9_floorMod_7cf53 : GoodIn wsX1_ask (va_wsS RX1 46 yJ9_floorMod_7cf53 wsJ9_floorMod_7cf53) := goodIn_app (goodIn_of _ (by decide +kernel)) ggX1_ask_J9_floorMod_7cf53
set_option maxRecDepth 20000 in
theorem ggX1_ask_X4_yearAt : GoodIn wsX1_ask wsX4_yearAt := goodIn_r _ [46, 47, 31, 32, 33, 27, 34, 35, 53, 54, 55, 56, 57, 58, 59] (by decide +kernel) (by decide +kernel)
set_option maxRecDepth 20000 in
theorem gX1_ask_X4_yearAt : GoodIn wsX1_ask (wsV RX1 52 RX4 yX4_yearAt wsX4_yearAt) := goodIn_app (goodIn_of _ (by decide +kernel)) ggX1_ask_X4_yearAt
set_option maxRecDepth 20000 in
theorem ggX1_ask_X1_countWays : GoodIn wsX1_ask wsX1_countWays := goodIn_r _ [52, 6, 10, 7, 60, 61, 62, 63, 64] (by decide +kernel) (by decide +kernel)
set_option maxRecDepth 20000 in
theorem gX1_ask_X1_countWays : GoodIn wsX1_ask (wsV RX1 55 RX1 yX1_countWays wsX1_countWays) := goodIn_app (goodIn_of _ (by decide +kernel)) ggX1_ask_X1_countWays
theorem dX1_ask_0 : decode cX1_ask 0 = .ok (.aload_n 0, 1) := by decide +kernel
theorem dX1_ask_1 : decode cX1_ask 1 = .ok (.aload_n 1, 1) := by decide +kernel
theorem dX1_ask_2 : decode cX1_ask 2 = .ok (.getfield 21, 3) := by decide +kernel
theorem dX1_ask_5 : decode cX1_ask 5 = .ok (.bipush 9, 2) := by decide +kernel
theorem dX1_ask_7 : decode cX1_ask 7 = .ok (.invokestatic 27, 3) := by decide +kernel
theorem dX1_ask_10 : decode cX1_ask 10 = .ok (.putfield 33, 3) := by decide +kernel
theorem dX1_ask_13 : decode cX1_ask 13 = .ok (.iconst 0, 1) := by decide +kernel
theorem dX1_ask_14 : decode cX1_ask 14 = .ok (.istore 4, 2) := by decide +kernel
theorem dX1_ask_16 : decode cX1_ask 16 = .ok (.iload 4, 2) := by decide +kernel
theorem dX1_ask_18 : decode cX1_ask 18 = .ok (.bipush 6, 2) := by decide +kernel
theorem dX1_ask_20 : decode cX1_ask 20 = .ok (.if_icmp .ge 17, 3) := by decide +kernel
theorem dX1_ask_23 : decode cX1_ask 23 = .ok (.aload_n 0, 1) := by decide +kernel
theorem dX1_ask_24 : decode cX1_ask 24 = .ok (.getfield 18, 3) := by decide +kernel
theorem dX1_ask_27 : decode cX1_ask 27 = .ok (.iload 4, 2) := by decide +kernel
theorem dX1_ask_29 : decode cX1_ask 29 = .ok (.iconst 0, 1) := by decide +kernel
theorem dX1_ask_30 : decode cX1_ask 30 = .ok (.iastore, 1) := by decide +kernel
theorem dX1_ask_31 : decode cX1_ask 31 = .ok (.iinc 4 1, 3) := by decide +kernel
theorem dX1_ask_34 : decode cX1_ask 34 = .ok (.goto (-18), 3) := by decide +kernel
theorem dX1_ask_37 : decode cX1_ask 37 = .ok (.iconst 0, 1) := by decide +kernel
theorem dX1_ask_38 : decode cX1_ask 38 = .ok (.istore 4, 2) := by decide +kernel
theorem dX1_ask_40 : decode cX1_ask 40 = .ok (.iload 4, 2) := by decide +kernel
theorem dX1_ask_42 : decode cX1_ask 42 = .ok (.aload_n 0, 1) := by decide +kernel
theorem dX1_ask_43 : decode cX1_ask 43 = .ok (.getfield 33, 3) := by decide +kernel
theorem dX1_ask_46 : decode cX1_ask 46 = .ok (.if_icmp .ge 96, 3) := by decide +kernel
theorem dX1_ask_49 : decode cX1_ask 49 = .ok (.aload_n 2, 1) := by decide +kernel
theorem dX1_ask_50 : decode cX1_ask 50 = .ok (.iload_n 3, 1) := by decide +kernel
theorem dX1_ask_51 : decode cX1_ask 51 = .ok (.iload 4, 2) := by decide +kernel
theorem dX1_ask_53 : decode cX1_ask 53 = .ok (.iadd, 1) := by decide +kernel
theorem dX1_ask_54 : decode cX1_ask 54 = .ok (.invokevirtual 34, 3) := by decide +kernel
theorem dX1_ask_57 : decode cX1_ask 57 = .ok (.istore 5, 2) := by decide +kernel
theorem dX1_ask_59 : decode cX1_ask 59 = .ok (.aload_n 0, 1) := by decide +kernel
theorem dX1_ask_60 : decode cX1_ask 60 = .ok (.getfield 9, 3) := by decide +kernel
theorem dX1_ask_63 : decode cX1_ask 63 = .ok (.iload 4, 2) := by decide +kernel
theorem dX1_ask_65 : decode cX1_ask 65 = .ok (.aload_n 1, 1) := by decide +kernel
theorem dX1_ask_66 : decode cX1_ask 66 = .ok (.getfield 40, 3) := by decide +kernel
theorem dX1_ask_69 : decode cX1_ask 69 = .ok (.aload_n 1, 1) := by decide +kernel
theorem dX1_ask_70 : decode cX1_ask 70 = .ok (.iload 4, 2) := by decide +kernel
theorem dX1_ask_72 : decode cX1_ask 72 = .ok (.invokevirtual 43, 3) := by decide +kernel
theorem dX1_ask_75 : decode cX1_ask 75 = .ok (.imul, 1) := by decide +kernel
theorem dX1_ask_76 : decode cX1_ask 76 = .ok (.bipush 6, 2) := by decide +kernel
theorem dX1_ask_78 : decode cX1_ask 78 = .ok (.invokestatic 46, 3) := by decide +kernel
theorem dX1_ask_81 : decode cX1_ask 81 = .ok (.iastore, 1) := by decide +kernel
theorem dX1_ask_82 : decode cX1_ask 82 = .ok (.aload_n 0, 1) := by decide +kernel
theorem dX1_ask_83 : decode cX1_ask 83 = .ok (.getfield 15, 3) := by decide +kernel
theorem dX1_ask_86 : decode cX1_ask 86 = .ok (.iload 4, 2) := by decide +kernel
theorem dX1_ask_88 : decode cX1_ask 88 = .ok (.iload 5, 2) := by decide +kernel
theorem dX1_ask_90 : decode cX1_ask 90 = .ok (.bipush 6, 2) := by decide +kernel
theorem dX1_ask_92 : decode cX1_ask 92 = .ok (.if_icmp .ne 8, 3) := by decide +kernel
theorem dX1_ask_95 : decode cX1_ask 95 = .ok (.bipush 6, 2) := by decide +kernel
theorem dX1_ask_97 : decode cX1_ask 97 = .ok (.goto 22, 3) := by decide +kernel
theorem dX1_ask_100 : decode cX1_ask 100 = .ok (.iload 5, 2) := by decide +kernel
theorem dX1_ask_102 : decode cX1_ask 102 = .ok (.aload_n 1, 1) := by decide +kernel
theorem dX1_ask_103 : decode cX1_ask 103 = .ok (.getfield 49, 3) := by decide +kernel
theorem dX1_ask_106 : decode cX1_ask 106 = .ok (.aload_n 1, 1) := by decide +kernel
theorem dX1_ask_107 : decode cX1_ask 107 = .ok (.iload 4, 2) := by decide +kernel
theorem dX1_ask_109 : decode cX1_ask 109 = .ok (.invokevirtual 52, 3) := by decide +kernel
theorem dX1_ask_112 : decode cX1_ask 112 = .ok (.imul, 1) := by decide +kernel
theorem dX1_ask_113 : decode cX1_ask 113 = .ok (.isub, 1) := by decide +kernel
theorem dX1_ask_114 : decode cX1_ask 114 = .ok (.bipush 6, 2) := by decide +kernel
theorem dX1_ask_116 : decode cX1_ask 116 = .ok (.invokestatic 46, 3) := by decide +kernel
theorem dX1_ask_119 : decode cX1_ask 119 = .ok (.iastore, 1) := by decide +kernel
theorem dX1_ask_120 : decode cX1_ask 120 = .ok (.aload_n 0, 1) := by decide +kernel
theorem dX1_ask_121 : decode cX1_ask 121 = .ok (.getfield 18, 3) := by decide +kernel
theorem dX1_ask_124 : decode cX1_ask 124 = .ok (.aload_n 0, 1) := by decide +kernel
theorem dX1_ask_125 : decode cX1_ask 125 = .ok (.getfield 9, 3) := by decide +kernel
theorem dX1_ask_128 : decode cX1_ask 128 = .ok (.iload 4, 2) := by decide +kernel
theorem dX1_ask_130 : decode cX1_ask 130 = .ok (.iaload, 1) := by decide +kernel
theorem dX1_ask_131 : decode cX1_ask 131 = .ok (.dup2, 1) := by decide +kernel
theorem dX1_ask_132 : decode cX1_ask 132 = .ok (.iaload, 1) := by decide +kernel
theorem dX1_ask_133 : decode cX1_ask 133 = .ok (.iconst 1, 1) := by decide +kernel
theorem dX1_ask_134 : decode cX1_ask 134 = .ok (.iadd, 1) := by decide +kernel
theorem dX1_ask_135 : decode cX1_ask 135 = .ok (.iastore, 1) := by decide +kernel
theorem dX1_ask_136 : decode cX1_ask 136 = .ok (.iinc 4 1, 3) := by decide +kernel
theorem dX1_ask_139 : decode cX1_ask 139 = .ok (.goto (-99), 3) := by decide +kernel
theorem dX1_ask_142 : decode cX1_ask 142 = .ok (.aload_n 0, 1) := by decide +kernel
theorem dX1_ask_143 : decode cX1_ask 143 = .ok (.aload_n 0, 1) := by decide +kernel
theorem dX1_ask_144 : decode cX1_ask 144 = .ok (.invokevirtual 55, 3) := by decide +kernel
theorem dX1_ask_147 : decode cX1_ask 147 = .ok (.putfield 59, 3) := by decide +kernel
theorem dX1_ask_150 : decode cX1_ask 150 = .ok (.return_, 1) := by decide +kernel
theorem dX1_countWays_0 : decode cX1_countWays 0 = .ok (.iconst 1, 1) := by decide +kernel
theorem dX1_countWays_1 : decode cX1_countWays 1 = .ok (.istore_n 1, 1) := by decide +kernel
theorem dX1_countWays_2 : decode cX1_countWays 2 = .ok (.iconst 0, 1) := by decide +kernel
theorem dX1_countWays_3 : decode cX1_countWays 3 = .ok (.istore_n 2, 1) := by decide +kernel
theorem dX1_countWays_4 : decode cX1_countWays 4 = .ok (.iconst 0, 1) := by decide +kernel
theorem dX1_countWays_5 : decode cX1_countWays 5 = .ok (.istore_n 3, 1) := by decide +kernel
theorem dX1_countWays_6 : decode cX1_countWays 6 = .ok (.iload_n 3, 1) := by decide +kernel
theorem dX1_countWays_7 : decode cX1_countWays 7 = .ok (.aload_n 0, 1) := by decide +kernel
theorem dX1_countWays_8 : decode cX1_countWays 8 = .ok (.getfield 33, 3) := by decide +kernel
theorem dX1_countWays_11 : decode cX1_countWays 11 = .ok (.if_icmp .ge 68, 3) := by decide +kernel
theorem dX1_countWays_14 : decode cX1_countWays 14 = .ok (.aload_n 0, 1) := by decide +kernel
theorem dX1_countWays_15 : decode cX1_countWays 15 = .ok (.getfield 15, 3) := by decide +kernel
theorem dX1_countWays_18 : decode cX1_countWays 18 = .ok (.iload_n 3, 1) := by decide +kernel
theorem dX1_countWays_19 : decode cX1_countWays 19 = .ok (.iaload, 1) := by decide +kernel
theorem dX1_countWays_20 : decode cX1_countWays 20 = .ok (.istore 4, 2) := by decide +kernel
theorem dX1_countWays_22 : decode cX1_countWays 22 = .ok (.iload 4, 2) := by decide +kernel
theorem dX1_countWays_24 : decode cX1_countWays 24 = .ok (.bipush 6, 2) := by decide +kernel
theorem dX1_countWays_26 : decode cX1_countWays 26 = .ok (.if_icmp .ne 13, 3) := by decide +kernel
theorem dX1_countWays_29 : decode cX1_countWays 29 = .ok (.iinc 2 1, 3) := by decide +kernel
theorem dX1_countWays_32 : decode cX1_countWays 32 = .ok (.iload_n 1, 1) := by decide +kernel
theorem dX1_countWays_33 : decode cX1_countWays 33 = .ok (.iload_n 2, 1) := by decide +kernel
theorem dX1_countWays_34 : decode cX1_countWays 34 = .ok (.imul, 1) := by decide +kernel
theorem dX1_countWays_35 : decode cX1_countWays 35 = .ok (.istore_n 1, 1) := by decide +kernel
theorem dX1_countWays_36 : decode cX1_countWays 36 = .ok (.goto 37, 3) := by decide +kernel
theorem dX1_countWays_39 : decode cX1_countWays 39 = .ok (.aload_n 0, 1) := by decide +kernel
theorem dX1_countWays_40 : decode cX1_countWays 40 = .ok (.getfield 18, 3) := by decide +kernel
theorem dX1_countWays_43 : decode cX1_countWays 43 = .ok (.iload 4, 2) := by decide +kernel
theorem dX1_countWays_45 : decode cX1_countWays 45 = .ok (.iaload, 1) := by decide +kernel
theorem dX1_countWays_46 : decode cX1_countWays 46 = .ok (.iconst 1, 1) := by decide +kernel
theorem dX1_countWays_47 : decode cX1_countWays 47 = .ok (.if_icmp .ge 5, 3) := by decide +kernel
theorem dX1_countWays_50 : decode cX1_countWays 50 = .ok (.iconst 0, 1) := by decide +kernel
theorem dX1_countWays_51 : decode cX1_countWays 51 = .ok (.ireturn, 1) := by decide +kernel
theorem dX1_countWays_52 : decode cX1_countWays 52 = .ok (.iload_n 1, 1) := by decide +kernel
theorem dX1_countWays_53 : decode cX1_countWays 53 = .ok (.aload_n 0, 1) := by decide +kernel
theorem dX1_countWays_54 : decode cX1_countWays 54 = .ok (.getfield 18, 3) := by decide +kernel
theorem dX1_countWays_57 : decode cX1_countWays 57 = .ok (.iload 4, 2) := by decide +kernel
theorem dX1_countWays_59 : decode cX1_countWays 59 = .ok (.iaload, 1) := by decide +kernel
theorem dX1_countWays_60 : decode cX1_countWays 60 = .ok (.imul, 1) := by decide +kernel
theorem dX1_countWays_61 : decode cX1_countWays 61 = .ok (.istore_n 1, 1) := by decide +kernel
theorem dX1_countWays_62 : decode cX1_countWays 62 = .ok (.aload_n 0, 1) := by decide +kernel
theorem dX1_countWays_63 : decode cX1_countWays 63 = .ok (.getfield 18, 3) := by decide +kernel
theorem dX1_countWays_66 : decode cX1_countWays 66 = .ok (.iload 4, 2) := by decide +kernel
theorem dX1_countWays_68 : decode cX1_countWays 68 = .ok (.dup2, 1) := by decide +kernel
theorem dX1_countWays_69 : decode cX1_countWays 69 = .ok (.iaload, 1) := by decide +kernel
theorem dX1_countWays_70 : decode cX1_countWays 70 = .ok (.iconst 1, 1) := by decide +kernel
theorem dX1_countWays_71 : decode cX1_countWays 71 = .ok (.isub, 1) := by decide +kernel
theorem dX1_countWays_72 : decode cX1_countWays 72 = .ok (.iastore, 1) := by decide +kernel
theorem dX1_countWays_73 : decode cX1_countWays 73 = .ok (.iinc 3 1, 3) := by decide +kernel
theorem dX1_countWays_76 : decode cX1_countWays 76 = .ok (.goto (-70), 3) := by decide +kernel
theorem dX1_countWays_79 : decode cX1_countWays 79 = .ok (.iload_n 1, 1) := by decide +kernel
theorem dX1_countWays_80 : decode cX1_countWays 80 = .ok (.ireturn, 1) := by decide +kernel
set_option maxRecDepth 20000 in
theorem ggX1_firstAt_X1_leastFor : GoodIn wsX1_firstAt wsX1_leastFor := goodIn_r _ [8, 2, 9, 10, 11, 12, 13, 14, 15] (by decide +kernel) (by decide +kernel)
set_option maxRecDepth 20000 in
theorem gX1_firstAt_X1_leastFor : GoodIn wsX1_firstAt (wsV RX1 62 RX1 yX1_leastFor wsX1_leastFor) := goodIn_app (goodIn_of _ (by decide +kernel)) ggX1_firstAt_X1_leastFor
theorem dX1_firstAt_0 : decode cX1_firstAt 0 = .ok (.aload_n 0, 1) := by decide +kernel
theorem dX1_firstAt_1 : decode cX1_firstAt 1 = .ok (.getfield 59, 3) := by decide +kernel
theorem dX1_firstAt_4 : decode cX1_firstAt 4 = .ok (.ifCond .ne 6, 3) := by decide +kernel
theorem dX1_firstAt_7 : decode cX1_firstAt 7 = .ok (.bipush (-9), 2) := by decide +kernel
theorem dX1_firstAt_9 : decode cX1_firstAt 9 = .ok (.ireturn, 1) := by decide +kernel
theorem dX1_firstAt_10 : decode cX1_firstAt 10 = .ok (.iconst 0, 1) := by decide +kernel
theorem dX1_firstAt_11 : decode cX1_firstAt 11 = .ok (.istore_n 2, 1) := by decide +kernel
theorem dX1_firstAt_12 : decode cX1_firstAt 12 = .ok (.iconst 0, 1) := by decide +kernel
theorem dX1_firstAt_13 : decode cX1_firstAt 13 = .ok (.istore_n 3, 1) := by decide +kernel
theorem dX1_firstAt_14 : decode cX1_firstAt 14 = .ok (.iload_n 3, 1) := by decide +kernel
theorem dX1_firstAt_15 : decode cX1_firstAt 15 = .ok (.aload_n 0, 1) := by decide +kernel
theorem dX1_firstAt_16 : decode cX1_firstAt 16 = .ok (.getfield 33, 3) := by decide +kernel
theorem dX1_firstAt_19 : decode cX1_firstAt 19 = .ok (.if_icmp .ge 44, 3) := by decide +kernel
theorem dX1_firstAt_22 : decode cX1_firstAt 22 = .ok (.aload_n 0, 1) := by decide +kernel
theorem dX1_firstAt_23 : decode cX1_firstAt 23 = .ok (.aload_n 0, 1) := by decide +kernel
theorem dX1_firstAt_24 : decode cX1_firstAt 24 = .ok (.getfield 15, 3) := by decide +kernel
theorem dX1_firstAt_27 : decode cX1_firstAt 27 = .ok (.iload_n 3, 1) := by decide +kernel
theorem dX1_firstAt_28 : decode cX1_firstAt 28 = .ok (.iaload, 1) := by decide +kernel
theorem dX1_firstAt_29 : decode cX1_firstAt 29 = .ok (.iload_n 2, 1) := by decide +kernel
theorem dX1_firstAt_30 : decode cX1_firstAt 30 = .ok (.invokevirtual 62, 3) := by decide +kernel
theorem dX1_firstAt_33 : decode cX1_firstAt 33 = .ok (.istore 4, 2) := by decide +kernel
theorem dX1_firstAt_35 : decode cX1_firstAt 35 = .ok (.iload_n 3, 1) := by decide +kernel
theorem dX1_firstAt_36 : decode cX1_firstAt 36 = .ok (.iload_n 1, 1) := by decide +kernel
theorem dX1_firstAt_37 : decode cX1_firstAt 37 = .ok (.if_icmp .eq 10, 3) := by decide +kernel
theorem dX1_firstAt_40 : decode cX1_firstAt 40 = .ok (.iload 4, 2) := by decide +kernel
theorem dX1_firstAt_42 : decode cX1_firstAt 42 = .ok (.bipush (-9), 2) := by decide +kernel
theorem dX1_firstAt_44 : decode cX1_firstAt 44 = .ok (.if_icmp .ne 6, 3) := by decide +kernel
theorem dX1_firstAt_47 : decode cX1_firstAt 47 = .ok (.iload 4, 2) := by decide +kernel
theorem dX1_firstAt_49 : decode cX1_firstAt 49 = .ok (.ireturn, 1) := by decide +kernel
theorem dX1_firstAt_50 : decode cX1_firstAt 50 = .ok (.iload_n 2, 1) := by decide +kernel
theorem dX1_firstAt_51 : decode cX1_firstAt 51 = .ok (.iconst 1, 1) := by decide +kernel
theorem dX1_firstAt_52 : decode cX1_firstAt 52 = .ok (.iload 4, 2) := by decide +kernel
theorem dX1_firstAt_54 : decode cX1_firstAt 54 = .ok (.ishl, 1) := by decide +kernel
theorem dX1_firstAt_55 : decode cX1_firstAt 55 = .ok (.ior, 1) := by decide +kernel
theorem dX1_firstAt_56 : decode cX1_firstAt 56 = .ok (.istore_n 2, 1) := by decide +kernel
theorem dX1_firstAt_57 : decode cX1_firstAt 57 = .ok (.iinc 3 1, 3) := by decide +kernel
theorem dX1_firstAt_60 : decode cX1_firstAt 60 = .ok (.goto (-46), 3) := by decide +kernel
theorem dX1_firstAt_63 : decode cX1_firstAt 63 = .ok (.bipush (-9), 2) := by decide +kernel
theorem dX1_firstAt_65 : decode cX1_firstAt 65 = .ok (.ireturn, 1) := by decide +kernel
theorem dX1_leastFor_0 : decode cX1_leastFor 0 = .ok (.iconst 0, 1) := by decide +kernel
theorem dX1_leastFor_1 : decode cX1_leastFor 1 = .ok (.istore_n 3, 1) := by decide +kernel
theorem dX1_leastFor_2 : decode cX1_leastFor 2 = .ok (.iload_n 3, 1) := by decide +kernel
theorem dX1_leastFor_3 : decode cX1_leastFor 3 = .ok (.aload_n 0, 1) := by decide +kernel
theorem dX1_leastFor_4 : decode cX1_leastFor 4 = .ok (.getfield 33, 3) := by decide +kernel
theorem dX1_leastFor_7 : decode cX1_leastFor 7 = .ok (.if_icmp .ge 79, 3) := by decide +kernel
theorem dX1_leastFor_10 : decode cX1_leastFor 10 = .ok (.aload_n 0, 1) := by decide +kernel
theorem dX1_leastFor_11 : decode cX1_leastFor 11 = .ok (.getfield 9, 3) := by decide +kernel
theorem dX1_leastFor_14 : decode cX1_leastFor 14 = .ok (.iload_n 3, 1) := by decide +kernel
theorem dX1_leastFor_15 : decode cX1_leastFor 15 = .ok (.iaload, 1) := by decide +kernel
theorem dX1_leastFor_16 : decode cX1_leastFor 16 = .ok (.istore 4, 2) := by decide +kernel
theorem dX1_leastFor_18 : decode cX1_leastFor 18 = .ok (.iload_n 2, 1) := by decide +kernel
theorem dX1_leastFor_19 : decode cX1_leastFor 19 = .ok (.iconst 1, 1) := by decide +kernel
theorem dX1_leastFor_20 : decode cX1_leastFor 20 = .ok (.iload_n 3, 1) := by decide +kernel
theorem dX1_leastFor_21 : decode cX1_leastFor 21 = .ok (.ishl, 1) := by decide +kernel
theorem dX1_leastFor_22 : decode cX1_leastFor 22 = .ok (.iand, 1) := by decide +kernel
theorem dX1_leastFor_23 : decode cX1_leastFor 23 = .ok (.ifCond .ne 7, 3) := by decide +kernel
theorem dX1_leastFor_26 : decode cX1_leastFor 26 = .ok (.iconst 1, 1) := by decide +kernel
theorem dX1_leastFor_27 : decode cX1_leastFor 27 = .ok (.goto 4, 3) := by decide +kernel
theorem dX1_leastFor_30 : decode cX1_leastFor 30 = .ok (.iconst 0, 1) := by decide +kernel
theorem dX1_leastFor_31 : decode cX1_leastFor 31 = .ok (.istore 5, 2) := by decide +kernel
theorem dX1_leastFor_33 : decode cX1_leastFor 33 = .ok (.iload 5, 2) := by decide +kernel
theorem dX1_leastFor_35 : decode cX1_leastFor 35 = .ok (.ifCond .eq 11, 3) := by decide +kernel
theorem dX1_leastFor_38 : decode cX1_leastFor 38 = .ok (.iload_n 1, 1) := by decide +kernel
theorem dX1_leastFor_39 : decode cX1_leastFor 39 = .ok (.iload 4, 2) := by decide +kernel
theorem dX1_leastFor_41 : decode cX1_leastFor 41 = .ok (.if_icmp .ne 5, 3) := by decide +kernel
theorem dX1_leastFor_44 : decode cX1_leastFor 44 = .ok (.iload_n 3, 1) := by decide +kernel
theorem dX1_leastFor_45 : decode cX1_leastFor 45 = .ok (.ireturn, 1) := by decide +kernel
theorem dX1_leastFor_46 : decode cX1_leastFor 46 = .ok (.iload 5, 2) := by decide +kernel
theorem dX1_leastFor_48 : decode cX1_leastFor 48 = .ok (.ifCond .eq 32, 3) := by decide +kernel
theorem dX1_leastFor_51 : decode cX1_leastFor 51 = .ok (.iload_n 1, 1) := by decide +kernel
theorem dX1_leastFor_52 : decode cX1_leastFor 52 = .ok (.bipush 6, 2) := by decide +kernel
theorem dX1_leastFor_54 : decode cX1_leastFor 54 = .ok (.if_icmp .ne 26, 3) := by decide +kernel
theorem dX1_leastFor_57 : decode cX1_leastFor 57 = .ok (.aload_n 0, 1) := by decide +kernel
theorem dX1_leastFor_58 : decode cX1_leastFor 58 = .ok (.getfield 18, 3) := by decide +kernel
theorem dX1_leastFor_61 : decode cX1_leastFor 61 = .ok (.iload 4, 2) := by decide +kernel
theorem dX1_leastFor_63 : decode cX1_leastFor 63 = .ok (.iaload, 1) := by decide +kernel
theorem dX1_leastFor_64 : decode cX1_leastFor 64 = .ok (.ifCond .le 16, 3) := by decide +kernel
theorem dX1_leastFor_67 : decode cX1_leastFor 67 = .ok (.aload_n 0, 1) := by decide +kernel
theorem dX1_leastFor_68 : decode cX1_leastFor 68 = .ok (.getfield 18, 3) := by decide +kernel
theorem dX1_leastFor_71 : decode cX1_leastFor 71 = .ok (.iload 4, 2) := by decide +kernel
theorem dX1_leastFor_73 : decode cX1_leastFor 73 = .ok (.dup2, 1) := by decide +kernel
theorem dX1_leastFor_74 : decode cX1_leastFor 74 = .ok (.iaload, 1) := by decide +kernel
theorem dX1_leastFor_75 : decode cX1_leastFor 75 = .ok (.iconst 1, 1) := by decide +kernel
theorem dX1_leastFor_76 : decode cX1_leastFor 76 = .ok (.isub, 1) := by decide +kernel
theorem dX1_leastFor_77 : decode cX1_leastFor 77 = .ok (.iastore, 1) := by decide +kernel
theorem dX1_leastFor_78 : decode cX1_leastFor 78 = .ok (.iload_n 3, 1) := by decide +kernel
theorem dX1_leastFor_79 : decode cX1_leastFor 79 = .ok (.ireturn, 1) := by decide +kernel
theorem dX1_leastFor_80 : decode cX1_leastFor 80 = .ok (.iinc 3 1, 3) := by decide +kernel
theorem dX1_leastFor_83 : decode cX1_leastFor 83 = .ok (.goto (-81), 3) := by decide +kernel
theorem dX1_leastFor_86 : decode cX1_leastFor 86 = .ok (.bipush (-9), 2) := by decide +kernel
theorem dX1_leastFor_88 : decode cX1_leastFor 88 = .ok (.ireturn, 1) := by decide +kernel
theorem dX2_init_0 : decode cX2_init 0 = .ok (.aload_n 0, 1) := by decide +kernel
theorem dX2_init_1 : decode cX2_init 1 = .ok (.invokespecial 3, 3) := by decide +kernel
theorem dX2_init_4 : decode cX2_init 4 = .ok (.aload_n 0, 1) := by decide +kernel
theorem dX2_init_5 : decode cX2_init 5 = .ok (.bipush 8, 2) := by decide +kernel
theorem dX2_init_7 : decode cX2_init 7 = .ok (.newarray .int, 2) := by decide +kernel
theorem dX2_init_9 : decode cX2_init 9 = .ok (.putfield 9, 3) := by decide +kernel
theorem dX2_init_12 : decode cX2_init 12 = .ok (.aload_n 0, 1) := by decide +kernel
theorem dX2_init_13 : decode cX2_init 13 = .ok (.bipush 8, 2) := by decide +kernel
theorem dX2_init_15 : decode cX2_init 15 = .ok (.newarray .int, 2) := by decide +kernel
theorem dX2_init_17 : decode cX2_init 17 = .ok (.putfield 15, 3) := by decide +kernel
theorem dX2_init_20 : decode cX2_init 20 = .ok (.return_, 1) := by decide +kernel
theorem dX2_clear_0 : decode cX2_clear 0 = .ok (.aload_n 0, 1) := by decide +kernel
theorem dX2_clear_1 : decode cX2_clear 1 = .ok (.iconst 0, 1) := by decide +kernel
theorem dX2_clear_2 : decode cX2_clear 2 = .ok (.putfield 18, 3) := by decide +kernel
theorem dX2_clear_5 : decode cX2_clear 5 = .ok (.return_, 1) := by decide +kernel
theorem dX2_add_0 : decode cX2_add 0 = .ok (.aload_n 0, 1) := by decide +kernel
theorem dX2_add_1 : decode cX2_add 1 = .ok (.getfield 18, 3) := by decide +kernel
theorem dX2_add_4 : decode cX2_add 4 = .ok (.ifCond .lt 12, 3) := by decide +kernel
theorem dX2_add_7 : decode cX2_add 7 = .ok (.aload_n 0, 1) := by decide +kernel
theorem dX2_add_8 : decode cX2_add 8 = .ok (.getfield 18, 3) := by decide +kernel
theorem dX2_add_11 : decode cX2_add 11 = .ok (.bipush 8, 2) := by decide +kernel
theorem dX2_add_13 : decode cX2_add 13 = .ok (.if_icmp .lt 5, 3) := by decide +kernel
theorem dX2_add_16 : decode cX2_add 16 = .ok (.iconst 0, 1) := by decide +kernel
theorem dX2_add_17 : decode cX2_add 17 = .ok (.ireturn, 1) := by decide +kernel
theorem dX2_add_18 : decode cX2_add 18 = .ok (.aload_n 0, 1) := by decide +kernel
theorem dX2_add_19 : decode cX2_add 19 = .ok (.getfield 9, 3) := by decide +kernel
theorem dX2_add_22 : decode cX2_add 22 = .ok (.aload_n 0, 1) := by decide +kernel
theorem dX2_add_23 : decode cX2_add 23 = .ok (.getfield 18, 3) := by decide +kernel
theorem dX2_add_26 : decode cX2_add 26 = .ok (.iload_n 1, 1) := by decide +kernel
theorem dX2_add_27 : decode cX2_add 27 = .ok (.iastore, 1) := by decide +kernel
theorem dX2_add_28 : decode cX2_add 28 = .ok (.aload_n 0, 1) := by decide +kernel
theorem dX2_add_29 : decode cX2_add 29 = .ok (.getfield 15, 3) := by decide +kernel
theorem dX2_add_32 : decode cX2_add 32 = .ok (.aload_n 0, 1) := by decide +kernel
theorem dX2_add_33 : decode cX2_add 33 = .ok (.getfield 18, 3) := by decide +kernel
theorem dX2_add_36 : decode cX2_add 36 = .ok (.iload_n 2, 1) := by decide +kernel
theorem dX2_add_37 : decode cX2_add 37 = .ok (.iastore, 1) := by decide +kernel
theorem dX2_add_38 : decode cX2_add 38 = .ok (.aload_n 0, 1) := by decide +kernel
theorem dX2_add_39 : decode cX2_add 39 = .ok (.dup, 1) := by decide +kernel
theorem dX2_add_40 : decode cX2_add 40 = .ok (.getfield 18, 3) := by decide +kernel
theorem dX2_add_43 : decode cX2_add 43 = .ok (.iconst 1, 1) := by decide +kernel
theorem dX2_add_44 : decode cX2_add 44 = .ok (.iadd, 1) := by decide +kernel
theorem dX2_add_45 : decode cX2_add 45 = .ok (.putfield 18, 3) := by decide +kernel
theorem dX2_add_48 : decode cX2_add 48 = .ok (.iconst 1, 1) := by decide +kernel
theorem dX2_add_49 : decode cX2_add 49 = .ok (.ireturn, 1) := by decide +kernel
set_option maxRecDepth 20000 in
theorem ggX2_areSoWith_X4_turnAt : GoodIn wsX2_areSoWith wsX4_turnAt := goodIn_r _ [10, 11, 12, 13, 14, 15, 9, 16, 17, 18, 19, 20, 31, 32, 33, 34, 35, 36, 37] (by decide +kernel) (by decide +kernel)
set_option maxRecDepth 20000 in
theorem gX2_areSoWith_X4_turnAt : GoodIn wsX2_areSoWith (wsV RX2 22 RX4 yX4_turnAt wsX4_turnAt) := goodIn_app (goodIn_of _ (by decide +kernel)) ggX2_areSoWith_X4_turnAt
set_option maxRecDepth 20000 in
theorem ggX2_areSoWith_X4_yearAt : GoodIn wsX2_areSoWith wsX4_yearAt := goodIn_r _ [24, 25, 13, 14, 15, 9, 16, 17, 31, 32, 33, 34, 35, 36, 37] (by decide +kernel) (by decide +kernel)
set_option maxRecDepth 20000 in
theorem gX2_areSoWith_X4_yearAt : GoodIn wsX2_areSoWith (wsV RX2 34 RX4 yX4_yearAt wsX4_yearAt) := goodIn_app (goodIn_of _ (by decide +kernel)) ggX2_areSoWith_X4_yearAt
set_option maxRecDepth 20000 in
theorem ggX2_areSoWith_X5_wishOf : GoodIn wsX2_areSoWith wsX5_wishOf := goodIn_r _ [27] (by decide +kernel) (by decide +kernel)
set_option maxRecDepth 20000 in
theorem gX2_areSoWith_X5_wishOf_n37 : GoodIn wsX2_areSoWith (wsX5_wishOf) := ggX2_areSoWith_X5_wishOf
theorem dX2_areSoWith_0 : decode cX2_areSoWith 0 = .ok (.iconst 0, 1) := by decide +kernel
theorem dX2_areSoWith_1 : decode cX2_areSoWith 1 = .ok (.istore 4, 2) := by decide +kernel
theorem dX2_areSoWith_3 : decode cX2_areSoWith 3 = .ok (.iload 4, 2) := by decide +kernel
theorem dX2_areSoWith_5 : decode cX2_areSoWith 5 = .ok (.aload_n 0, 1) := by decide +kernel
theorem dX2_areSoWith_6 : decode cX2_areSoWith 6 = .ok (.getfield 18, 3) := by decide +kernel
theorem dX2_areSoWith_9 : decode cX2_areSoWith 9 = .ok (.if_icmp .ge 74, 3) := by decide +kernel
theorem dX2_areSoWith_12 : decode cX2_areSoWith 12 = .ok (.iload 4, 2) := by decide +kernel
theorem dX2_areSoWith_14 : decode cX2_areSoWith 14 = .ok (.bipush 8, 2) := by decide +kernel
theorem dX2_areSoWith_16 : decode cX2_areSoWith 16 = .ok (.if_icmp .ge 67, 3) := by decide +kernel
theorem dX2_areSoWith_19 : decode cX2_areSoWith 19 = .ok (.aload_n 0, 1) := by decide +kernel
theorem dX2_areSoWith_20 : decode cX2_areSoWith 20 = .ok (.getfield 9, 3) := by decide +kernel
theorem dX2_areSoWith_23 : decode cX2_areSoWith 23 = .ok (.iload 4, 2) := by decide +kernel
theorem dX2_areSoWith_25 : decode cX2_areSoWith 25 = .ok (.iaload, 1) := by decide +kernel
theorem dX2_areSoWith_26 : decode cX2_areSoWith 26 = .ok (.istore 5, 2) := by decide +kernel
theorem dX2_areSoWith_28 : decode cX2_areSoWith 28 = .ok (.iload 5, 2) := by decide +kernel
theorem dX2_areSoWith_30 : decode cX2_areSoWith 30 = .ok (.iload_n 2, 1) := by decide +kernel
theorem dX2_areSoWith_31 : decode cX2_areSoWith 31 = .ok (.if_icmp .ne 7, 3) := by decide +kernel
theorem dX2_areSoWith_34 : decode cX2_areSoWith 34 = .ok (.iload_n 3, 1) := by decide +kernel
theorem dX2_areSoWith_35 : decode cX2_areSoWith 35 = .ok (.goto 9, 3) := by decide +kernel
theorem dX2_areSoWith_38 : decode cX2_areSoWith 38 = .ok (.aload_n 1, 1) := by decide +kernel
theorem dX2_areSoWith_39 : decode cX2_areSoWith 39 = .ok (.iload 5, 2) := by decide +kernel
theorem dX2_areSoWith_41 : decode cX2_areSoWith 41 = .ok (.invokevirtual 22, 3) := by decide +kernel
theorem dX2_areSoWith_44 : decode cX2_areSoWith 44 = .ok (.istore 6, 2) := by decide +kernel
theorem dX2_areSoWith_46 : decode cX2_areSoWith 46 = .ok (.aload_n 1, 1) := by decide +kernel
theorem dX2_areSoWith_47 : decode cX2_areSoWith 47 = .ok (.getfield 28, 3) := by decide +kernel
theorem dX2_areSoWith_50 : decode cX2_areSoWith 50 = .ok (.iload 6, 2) := by decide +kernel
theorem dX2_areSoWith_52 : decode cX2_areSoWith 52 = .ok (.aload_n 1, 1) := by decide +kernel
theorem dX2_areSoWith_53 : decode cX2_areSoWith 53 = .ok (.getfield 31, 3) := by decide +kernel
theorem dX2_areSoWith_56 : decode cX2_areSoWith 56 = .ok (.aload_n 1, 1) := by decide +kernel
theorem dX2_areSoWith_57 : decode cX2_areSoWith 57 = .ok (.iload 5, 2) := by decide +kernel
theorem dX2_areSoWith_59 : decode cX2_areSoWith 59 = .ok (.invokevirtual 34, 3) := by decide +kernel
theorem dX2_areSoWith_62 : decode cX2_areSoWith 62 = .ok (.invokestatic 37, 3) := by decide +kernel
theorem dX2_areSoWith_65 : decode cX2_areSoWith 65 = .ok (.aload_n 0, 1) := by decide +kernel
theorem dX2_areSoWith_66 : decode cX2_areSoWith 66 = .ok (.getfield 15, 3) := by decide +kernel
theorem dX2_areSoWith_69 : decode cX2_areSoWith 69 = .ok (.iload 4, 2) := by decide +kernel
theorem dX2_areSoWith_71 : decode cX2_areSoWith 71 = .ok (.iaload, 1) := by decide +kernel
theorem dX2_areSoWith_72 : decode cX2_areSoWith 72 = .ok (.if_icmp .eq 5, 3) := by decide +kernel
theorem dX2_areSoWith_75 : decode cX2_areSoWith 75 = .ok (.iconst 0, 1) := by decide +kernel
theorem dX2_areSoWith_76 : decode cX2_areSoWith 76 = .ok (.ireturn, 1) := by decide +kernel
theorem dX2_areSoWith_77 : decode cX2_areSoWith 77 = .ok (.iinc 4 1, 3) := by decide +kernel
theorem dX2_areSoWith_80 : decode cX2_areSoWith 80 = .ok (.goto (-77), 3) := by decide +kernel
theorem dX2_areSoWith_83 : decode cX2_areSoWith 83 = .ok (.iconst 1, 1) := by decide +kernel
theorem dX2_areSoWith_84 : decode cX2_areSoWith 84 = .ok (.ireturn, 1) := by decide +kernel
set_option maxRecDepth 20000 in
theorem ggX2_areSoByKey_X4_turnAt : GoodIn wsX2_areSoByKey wsX4_turnAt := goodIn_r _ [8, 9, 10, 11, 12, 13, 7, 14, 15, 16, 17, 18, 29, 30, 31, 32, 33, 34, 35] (by decide +kernel) (by decide +kernel)
set_option maxRecDepth 20000 in
theorem gX2_areSoByKey_X4_turnAt : GoodIn wsX2_areSoByKey (wsV RX2 22 RX4 yX4_turnAt wsX4_turnAt) := goodIn_app (goodIn_of _ (by decide +kernel)) ggX2_areSoByKey_X4_turnAt
set_option maxRecDepth 20000 in
theorem ggX2_areSoByKey_X4_yearAt : GoodIn wsX2_areSoByKey wsX4_yearAt := goodIn_r _ [22, 23, 11, 12, 13, 7, 14, 15, 29, 30, 31, 32, 33, 34, 35] (by decide +kernel) (by decide +kernel)
set_option maxRecDepth 20000 in
theorem gX2_areSoByKey_X4_yearAt : GoodIn wsX2_areSoByKey (wsV RX2 34 RX4 yX4_yearAt wsX4_yearAt) := goodIn_app (goodIn_of _ (by decide +kernel)) ggX2_areSoByKey_X4_yearAt
set_option maxRecDepth 20000 in
theorem ggX2_areSoByKey_X5_wishOf : GoodIn wsX2_areSoByKey wsX5_wishOf := goodIn_r _ [25] (by decide +kernel) (by decide +kernel)
set_option maxRecDepth 20000 in
theorem gX2_areSoByKey_X5_wishOf_n37 : GoodIn wsX2_areSoByKey (wsX5_wishOf) := ggX2_areSoByKey_X5_wishOf
theorem dX2_areSoByKey_0 : decode cX2_areSoByKey 0 = .ok (.iconst 0, 1) := by decide +kernel
theorem dX2_areSoByKey_1 : decode cX2_areSoByKey 1 = .ok (.istore 4, 2) := by decide +kernel
theorem dX2_areSoByKey_3 : decode cX2_areSoByKey 3 = .ok (.iload 4, 2) := by decide +kernel
theorem dX2_areSoByKey_5 : decode cX2_areSoByKey 5 = .ok (.aload_n 0, 1) := by decide +kernel
theorem dX2_areSoByKey_6 : decode cX2_areSoByKey 6 = .ok (.getfield 18, 3) := by decide +kernel
theorem dX2_areSoByKey_9 : decode cX2_areSoByKey 9 = .ok (.if_icmp .ge 54, 3) := by decide +kernel
theorem dX2_areSoByKey_12 : decode cX2_areSoByKey 12 = .ok (.iload 4, 2) := by decide +kernel
theorem dX2_areSoByKey_14 : decode cX2_areSoByKey 14 = .ok (.bipush 8, 2) := by decide +kernel
theorem dX2_areSoByKey_16 : decode cX2_areSoByKey 16 = .ok (.if_icmp .ge 47, 3) := by decide +kernel
theorem dX2_areSoByKey_19 : decode cX2_areSoByKey 19 = .ok (.aload_n 0, 1) := by decide +kernel
theorem dX2_areSoByKey_20 : decode cX2_areSoByKey 20 = .ok (.getfield 9, 3) := by decide +kernel
theorem dX2_areSoByKey_23 : decode cX2_areSoByKey 23 = .ok (.iload 4, 2) := by decide +kernel
theorem dX2_areSoByKey_25 : decode cX2_areSoByKey 25 = .ok (.iaload, 1) := by decide +kernel
theorem dX2_areSoByKey_26 : decode cX2_areSoByKey 26 = .ok (.istore 5, 2) := by decide +kernel
theorem dX2_areSoByKey_28 : decode cX2_areSoByKey 28 = .ok (.iload_n 2, 1) := by decide +kernel
theorem dX2_areSoByKey_29 : decode cX2_areSoByKey 29 = .ok (.aload_n 1, 1) := by decide +kernel
theorem dX2_areSoByKey_30 : decode cX2_areSoByKey 30 = .ok (.iload 5, 2) := by decide +kernel
theorem dX2_areSoByKey_32 : decode cX2_areSoByKey 32 = .ok (.invokevirtual 22, 3) := by decide +kernel
theorem dX2_areSoByKey_35 : decode cX2_areSoByKey 35 = .ok (.iload_n 3, 1) := by decide +kernel
theorem dX2_areSoByKey_36 : decode cX2_areSoByKey 36 = .ok (.aload_n 1, 1) := by decide +kernel
theorem dX2_areSoByKey_37 : decode cX2_areSoByKey 37 = .ok (.iload 5, 2) := by decide +kernel
theorem dX2_areSoByKey_39 : decode cX2_areSoByKey 39 = .ok (.invokevirtual 34, 3) := by decide +kernel
theorem dX2_areSoByKey_42 : decode cX2_areSoByKey 42 = .ok (.invokestatic 37, 3) := by decide +kernel
theorem dX2_areSoByKey_45 : decode cX2_areSoByKey 45 = .ok (.aload_n 0, 1) := by decide +kernel
theorem dX2_areSoByKey_46 : decode cX2_areSoByKey 46 = .ok (.getfield 15, 3) := by decide +kernel
theorem dX2_areSoByKey_49 : decode cX2_areSoByKey 49 = .ok (.iload 4, 2) := by decide +kernel
theorem dX2_areSoByKey_51 : decode cX2_areSoByKey 51 = .ok (.iaload, 1) := by decide +kernel
theorem dX2_areSoByKey_52 : decode cX2_areSoByKey 52 = .ok (.if_icmp .eq 5, 3) := by decide +kernel
theorem dX2_areSoByKey_55 : decode cX2_areSoByKey 55 = .ok (.iconst 0, 1) := by decide +kernel
theorem dX2_areSoByKey_56 : decode cX2_areSoByKey 56 = .ok (.ireturn, 1) := by decide +kernel
theorem dX2_areSoByKey_57 : decode cX2_areSoByKey 57 = .ok (.iinc 4 1, 3) := by decide +kernel
theorem dX2_areSoByKey_60 : decode cX2_areSoByKey 60 = .ok (.goto (-57), 3) := by decide +kernel
theorem dX2_areSoByKey_63 : decode cX2_areSoByKey 63 = .ok (.iconst 1, 1) := by decide +kernel
theorem dX2_areSoByKey_64 : decode cX2_areSoByKey 64 = .ok (.ireturn, 1) := by decide +kernel
theorem dX3_init_0 : decode cX3_init 0 = .ok (.aload_n 0, 1) := by decide +kernel
theorem dX3_init_1 : decode cX3_init 1 = .ok (.invokespecial 3, 3) := by decide +kernel
theorem dX3_init_4 : decode cX3_init 4 = .ok (.aload_n 0, 1) := by decide +kernel
theorem dX3_init_5 : decode cX3_init 5 = .ok (.bipush 60, 2) := by decide +kernel
theorem dX3_init_7 : decode cX3_init 7 = .ok (.newarray .int, 2) := by decide +kernel
theorem dX3_init_9 : decode cX3_init 9 = .ok (.putfield 9, 3) := by decide +kernel
theorem dX3_init_12 : decode cX3_init 12 = .ok (.aload_n 0, 1) := by decide +kernel
theorem dX3_init_13 : decode cX3_init 13 = .ok (.iconst (-1), 1) := by decide +kernel
theorem dX3_init_14 : decode cX3_init 14 = .ok (.putfield 15, 3) := by decide +kernel
theorem dX3_init_17 : decode cX3_init 17 = .ok (.return_, 1) := by decide +kernel
theorem dX3_begin_0 : decode cX3_begin 0 = .ok (.aload_n 0, 1) := by decide +kernel
theorem dX3_begin_1 : decode cX3_begin 1 = .ok (.iload_n 1, 1) := by decide +kernel
theorem dX3_begin_2 : decode cX3_begin 2 = .ok (.putfield 15, 3) := by decide +kernel
theorem dX3_begin_5 : decode cX3_begin 5 = .ok (.aload_n 0, 1) := by decide +kernel
theorem dX3_begin_6 : decode cX3_begin 6 = .ok (.iconst 0, 1) := by decide +kernel
theorem dX3_begin_7 : decode cX3_begin 7 = .ok (.iload_n 2, 1) := by decide +kernel
theorem dX3_begin_8 : decode cX3_begin 8 = .ok (.bipush 60, 2) := by decide +kernel
theorem dX3_begin_10 : decode cX3_begin 10 = .ok (.invokestatic 19, 3) := by decide +kernel
theorem dX3_begin_13 : decode cX3_begin 13 = .ok (.invokestatic 25, 3) := by decide +kernel
theorem dX3_begin_16 : decode cX3_begin 16 = .ok (.putfield 28, 3) := by decide +kernel
theorem dX3_begin_19 : decode cX3_begin 19 = .ok (.iconst 0, 1) := by decide +kernel
theorem dX3_begin_20 : decode cX3_begin 20 = .ok (.istore_n 3, 1) := by decide +kernel
theorem dX3_begin_21 : decode cX3_begin 21 = .ok (.iload_n 3, 1) := by decide +kernel
theorem dX3_begin_22 : decode cX3_begin 22 = .ok (.bipush 60, 2) := by decide +kernel
theorem dX3_begin_24 : decode cX3_begin 24 = .ok (.if_icmp .ge 16, 3) := by decide +kernel
theorem dX3_begin_27 : decode cX3_begin 27 = .ok (.aload_n 0, 1) := by decide +kernel
theorem dX3_begin_28 : decode cX3_begin 28 = .ok (.getfield 9, 3) := by decide +kernel
theorem dX3_begin_31 : decode cX3_begin 31 = .ok (.iload_n 3, 1) := by decide +kernel
theorem dX3_begin_32 : decode cX3_begin 32 = .ok (.iconst 0, 1) := by decide +kernel
theorem dX3_begin_33 : decode cX3_begin 33 = .ok (.iastore, 1) := by decide +kernel
theorem dX3_begin_34 : decode cX3_begin 34 = .ok (.iinc 3 1, 3) := by decide +kernel
theorem dX3_begin_37 : decode cX3_begin 37 = .ok (.goto (-16), 3) := by decide +kernel
theorem dX3_begin_40 : decode cX3_begin 40 = .ok (.return_, 1) := by decide +kernel
theorem dX3_end_0 : decode cX3_end 0 = .ok (.aload_n 0, 1) := by decide +kernel
theorem dX3_end_1 : decode cX3_end 1 = .ok (.iconst (-1), 1) := by decide +kernel
theorem dX3_end_2 : decode cX3_end 2 = .ok (.putfield 15, 3) := by decide +kernel
theorem dX3_end_5 : decode cX3_end 5 = .ok (.aload_n 0, 1) := by decide +kernel
theorem dX3_end_6 : decode cX3_end 6 = .ok (.iconst 0, 1) := by decide +kernel
theorem dX3_end_7 : decode cX3_end 7 = .ok (.putfield 28, 3) := by decide +kernel
theorem dX3_end_10 : decode cX3_end 10 = .ok (.return_, 1) := by decide +kernel
theorem dX3_hasRow_0 : decode cX3_hasRow 0 = .ok (.aload_n 0, 1) := by decide +kernel
theorem dX3_hasRow_1 : decode cX3_hasRow 1 = .ok (.getfield 15, 3) := by decide +kernel
theorem dX3_hasRow_4 : decode cX3_hasRow 4 = .ok (.iconst (-1), 1) := by decide +kernel
theorem dX3_hasRow_5 : decode cX3_hasRow 5 = .ok (.if_icmp .eq 7, 3) := by decide +kernel
theorem dX3_hasRow_8 : decode cX3_hasRow 8 = .ok (.iconst 1, 1) := by decide +kernel
theorem dX3_hasRow_9 : decode cX3_hasRow 9 = .ok (.goto 4, 3) := by decide +kernel
theorem dX3_hasRow_12 : decode cX3_hasRow 12 = .ok (.iconst 0, 1) := by decide +kernel
theorem dX3_hasRow_13 : decode cX3_hasRow 13 = .ok (.ireturn, 1) := by decide +kernel
theorem dX3_hasCells_0 : decode cX3_hasCells 0 = .ok (.iload_n 1, 1) := by decide +kernel
theorem dX3_hasCells_1 : decode cX3_hasCells 1 = .ok (.ifCond .lt 29, 3) := by decide +kernel
theorem dX3_hasCells_4 : decode cX3_hasCells 4 = .ok (.iload_n 1, 1) := by decide +kernel
theorem dX3_hasCells_5 : decode cX3_hasCells 5 = .ok (.aload_n 0, 1) := by decide +kernel
theorem dX3_hasCells_6 : decode cX3_hasCells 6 = .ok (.getfield 28, 3) := by decide +kernel
theorem dX3_hasCells_9 : decode cX3_hasCells 9 = .ok (.if_icmp .gt 21, 3) := by decide +kernel
theorem dX3_hasCells_12 : decode cX3_hasCells 12 = .ok (.iload_n 2, 1) := by decide +kernel
theorem dX3_hasCells_13 : decode cX3_hasCells 13 = .ok (.ifCond .lt 17, 3) := by decide +kernel
theorem dX3_hasCells_16 : decode cX3_hasCells 16 = .ok (.iload_n 2, 1) := by decide +kernel
theorem dX3_hasCells_17 : decode cX3_hasCells 17 = .ok (.aload_n 0, 1) := by decide +kernel
theorem dX3_hasCells_18 : decode cX3_hasCells 18 = .ok (.getfield 28, 3) := by decide +kernel
theorem dX3_hasCells_21 : decode cX3_hasCells 21 = .ok (.iload_n 1, 1) := by decide +kernel
theorem dX3_hasCells_22 : decode cX3_hasCells 22 = .ok (.isub, 1) := by decide +kernel
theorem dX3_hasCells_23 : decode cX3_hasCells 23 = .ok (.if_icmp .gt 7, 3) := by decide +kernel
theorem dX3_hasCells_26 : decode cX3_hasCells 26 = .ok (.iconst 1, 1) := by decide +kernel
theorem dX3_hasCells_27 : decode cX3_hasCells 27 = .ok (.goto 4, 3) := by decide +kernel
theorem dX3_hasCells_30 : decode cX3_hasCells 30 = .ok (.iconst 0, 1) := by decide +kernel
theorem dX3_hasCells_31 : decode cX3_hasCells 31 = .ok (.ireturn, 1) := by decide +kernel
set_option maxRecDepth 20000 in
theorem ggX3_faultAs_X3_hasRow : GoodIn wsX3_faultAs wsX3_hasRow := goodIn_r _ [6, 1, 7, 8, 9] (by decide +kernel) (by decide +kernel)
set_option maxRecDepth 20000 in
theorem gX3_faultAs_X3_hasRow : GoodIn wsX3_faultAs (wsV RX3 31 RX3 yX3_hasRow wsX3_hasRow) := goodIn_app (goodIn_of _ (by decide +kernel)) ggX3_faultAs_X3_hasRow
theorem dX3_faultAs_0 : decode cX3_faultAs 0 = .ok (.aload_n 0, 1) := by decide +kernel
theorem dX3_faultAs_1 : decode cX3_faultAs 1 = .ok (.invokevirtual 31, 3) := by decide +kernel
theorem dX3_faultAs_4 : decode cX3_faultAs 4 = .ok (.ifCond .ne 5, 3) := by decide +kernel
theorem dX3_faultAs_7 : decode cX3_faultAs 7 = .ok (.iconst 1, 1) := by decide +kernel
theorem dX3_faultAs_8 : decode cX3_faultAs 8 = .ok (.ireturn, 1) := by decide +kernel
theorem dX3_faultAs_9 : decode cX3_faultAs 9 = .ok (.aload_n 0, 1) := by decide +kernel
theorem dX3_faultAs_10 : decode cX3_faultAs 10 = .ok (.getfield 15, 3) := by decide +kernel
theorem dX3_faultAs_13 : decode cX3_faultAs 13 = .ok (.iload_n 1, 1) := by decide +kernel
theorem dX3_faultAs_14 : decode cX3_faultAs 14 = .ok (.if_icmp .ne 7, 3) := by decide +kernel
theorem dX3_faultAs_17 : decode cX3_faultAs 17 = .ok (.iconst 0, 1) := by decide +kernel
theorem dX3_faultAs_18 : decode cX3_faultAs 18 = .ok (.goto 4, 3) := by decide +kernel
theorem dX3_faultAs_21 : decode cX3_faultAs 21 = .ok (.iconst 2, 1) := by decide +kernel
theorem dX3_faultAs_22 : decode cX3_faultAs 22 = .ok (.ireturn, 1) := by decide +kernel
set_option maxRecDepth 20000 in
theorem ggX3_faultOfCells_X3_faultAs : GoodIn wsX3_faultOfCells wsX3_faultAs := goodIn_r _ [5, 6, 7, 8, 9, 4, 10, 16, 17, 18] (by decide +kernel) (by decide +kernel)
set_option maxRecDepth 20000 in
theorem gX3_faultOfCells_X3_faultAs : GoodIn wsX3_faultOfCells (wsV RX3 35 RX3 yX3_faultAs wsX3_faultAs) := goodIn_app (goodIn_of _ (by decide +kernel)) ggX3_faultOfCells_X3_faultAs
set_option maxRecDepth 20000 in
theorem ggX3_faultOfCells_X3_hasCells : GoodIn wsX3_faultOfCells wsX3_hasCells := goodIn_r _ [14, 15, 16, 17, 18] (by decide +kernel) (by decide +kernel)
set_option maxRecDepth 20000 in
theorem gX3_faultOfCells_X3_hasCells : GoodIn wsX3_faultOfCells (wsV RX3 39 RX3 yX3_hasCells wsX3_hasCells) := goodIn_app (goodIn_of _ (by decide +kernel)) ggX3_faultOfCells_X3_hasCells
theorem dX3_faultOfCells_0 : decode cX3_faultOfCells 0 = .ok (.aload_n 0, 1) := by decide +kernel
theorem dX3_faultOfCells_1 : decode cX3_faultOfCells 1 = .ok (.iload_n 1, 1) := by decide +kernel
theorem dX3_faultOfCells_2 : decode cX3_faultOfCells 2 = .ok (.invokevirtual 35, 3) := by decide +kernel
theorem dX3_faultOfCells_5 : decode cX3_faultOfCells 5 = .ok (.istore 4, 2) := by decide +kernel
theorem dX3_faultOfCells_7 : decode cX3_faultOfCells 7 = .ok (.iload 4, 2) := by decide +kernel
theorem dX3_faultOfCells_9 : decode cX3_faultOfCells 9 = .ok (.ifCond .ne 15, 3) := by decide +kernel
theorem dX3_faultOfCells_12 : decode cX3_faultOfCells 12 = .ok (.aload_n 0, 1) := by decide +kernel
theorem dX3_faultOfCells_13 : decode cX3_faultOfCells 13 = .ok (.iload_n 2, 1) := by decide +kernel
theorem dX3_faultOfCells_14 : decode cX3_faultOfCells 14 = .ok (.iload_n 3, 1) := by decide +kernel
theorem dX3_faultOfCells_15 : decode cX3_faultOfCells 15 = .ok (.invokevirtual 39, 3) := by decide +kernel
theorem dX3_faultOfCells_18 : decode cX3_faultOfCells 18 = .ok (.ifCond .ne 6, 3) := by decide +kernel
theorem dX3_faultOfCells_21 : decode cX3_faultOfCells 21 = .ok (.iconst 3, 1) := by decide +kernel
theorem dX3_faultOfCells_22 : decode cX3_faultOfCells 22 = .ok (.istore 4, 2) := by decide +kernel
theorem dX3_faultOfCells_24 : decode cX3_faultOfCells 24 = .ok (.iload 4, 2) := by decide +kernel
theorem dX3_faultOfCells_26 : decode cX3_faultOfCells 26 = .ok (.ireturn, 1) := by decide +kernel
set_option maxRecDepth 20000 in
theorem ggX3_at_X3_hasCells : GoodIn wsX3_at wsX3_hasCells := goodIn_r _ [6, 7, 8, 9, 10] (by decide +kernel) (by decide +kernel)
set_option maxRecDepth 20000 in
theorem gX3_at_X3_hasCells : GoodIn wsX3_at (wsV RX3 39 RX3 yX3_hasCells wsX3_hasCells) := goodIn_app (goodIn_of _ (by decide +kernel)) ggX3_at_X3_hasCells
theorem dX3_at_0 : decode cX3_at 0 = .ok (.aload_n 0, 1) := by decide +kernel
theorem dX3_at_1 : decode cX3_at 1 = .ok (.iload_n 1, 1) := by decide +kernel
theorem dX3_at_2 : decode cX3_at 2 = .ok (.iconst 1, 1) := by decide +kernel
theorem dX3_at_3 : decode cX3_at 3 = .ok (.invokevirtual 39, 3) := by decide +kernel
theorem dX3_at_6 : decode cX3_at 6 = .ok (.ifCond .eq 12, 3) := by decide +kernel
theorem dX3_at_9 : decode cX3_at 9 = .ok (.aload_n 0, 1) := by decide +kernel
theorem dX3_at_10 : decode cX3_at 10 = .ok (.getfield 9, 3) := by decide +kernel
theorem dX3_at_13 : decode cX3_at 13 = .ok (.iload_n 1, 1) := by decide +kernel
theorem dX3_at_14 : decode cX3_at 14 = .ok (.iaload, 1) := by decide +kernel
theorem dX3_at_15 : decode cX3_at 15 = .ok (.goto 4, 3) := by decide +kernel
theorem dX3_at_18 : decode cX3_at 18 = .ok (.iconst 0, 1) := by decide +kernel
theorem dX3_at_19 : decode cX3_at 19 = .ok (.ireturn, 1) := by decide +kernel
set_option maxRecDepth 20000 in
theorem ggX3_set_X3_hasCells : GoodIn wsX3_set wsX3_hasCells := goodIn_r _ [7, 8, 9, 10, 11] (by decide +kernel) (by decide +kernel)
set_option maxRecDepth 20000 in
theorem gX3_set_X3_hasCells : GoodIn wsX3_set (wsV RX3 39 RX3 yX3_hasCells wsX3_hasCells) := goodIn_app (goodIn_of _ (by decide +kernel)) ggX3_set_X3_hasCells
theorem dX3_set_0 : decode cX3_set 0 = .ok (.aload_n 0, 1) := by decide +kernel
theorem dX3_set_1 : decode cX3_set 1 = .ok (.iload_n 1, 1) := by decide +kernel
theorem dX3_set_2 : decode cX3_set 2 = .ok (.iconst 1, 1) := by decide +kernel
theorem dX3_set_3 : decode cX3_set 3 = .ok (.invokevirtual 39, 3) := by decide +kernel
theorem dX3_set_6 : decode cX3_set 6 = .ok (.ifCond .ne 4, 3) := by decide +kernel
theorem dX3_set_9 : decode cX3_set 9 = .ok (.return_, 1) := by decide +kernel
theorem dX3_set_10 : decode cX3_set 10 = .ok (.aload_n 0, 1) := by decide +kernel
theorem dX3_set_11 : decode cX3_set 11 = .ok (.getfield 15, 3) := by decide +kernel
theorem dX3_set_14 : decode cX3_set 14 = .ok (.ifCond .ne 14, 3) := by decide +kernel
theorem dX3_set_17 : decode cX3_set 17 = .ok (.aload_n 0, 1) := by decide +kernel
theorem dX3_set_18 : decode cX3_set 18 = .ok (.getfield 9, 3) := by decide +kernel
theorem dX3_set_21 : decode cX3_set 21 = .ok (.iload_n 1, 1) := by decide +kernel
theorem dX3_set_22 : decode cX3_set 22 = .ok (.iload_n 2, 1) := by decide +kernel
theorem dX3_set_23 : decode cX3_set 23 = .ok (.i2b, 1) := by decide +kernel
theorem dX3_set_24 : decode cX3_set 24 = .ok (.iastore, 1) := by decide +kernel
theorem dX3_set_25 : decode cX3_set 25 = .ok (.goto 29, 3) := by decide +kernel
theorem dX3_set_28 : decode cX3_set 28 = .ok (.aload_n 0, 1) := by decide +kernel
theorem dX3_set_29 : decode cX3_set 29 = .ok (.getfield 15, 3) := by decide +kernel
theorem dX3_set_32 : decode cX3_set 32 = .ok (.iconst 1, 1) := by decide +kernel
theorem dX3_set_33 : decode cX3_set 33 = .ok (.if_icmp .ne 14, 3) := by decide +kernel
theorem dX3_set_36 : decode cX3_set 36 = .ok (.aload_n 0, 1) := by decide +kernel
theorem dX3_set_37 : decode cX3_set 37 = .ok (.getfield 9, 3) := by decide +kernel
theorem dX3_set_40 : decode cX3_set 40 = .ok (.iload_n 1, 1) := by decide +kernel
theorem dX3_set_41 : decode cX3_set 41 = .ok (.iload_n 2, 1) := by decide +kernel
theorem dX3_set_42 : decode cX3_set 42 = .ok (.i2s, 1) := by decide +kernel
theorem dX3_set_43 : decode cX3_set 43 = .ok (.iastore, 1) := by decide +kernel
theorem dX3_set_44 : decode cX3_set 44 = .ok (.goto 10, 3) := by decide +kernel
theorem dX3_set_47 : decode cX3_set 47 = .ok (.aload_n 0, 1) := by decide +kernel
theorem dX3_set_48 : decode cX3_set 48 = .ok (.getfield 9, 3) := by decide +kernel
theorem dX3_set_51 : decode cX3_set 51 = .ok (.iload_n 1, 1) := by decide +kernel
theorem dX3_set_52 : decode cX3_set 52 = .ok (.iload_n 2, 1) := by decide +kernel
theorem dX3_set_53 : decode cX3_set 53 = .ok (.iastore, 1) := by decide +kernel
theorem dX3_set_54 : decode cX3_set 54 = .ok (.return_, 1) := by decide +kernel
theorem dX4_init_0 : decode cX4_init 0 = .ok (.aload_n 0, 1) := by decide +kernel
theorem dX4_init_1 : decode cX4_init 1 = .ok (.invokespecial 3, 3) := by decide +kernel
theorem dX4_init_4 : decode cX4_init 4 = .ok (.aload_n 0, 1) := by decide +kernel
theorem dX4_init_5 : decode cX4_init 5 = .ok (.bipush 9, 2) := by decide +kernel
theorem dX4_init_7 : decode cX4_init 7 = .ok (.newarray .int, 2) := by decide +kernel
theorem dX4_init_9 : decode cX4_init 9 = .ok (.putfield 9, 3) := by decide +kernel
theorem dX4_init_12 : decode cX4_init 12 = .ok (.aload_n 0, 1) := by decide +kernel
theorem dX4_init_13 : decode cX4_init 13 = .ok (.bipush 9, 2) := by decide +kernel
theorem dX4_init_15 : decode cX4_init 15 = .ok (.newarray .int, 2) := by decide +kernel
theorem dX4_init_17 : decode cX4_init 17 = .ok (.putfield 15, 3) := by decide +kernel
theorem dX4_init_20 : decode cX4_init 20 = .ok (.aload_n 0, 1) := by decide +kernel
theorem dX4_init_21 : decode cX4_init 21 = .ok (.bipush 9, 2) := by decide +kernel
theorem dX4_init_23 : decode cX4_init 23 = .ok (.newarray .int, 2) := by decide +kernel
theorem dX4_init_25 : decode cX4_init 25 = .ok (.putfield 18, 3) := by decide +kernel
theorem dX4_init_28 : decode cX4_init 28 = .ok (.return_, 1) := by decide +kernel
set_option maxRecDepth 20000 in
theorem ggX4_fill_X3_at : GoodIn wsX4_fill wsX3_at := goodIn_r _ [9, 10, 11, 12, 13, 8, 14, 15, 31, 32, 33] (by decide +kernel) (by decide +kernel)
set_option maxRecDepth 20000 in
theorem gX4_fill_X3_at : GoodIn wsX4_fill (wsV RX4 21 RX3 yX3_at wsX3_at) := goodIn_app (goodIn_of _ (by decide +kernel)) ggX4_fill_X3_at
set_option maxRecDepth 20000 in
theorem ggX4_fill_X4_addTop : GoodIn wsX4_fill wsX4_addTop := goodIn_r _ [20, 3, 21, 22, 23, 4, 24, 25, 26, 27, 28, 29, 30] (by decide +kernel) (by decide +kernel)
set_option maxRecDepth 20000 in
theorem gX4_fill_X4_addTop : GoodIn wsX4_fill (wsV RX4 40 RX4 yX4_addTop wsX4_addTop) := goodIn_app (goodIn_of _ (by decide +kernel)) ggX4_fill_X4_addTop
theorem dX4_fill_0 : decode cX4_fill 0 = .ok (.aload_n 0, 1) := by decide +kernel
theorem dX4_fill_1 : decode cX4_fill 1 = .ok (.aload_n 1, 1) := by decide +kernel
theorem dX4_fill_2 : decode cX4_fill 2 = .ok (.iload_n 2, 1) := by decide +kernel
theorem dX4_fill_3 : decode cX4_fill 3 = .ok (.iconst 1, 1) := by decide +kernel
theorem dX4_fill_4 : decode cX4_fill 4 = .ok (.iadd, 1) := by decide +kernel
theorem dX4_fill_5 : decode cX4_fill 5 = .ok (.invokevirtual 21, 3) := by decide +kernel
theorem dX4_fill_8 : decode cX4_fill 8 = .ok (.bipush 48, 2) := by decide +kernel
theorem dX4_fill_10 : decode cX4_fill 10 = .ok (.isub, 1) := by decide +kernel
theorem dX4_fill_11 : decode cX4_fill 11 = .ok (.putfield 27, 3) := by decide +kernel
theorem dX4_fill_14 : decode cX4_fill 14 = .ok (.aload_n 0, 1) := by decide +kernel
theorem dX4_fill_15 : decode cX4_fill 15 = .ok (.aload_n 1, 1) := by decide +kernel
theorem dX4_fill_16 : decode cX4_fill 16 = .ok (.iload_n 2, 1) := by decide +kernel
theorem dX4_fill_17 : decode cX4_fill 17 = .ok (.iconst 2, 1) := by decide +kernel
theorem dX4_fill_18 : decode cX4_fill 18 = .ok (.iadd, 1) := by decide +kernel
theorem dX4_fill_19 : decode cX4_fill 19 = .ok (.invokevirtual 21, 3) := by decide +kernel
theorem dX4_fill_22 : decode cX4_fill 22 = .ok (.bipush 48, 2) := by decide +kernel
theorem dX4_fill_24 : decode cX4_fill 24 = .ok (.isub, 1) := by decide +kernel
theorem dX4_fill_25 : decode cX4_fill 25 = .ok (.putfield 31, 3) := by decide +kernel
theorem dX4_fill_28 : decode cX4_fill 28 = .ok (.aload_n 0, 1) := by decide +kernel
theorem dX4_fill_29 : decode cX4_fill 29 = .ok (.iconst 0, 1) := by decide +kernel
theorem dX4_fill_30 : decode cX4_fill 30 = .ok (.putfield 34, 3) := by decide +kernel
theorem dX4_fill_33 : decode cX4_fill 33 = .ok (.aload_n 0, 1) := by decide +kernel
theorem dX4_fill_34 : decode cX4_fill 34 = .ok (.iconst 0, 1) := by decide +kernel
theorem dX4_fill_35 : decode cX4_fill 35 = .ok (.putfield 37, 3) := by decide +kernel
theorem dX4_fill_38 : decode cX4_fill 38 = .ok (.iload_n 2, 1) := by decide +kernel
theorem dX4_fill_39 : decode cX4_fill 39 = .ok (.iconst 3, 1) := by decide +kernel
theorem dX4_fill_40 : decode cX4_fill 40 = .ok (.iadd, 1) := by decide +kernel
theorem dX4_fill_41 : decode cX4_fill 41 = .ok (.istore 4, 2) := by decide +kernel
theorem dX4_fill_43 : decode cX4_fill 43 = .ok (.iload 4, 2) := by decide +kernel
theorem dX4_fill_45 : decode cX4_fill 45 = .ok (.iload_n 2, 1) := by decide +kernel
theorem dX4_fill_46 : decode cX4_fill 46 = .ok (.iload_n 3, 1) := by decide +kernel
theorem dX4_fill_47 : decode cX4_fill 47 = .ok (.iadd, 1) := by decide +kernel
theorem dX4_fill_48 : decode cX4_fill 48 = .ok (.if_icmp .ge 78, 3) := by decide +kernel
theorem dX4_fill_51 : decode cX4_fill 51 = .ok (.aload_n 1, 1) := by decide +kernel
theorem dX4_fill_52 : decode cX4_fill 52 = .ok (.iload 4, 2) := by decide +kernel
theorem dX4_fill_54 : decode cX4_fill 54 = .ok (.iconst 1, 1) := by decide +kernel
theorem dX4_fill_55 : decode cX4_fill 55 = .ok (.iadd, 1) := by decide +kernel
theorem dX4_fill_56 : decode cX4_fill 56 = .ok (.invokevirtual 21, 3) := by decide +kernel
theorem dX4_fill_59 : decode cX4_fill 59 = .ok (.istore 5, 2) := by decide +kernel
theorem dX4_fill_61 : decode cX4_fill 61 = .ok (.aload_n 0, 1) := by decide +kernel
theorem dX4_fill_62 : decode cX4_fill 62 = .ok (.dup, 1) := by decide +kernel
theorem dX4_fill_63 : decode cX4_fill 63 = .ok (.getfield 37, 3) := by decide +kernel
theorem dX4_fill_66 : decode cX4_fill 66 = .ok (.aload_n 1, 1) := by decide +kernel
theorem dX4_fill_67 : decode cX4_fill 67 = .ok (.iload 4, 2) := by decide +kernel
theorem dX4_fill_69 : decode cX4_fill 69 = .ok (.iconst 3, 1) := by decide +kernel
theorem dX4_fill_70 : decode cX4_fill 70 = .ok (.iadd, 1) := by decide +kernel
theorem dX4_fill_71 : decode cX4_fill 71 = .ok (.invokevirtual 21, 3) := by decide +kernel
theorem dX4_fill_74 : decode cX4_fill 74 = .ok (.bipush 48, 2) := by decide +kernel
theorem dX4_fill_76 : decode cX4_fill 76 = .ok (.isub, 1) := by decide +kernel
theorem dX4_fill_77 : decode cX4_fill 77 = .ok (.iadd, 1) := by decide +kernel
theorem dX4_fill_78 : decode cX4_fill 78 = .ok (.putfield 37, 3) := by decide +kernel
theorem dX4_fill_81 : decode cX4_fill 81 = .ok (.aload_n 0, 1) := by decide +kernel
theorem dX4_fill_82 : decode cX4_fill 82 = .ok (.iload 5, 2) := by decide +kernel
theorem dX4_fill_84 : decode cX4_fill 84 = .ok (.bipush 112, 2) := by decide +kernel
theorem dX4_fill_86 : decode cX4_fill 86 = .ok (.if_icmp .ne 7, 3) := by decide +kernel
theorem dX4_fill_89 : decode cX4_fill 89 = .ok (.iconst 0, 1) := by decide +kernel
theorem dX4_fill_90 : decode cX4_fill 90 = .ok (.goto 15, 3) := by decide +kernel
theorem dX4_fill_93 : decode cX4_fill 93 = .ok (.iload 5, 2) := by decide +kernel
theorem dX4_fill_95 : decode cX4_fill 95 = .ok (.bipush 99, 2) := by decide +kernel
theorem dX4_fill_97 : decode cX4_fill 97 = .ok (.if_icmp .ne 7, 3) := by decide +kernel
theorem dX4_fill_100 : decode cX4_fill 100 = .ok (.iconst 1, 1) := by decide +kernel
theorem dX4_fill_101 : decode cX4_fill 101 = .ok (.goto 4, 3) := by decide +kernel
theorem dX4_fill_104 : decode cX4_fill 104 = .ok (.iconst 2, 1) := by decide +kernel
theorem dX4_fill_105 : decode cX4_fill 105 = .ok (.aload_n 1, 1) := by decide +kernel
theorem dX4_fill_106 : decode cX4_fill 106 = .ok (.iload 4, 2) := by decide +kernel
theorem dX4_fill_108 : decode cX4_fill 108 = .ok (.iconst 2, 1) := by decide +kernel
theorem dX4_fill_109 : decode cX4_fill 109 = .ok (.iadd, 1) := by decide +kernel
theorem dX4_fill_110 : decode cX4_fill 110 = .ok (.invokevirtual 21, 3) := by decide +kernel
theorem dX4_fill_113 : decode cX4_fill 113 = .ok (.bipush 48, 2) := by decide +kernel
theorem dX4_fill_115 : decode cX4_fill 115 = .ok (.isub, 1) := by decide +kernel
theorem dX4_fill_116 : decode cX4_fill 116 = .ok (.invokevirtual 40, 3) := by decide +kernel
theorem dX4_fill_119 : decode cX4_fill 119 = .ok (.pop, 1) := by decide +kernel
theorem dX4_fill_120 : decode cX4_fill 120 = .ok (.iinc 4 4, 3) := by decide +kernel
theorem dX4_fill_123 : decode cX4_fill 123 = .ok (.goto (-80), 3) := by decide +kernel
theorem dX4_fill_126 : decode cX4_fill 126 = .ok (.return_, 1) := by decide +kernel
theorem dX4_become_0 : decode cX4_become 0 = .ok (.aload_n 1, 1) := by decide +kernel
theorem dX4_become_1 : decode cX4_become 1 = .ok (.getfield 9, 3) := by decide +kernel
theorem dX4_become_4 : decode cX4_become 4 = .ok (.iconst 0, 1) := by decide +kernel
theorem dX4_become_5 : decode cX4_become 5 = .ok (.aload_n 0, 1) := by decide +kernel
theorem dX4_become_6 : decode cX4_become 6 = .ok (.getfield 9, 3) := by decide +kernel
theorem dX4_become_9 : decode cX4_become 9 = .ok (.iconst 0, 1) := by decide +kernel
theorem dX4_become_10 : decode cX4_become 10 = .ok (.bipush 9, 2) := by decide +kernel
theorem dX4_become_12 : decode cX4_become 12 = .ok (.invokestatic 44, 3) := by decide +kernel
theorem dX4_become_15 : decode cX4_become 15 = .ok (.aload_n 1, 1) := by decide +kernel
theorem dX4_become_16 : decode cX4_become 16 = .ok (.getfield 15, 3) := by decide +kernel
theorem dX4_become_19 : decode cX4_become 19 = .ok (.iconst 0, 1) := by decide +kernel
theorem dX4_become_20 : decode cX4_become 20 = .ok (.aload_n 0, 1) := by decide +kernel
theorem dX4_become_21 : decode cX4_become 21 = .ok (.getfield 15, 3) := by decide +kernel
theorem dX4_become_24 : decode cX4_become 24 = .ok (.iconst 0, 1) := by decide +kernel
theorem dX4_become_25 : decode cX4_become 25 = .ok (.bipush 9, 2) := by decide +kernel
theorem dX4_become_27 : decode cX4_become 27 = .ok (.invokestatic 44, 3) := by decide +kernel
theorem dX4_become_30 : decode cX4_become 30 = .ok (.aload_n 1, 1) := by decide +kernel
theorem dX4_become_31 : decode cX4_become 31 = .ok (.getfield 18, 3) := by decide +kernel
theorem dX4_become_34 : decode cX4_become 34 = .ok (.iconst 0, 1) := by decide +kernel
theorem dX4_become_35 : decode cX4_become 35 = .ok (.aload_n 0, 1) := by decide +kernel
theorem dX4_become_36 : decode cX4_become 36 = .ok (.getfield 18, 3) := by decide +kernel
theorem dX4_become_39 : decode cX4_become 39 = .ok (.iconst 0, 1) := by decide +kernel
theorem dX4_become_40 : decode cX4_become 40 = .ok (.bipush 9, 2) := by decide +kernel
theorem dX4_become_42 : decode cX4_become 42 = .ok (.invokestatic 44, 3) := by decide +kernel
theorem dX4_become_45 : decode cX4_become 45 = .ok (.aload_n 0, 1) := by decide +kernel
theorem dX4_become_46 : decode cX4_become 46 = .ok (.aload_n 1, 1) := by decide +kernel
theorem dX4_become_47 : decode cX4_become 47 = .ok (.getfield 34, 3) := by decide +kernel
theorem dX4_become_50 : decode cX4_become 50 = .ok (.putfield 34, 3) := by decide +kernel
theorem dX4_become_53 : decode cX4_become 53 = .ok (.aload_n 0, 1) := by decide +kernel
theorem dX4_become_54 : decode cX4_become 54 = .ok (.aload_n 1, 1) := by decide +kernel
theorem dX4_become_55 : decode cX4_become 55 = .ok (.getfield 27, 3) := by decide +kernel
theorem dX4_become_58 : decode cX4_become 58 = .ok (.putfield 27, 3) := by decide +kernel
theorem dX4_become_61 : decode cX4_become 61 = .ok (.aload_n 0, 1) := by decide +kernel
theorem dX4_become_62 : decode cX4_become 62 = .ok (.aload_n 1, 1) := by decide +kernel
theorem dX4_become_63 : decode cX4_become 63 = .ok (.getfield 31, 3) := by decide +kernel
theorem dX4_become_66 : decode cX4_become 66 = .ok (.putfield 31, 3) := by decide +kernel
theorem dX4_become_69 : decode cX4_become 69 = .ok (.aload_n 0, 1) := by decide +kernel
theorem dX4_become_70 : decode cX4_become 70 = .ok (.aload_n 1, 1) := by decide +kernel
theorem dX4_become_71 : decode cX4_become 71 = .ok (.getfield 37, 3) := by decide +kernel
theorem dX4_become_74 : decode cX4_become 74 = .ok (.putfield 37, 3) := by decide +kernel
theorem dX4_become_77 : decode cX4_become 77 = .ok (.return_, 1) := by decide +kernel
theorem dX4_isPin_0 : decode cX4_isPin 0 = .ok (.iload_n 1, 1) := by decide +kernel
theorem dX4_isPin_1 : decode cX4_isPin 1 = .ok (.ifCond .lt 21, 3) := by decide +kernel
theorem dX4_isPin_4 : decode cX4_isPin 4 = .ok (.iload_n 1, 1) := by decide +kernel
theorem dX4_isPin_5 : decode cX4_isPin 5 = .ok (.aload_n 0, 1) := by decide +kernel
theorem dX4_isPin_6 : decode cX4_isPin 6 = .ok (.getfield 34, 3) := by decide +kernel
theorem dX4_isPin_9 : decode cX4_isPin 9 = .ok (.if_icmp .ge 13, 3) := by decide +kernel
theorem dX4_isPin_12 : decode cX4_isPin 12 = .ok (.iload_n 1, 1) := by decide +kernel
theorem dX4_isPin_13 : decode cX4_isPin 13 = .ok (.bipush 9, 2) := by decide +kernel
theorem dX4_isPin_15 : decode cX4_isPin 15 = .ok (.if_icmp .ge 7, 3) := by decide +kernel
theorem dX4_isPin_18 : decode cX4_isPin 18 = .ok (.iconst 1, 1) := by decide +kernel
theorem dX4_isPin_19 : decode cX4_isPin 19 = .ok (.goto 4, 3) := by decide +kernel
theorem dX4_isPin_22 : decode cX4_isPin 22 = .ok (.iconst 0, 1) := by decide +kernel
theorem dX4_isPin_23 : decode cX4_isPin 23 = .ok (.ireturn, 1) := by decide +kernel
set_option maxRecDepth 20000 in
theorem ggX4_kindAt_X4_isPin : GoodIn wsX4_kindAt wsX4_isPin := goodIn_r _ [6, 7, 8, 9, 10, 11, 12, 13, 14] (by decide +kernel) (by decide +kernel)
set_option maxRecDepth 20000 in
theorem gX4_kindAt_X4_isPin : GoodIn wsX4_kindAt (wsV RX4 50 RX4 yX4_isPin wsX4_isPin) := goodIn_app (goodIn_of _ (by decide +kernel)) ggX4_kindAt_X4_isPin
theorem dX4_kindAt_0 : decode cX4_kindAt 0 = .ok (.aload_n 0, 1) := by decide +kernel
theorem dX4_kindAt_1 : decode cX4_kindAt 1 = .ok (.iload_n 1, 1) := by decide +kernel
theorem dX4_kindAt_2 : decode cX4_kindAt 2 = .ok (.invokevirtual 50, 3) := by decide +kernel
theorem dX4_kindAt_5 : decode cX4_kindAt 5 = .ok (.ifCond .eq 12, 3) := by decide +kernel
theorem dX4_kindAt_8 : decode cX4_kindAt 8 = .ok (.aload_n 0, 1) := by decide +kernel
theorem dX4_kindAt_9 : decode cX4_kindAt 9 = .ok (.getfield 9, 3) := by decide +kernel
theorem dX4_kindAt_12 : decode cX4_kindAt 12 = .ok (.iload_n 1, 1) := by decide +kernel
theorem dX4_kindAt_13 : decode cX4_kindAt 13 = .ok (.iaload, 1) := by decide +kernel
theorem dX4_kindAt_14 : decode cX4_kindAt 14 = .ok (.goto 5, 3) := by decide +kernel
theorem dX4_kindAt_17 : decode cX4_kindAt 17 = .ok (.bipush (-9), 2) := by decide +kernel
theorem dX4_kindAt_19 : decode cX4_kindAt 19 = .ok (.ireturn, 1) := by decide +kernel
set_option maxRecDepth 20000 in
theorem ggX4_bendAt_X4_isPin : GoodIn wsX4_bendAt wsX4_isPin := goodIn_r _ [6, 7, 8, 9, 10, 11, 12, 13, 14] (by decide +kernel) (by decide +kernel)
set_option maxRecDepth 20000 in
theorem gX4_bendAt_X4_isPin : GoodIn wsX4_bendAt (wsV RX4 50 RX4 yX4_isPin wsX4_isPin) := goodIn_app (goodIn_of _ (by decide +kernel)) ggX4_bendAt_X4_isPin
theorem dX4_bendAt_0 : decode cX4_bendAt 0 = .ok (.aload_n 0, 1) := by decide +kernel
theorem dX4_bendAt_1 : decode cX4_bendAt 1 = .ok (.iload_n 1, 1) := by decide +kernel
theorem dX4_bendAt_2 : decode cX4_bendAt 2 = .ok (.invokevirtual 50, 3) := by decide +kernel
theorem dX4_bendAt_5 : decode cX4_bendAt 5 = .ok (.ifCond .eq 12, 3) := by decide +kernel
theorem dX4_bendAt_8 : decode cX4_bendAt 8 = .ok (.aload_n 0, 1) := by decide +kernel
theorem dX4_bendAt_9 : decode cX4_bendAt 9 = .ok (.getfield 15, 3) := by decide +kernel
theorem dX4_bendAt_12 : decode cX4_bendAt 12 = .ok (.iload_n 1, 1) := by decide +kernel
theorem dX4_bendAt_13 : decode cX4_bendAt 13 = .ok (.iaload, 1) := by decide +kernel
theorem dX4_bendAt_14 : decode cX4_bendAt 14 = .ok (.goto 5, 3) := by decide +kernel
theorem dX4_bendAt_17 : decode cX4_bendAt 17 = .ok (.bipush (-9), 2) := by decide +kernel
theorem dX4_bendAt_19 : decode cX4_bendAt 19 = .ok (.ireturn, 1) := by decide +kernel
set_option maxRecDepth 20000 in
theorem ggX4_yearAt_X4_isPin : GoodIn wsX4_yearAt wsX4_isPin := goodIn_r _ [6, 7, 8, 9, 10, 11, 12, 13, 14] (by decide +kernel) (by decide +kernel)
set_option maxRecDepth 20000 in
theorem gX4_yearAt_X4_isPin : GoodIn wsX4_yearAt (wsV RX4 50 RX4 yX4_isPin wsX4_isPin) := goodIn_app (goodIn_of _ (by decide +kernel)) ggX4_yearAt_X4_isPin
theorem dX4_yearAt_0 : decode cX4_yearAt 0 = .ok (.aload_n 0, 1) := by decide +kernel
theorem dX4_yearAt_1 : decode cX4_yearAt 1 = .ok (.iload_n 1, 1) := by decide +kernel
theorem dX4_yearAt_2 : decode cX4_yearAt 2 = .ok (.invokevirtual 50, 3) := by decide +kernel
theorem dX4_yearAt_5 : decode cX4_yearAt 5 = .ok (.ifCond .eq 12, 3) := by decide +kernel
theorem dX4_yearAt_8 : decode cX4_yearAt 8 = .ok (.aload_n 0, 1) := by decide +kernel
theorem dX4_yearAt_9 : decode cX4_yearAt 9 = .ok (.getfield 18, 3) := by decide +kernel
theorem dX4_yearAt_12 : decode cX4_yearAt 12 = .ok (.iload_n 1, 1) := by decide +kernel
theorem dX4_yearAt_13 : decode cX4_yearAt 13 = .ok (.iaload, 1) := by decide +kernel
theorem dX4_yearAt_14 : decode cX4_yearAt 14 = .ok (.goto 5, 3) := by decide +kernel
theorem dX4_yearAt_17 : decode cX4_yearAt 17 = .ok (.bipush (-9), 2) := by decide +kernel
theorem dX4_yearAt_19 : decode cX4_yearAt 19 = .ok (.ireturn, 1) := by decide +kernel
set_option maxRecDepth 20000 in
theorem ggX4_turnAt_X4_isPin : GoodIn wsX4_turnAt wsX4_isPin := goodIn_r _ [7, 8, 12, 13, 14, 15, 16, 17, 18] (by decide +kernel) (by decide +kernel)
set_option maxRecDepth 20000 in
theorem gX4_turnAt_X4_isPin : GoodIn wsX4_turnAt (wsV RX4 50 RX4 yX4_isPin wsX4_isPin) := goodIn_app (goodIn_of _ (by decide +kernel)) ggX4_turnAt_X4_isPin
set_option maxRecDepth 20000 in
theorem ggX4_turnAt_X5_turnOf : GoodIn wsX4_turnAt wsX5_turnOf := goodIn_r _ [11] (by decide +kernel) (by decide +kernel)
set_option maxRecDepth 20000 in
theorem gX4_turnAt_X5_turnOf_n54 : GoodIn wsX4_turnAt (wsX5_turnOf) := ggX4_turnAt_X5_turnOf
theorem dX4_turnAt_0 : decode cX4_turnAt 0 = .ok (.aload_n 0, 1) := by decide +kernel
theorem dX4_turnAt_1 : decode cX4_turnAt 1 = .ok (.iload_n 1, 1) := by decide +kernel
theorem dX4_turnAt_2 : decode cX4_turnAt 2 = .ok (.invokevirtual 50, 3) := by decide +kernel
theorem dX4_turnAt_5 : decode cX4_turnAt 5 = .ok (.ifCond .eq 21, 3) := by decide +kernel
theorem dX4_turnAt_8 : decode cX4_turnAt 8 = .ok (.aload_n 0, 1) := by decide +kernel
theorem dX4_turnAt_9 : decode cX4_turnAt 9 = .ok (.getfield 9, 3) := by decide +kernel
theorem dX4_turnAt_12 : decode cX4_turnAt 12 = .ok (.iload_n 1, 1) := by decide +kernel
theorem dX4_turnAt_13 : decode cX4_turnAt 13 = .ok (.iaload, 1) := by decide +kernel
theorem dX4_turnAt_14 : decode cX4_turnAt 14 = .ok (.aload_n 0, 1) := by decide +kernel
theorem dX4_turnAt_15 : decode cX4_turnAt 15 = .ok (.getfield 15, 3) := by decide +kernel
theorem dX4_turnAt_18 : decode cX4_turnAt 18 = .ok (.iload_n 1, 1) := by decide +kernel
theorem dX4_turnAt_19 : decode cX4_turnAt 19 = .ok (.iaload, 1) := by decide +kernel
theorem dX4_turnAt_20 : decode cX4_turnAt 20 = .ok (.invokestatic 54, 3) := by decide +kernel
theorem dX4_turnAt_23 : decode cX4_turnAt 23 = .ok (.goto 5, 3) := by decide +kernel
theorem dX4_turnAt_26 : decode cX4_turnAt 26 = .ok (.bipush (-9), 2) := by decide +kernel
theorem dX4_turnAt_28 : decode cX4_turnAt 28 = .ok (.ireturn, 1) := by decide +kernel
set_option maxRecDepth 20000 in
theorem ggX4_wishAt_X4_isPin : GoodIn wsX4_wishAt wsX4_isPin := goodIn_r _ [10, 11, 17, 18, 19, 20, 21, 22, 23] (by decide +kernel) (by decide +kernel)
set_option maxRecDepth 20000 in
theorem gX4_wishAt_X4_isPin : GoodIn wsX4_wishAt (wsV RX4 50 RX4 yX4_isPin wsX4_isPin) := goodIn_app (goodIn_of _ (by decide +kernel)) ggX4_wishAt_X4_isPin
set_option maxRecDepth 20000 in
theorem ggX4_wishAt_X5_turnOf : GoodIn wsX4_wishAt wsX5_turnOf := goodIn_r _ [14] (by decide +kernel) (by decide +kernel)
set_option maxRecDepth 20000 in
theorem gX4_wishAt_X5_turnOf_n54 : GoodIn wsX4_wishAt (wsX5_turnOf) := ggX4_wishAt_X5_turnOf
set_option maxRecDepth 20000 in
theorem ggX4_wishAt_X5_wishOf : GoodIn wsX4_wishAt wsX5_wishOf := goodIn_r _ [16] (by decide +kernel) (by decide +kernel)
set_option maxRecDepth 20000 in
theorem gX4_wishAt_X5_wishOf_n58 : GoodIn wsX4_wishAt (wsX5_wishOf) := ggX4_wishAt_X5_wishOf
theorem dX4_wishAt_0 : decode cX4_wishAt 0 = .ok (.aload_n 0, 1) := by decide +kernel
theorem dX4_wishAt_1 : decode cX4_wishAt 1 = .ok (.iload_n 1, 1) := by decide +kernel
theorem dX4_wishAt_2 : decode cX4_wishAt 2 = .ok (.invokevirtual 50, 3) := by decide +kernel
theorem dX4_wishAt_5 : decode cX4_wishAt 5 = .ok (.ifCond .eq 38, 3) := by decide +kernel
theorem dX4_wishAt_8 : decode cX4_wishAt 8 = .ok (.aload_n 0, 1) := by decide +kernel
theorem dX4_wishAt_9 : decode cX4_wishAt 9 = .ok (.getfield 27, 3) := by decide +kernel
theorem dX4_wishAt_12 : decode cX4_wishAt 12 = .ok (.aload_n 0, 1) := by decide +kernel
theorem dX4_wishAt_13 : decode cX4_wishAt 13 = .ok (.getfield 9, 3) := by decide +kernel
theorem dX4_wishAt_16 : decode cX4_wishAt 16 = .ok (.iload_n 1, 1) := by decide +kernel
theorem dX4_wishAt_17 : decode cX4_wishAt 17 = .ok (.iaload, 1) := by decide +kernel
theorem dX4_wishAt_18 : decode cX4_wishAt 18 = .ok (.aload_n 0, 1) := by decide +kernel
theorem dX4_wishAt_19 : decode cX4_wishAt 19 = .ok (.getfield 15, 3) := by decide +kernel
theorem dX4_wishAt_22 : decode cX4_wishAt 22 = .ok (.iload_n 1, 1) := by decide +kernel
theorem dX4_wishAt_23 : decode cX4_wishAt 23 = .ok (.iaload, 1) := by decide +kernel
theorem dX4_wishAt_24 : decode cX4_wishAt 24 = .ok (.invokestatic 54, 3) := by decide +kernel
theorem dX4_wishAt_27 : decode cX4_wishAt 27 = .ok (.aload_n 0, 1) := by decide +kernel
theorem dX4_wishAt_28 : decode cX4_wishAt 28 = .ok (.getfield 31, 3) := by decide +kernel
theorem dX4_wishAt_31 : decode cX4_wishAt 31 = .ok (.aload_n 0, 1) := by decide +kernel
theorem dX4_wishAt_32 : decode cX4_wishAt 32 = .ok (.getfield 18, 3) := by decide +kernel
theorem dX4_wishAt_35 : decode cX4_wishAt 35 = .ok (.iload_n 1, 1) := by decide +kernel
theorem dX4_wishAt_36 : decode cX4_wishAt 36 = .ok (.iaload, 1) := by decide +kernel
theorem dX4_wishAt_37 : decode cX4_wishAt 37 = .ok (.invokestatic 58, 3) := by decide +kernel
theorem dX4_wishAt_40 : decode cX4_wishAt 40 = .ok (.goto 5, 3) := by decide +kernel
theorem dX4_wishAt_43 : decode cX4_wishAt 43 = .ok (.bipush (-9), 2) := by decide +kernel
theorem dX4_wishAt_45 : decode cX4_wishAt 45 = .ok (.ireturn, 1) := by decide +kernel
set_option maxRecDepth 20000 in
theorem ggX4_wishNow_X5_turnOf : GoodIn wsX4_wishNow wsX5_turnOf := goodIn_r _ [6] (by decide +kernel) (by decide +kernel)
set_option maxRecDepth 20000 in
theorem gX4_wishNow_X5_turnOf_n54 : GoodIn wsX4_wishNow (wsX5_turnOf) := ggX4_wishNow_X5_turnOf
set_option maxRecDepth 20000 in
theorem ggX4_wishNow_X5_wishOf : GoodIn wsX4_wishNow wsX5_wishOf := goodIn_r _ [8] (by decide +kernel) (by decide +kernel)
set_option maxRecDepth 20000 in
theorem gX4_wishNow_X5_wishOf_n58 : GoodIn wsX4_wishNow (wsX5_wishOf) := ggX4_wishNow_X5_wishOf
theorem dX4_wishNow_0 : decode cX4_wishNow 0 = .ok (.aload_n 0, 1) := by decide +kernel
theorem dX4_wishNow_1 : decode cX4_wishNow 1 = .ok (.getfield 27, 3) := by decide +kernel
theorem dX4_wishNow_4 : decode cX4_wishNow 4 = .ok (.iload_n 1, 1) := by decide +kernel
theorem dX4_wishNow_5 : decode cX4_wishNow 5 = .ok (.iload_n 2, 1) := by decide +kernel
theorem dX4_wishNow_6 : decode cX4_wishNow 6 = .ok (.invokestatic 54, 3) := by decide +kernel
theorem dX4_wishNow_9 : decode cX4_wishNow 9 = .ok (.aload_n 0, 1) := by decide +kernel
theorem dX4_wishNow_10 : decode cX4_wishNow 10 = .ok (.getfield 31, 3) := by decide +kernel
theorem dX4_wishNow_13 : decode cX4_wishNow 13 = .ok (.aload_n 0, 1) := by decide +kernel
theorem dX4_wishNow_14 : decode cX4_wishNow 14 = .ok (.getfield 37, 3) := by decide +kernel
theorem dX4_wishNow_17 : decode cX4_wishNow 17 = .ok (.invokestatic 58, 3) := by decide +kernel
theorem dX4_wishNow_20 : decode cX4_wishNow 20 = .ok (.ireturn, 1) := by decide +kernel
set_option maxRecDepth 20000 in
theorem ggX4_setBend_X4_isPin : GoodIn wsX4_setBend wsX4_isPin := goodIn_r _ [6, 7, 8, 9, 10, 11, 12, 13, 14] (by decide +kernel) (by decide +kernel)
set_option maxRecDepth 20000 in
theorem gX4_setBend_X4_isPin : GoodIn wsX4_setBend (wsV RX4 50 RX4 yX4_isPin wsX4_isPin) := goodIn_app (goodIn_of _ (by decide +kernel)) ggX4_setBend_X4_isPin
theorem dX4_setBend_0 : decode cX4_setBend 0 = .ok (.aload_n 0, 1) := by decide +kernel
theorem dX4_setBend_1 : decode cX4_setBend 1 = .ok (.iload_n 1, 1) := by decide +kernel
theorem dX4_setBend_2 : decode cX4_setBend 2 = .ok (.invokevirtual 50, 3) := by decide +kernel
theorem dX4_setBend_5 : decode cX4_setBend 5 = .ok (.ifCond .eq 10, 3) := by decide +kernel
theorem dX4_setBend_8 : decode cX4_setBend 8 = .ok (.aload_n 0, 1) := by decide +kernel
theorem dX4_setBend_9 : decode cX4_setBend 9 = .ok (.getfield 15, 3) := by decide +kernel
theorem dX4_setBend_12 : decode cX4_setBend 12 = .ok (.iload_n 1, 1) := by decide +kernel
theorem dX4_setBend_13 : decode cX4_setBend 13 = .ok (.iload_n 2, 1) := by decide +kernel
theorem dX4_setBend_14 : decode cX4_setBend 14 = .ok (.iastore, 1) := by decide +kernel
theorem dX4_setBend_15 : decode cX4_setBend 15 = .ok (.return_, 1) := by decide +kernel
theorem dX4_addTop_0 : decode cX4_addTop 0 = .ok (.aload_n 0, 1) := by decide +kernel
theorem dX4_addTop_1 : decode cX4_addTop 1 = .ok (.getfield 34, 3) := by decide +kernel
theorem dX4_addTop_4 : decode cX4_addTop 4 = .ok (.ifCond .lt 12, 3) := by decide +kernel
theorem dX4_addTop_7 : decode cX4_addTop 7 = .ok (.aload_n 0, 1) := by decide +kernel
theorem dX4_addTop_8 : decode cX4_addTop 8 = .ok (.getfield 34, 3) := by decide +kernel
theorem dX4_addTop_11 : decode cX4_addTop 11 = .ok (.bipush 9, 2) := by decide +kernel
theorem dX4_addTop_13 : decode cX4_addTop 13 = .ok (.if_icmp .lt 5, 3) := by decide +kernel
theorem dX4_addTop_16 : decode cX4_addTop 16 = .ok (.iconst 0, 1) := by decide +kernel
theorem dX4_addTop_17 : decode cX4_addTop 17 = .ok (.ireturn, 1) := by decide +kernel
theorem dX4_addTop_18 : decode cX4_addTop 18 = .ok (.aload_n 0, 1) := by decide +kernel
theorem dX4_addTop_19 : decode cX4_addTop 19 = .ok (.getfield 9, 3) := by decide +kernel
theorem dX4_addTop_22 : decode cX4_addTop 22 = .ok (.aload_n 0, 1) := by decide +kernel
theorem dX4_addTop_23 : decode cX4_addTop 23 = .ok (.getfield 34, 3) := by decide +kernel
theorem dX4_addTop_26 : decode cX4_addTop 26 = .ok (.iload_n 1, 1) := by decide +kernel
theorem dX4_addTop_27 : decode cX4_addTop 27 = .ok (.iastore, 1) := by decide +kernel
theorem dX4_addTop_28 : decode cX4_addTop 28 = .ok (.aload_n 0, 1) := by decide +kernel
theorem dX4_addTop_29 : decode cX4_addTop 29 = .ok (.getfield 15, 3) := by decide +kernel
theorem dX4_addTop_32 : decode cX4_addTop 32 = .ok (.aload_n 0, 1) := by decide +kernel
theorem dX4_addTop_33 : decode cX4_addTop 33 = .ok (.getfield 34, 3) := by decide +kernel
theorem dX4_addTop_36 : decode cX4_addTop 36 = .ok (.iload_n 2, 1) := by decide +kernel
theorem dX4_addTop_37 : decode cX4_addTop 37 = .ok (.iastore, 1) := by decide +kernel
theorem dX4_addTop_38 : decode cX4_addTop 38 = .ok (.aload_n 0, 1) := by decide +kernel
theorem dX4_addTop_39 : decode cX4_addTop 39 = .ok (.getfield 18, 3) := by decide +kernel
theorem dX4_addTop_42 : decode cX4_addTop 42 = .ok (.aload_n 0, 1) := by decide +kernel
theorem dX4_addTop_43 : decode cX4_addTop 43 = .ok (.getfield 34, 3) := by decide +kernel
theorem dX4_addTop_46 : decode cX4_addTop 46 = .ok (.aload_n 0, 1) := by decide +kernel
theorem dX4_addTop_47 : decode cX4_addTop 47 = .ok (.getfield 37, 3) := by decide +kernel
theorem dX4_addTop_50 : decode cX4_addTop 50 = .ok (.iastore, 1) := by decide +kernel
theorem dX4_addTop_51 : decode cX4_addTop 51 = .ok (.aload_n 0, 1) := by decide +kernel
theorem dX4_addTop_52 : decode cX4_addTop 52 = .ok (.dup, 1) := by decide +kernel
theorem dX4_addTop_53 : decode cX4_addTop 53 = .ok (.getfield 34, 3) := by decide +kernel
theorem dX4_addTop_56 : decode cX4_addTop 56 = .ok (.iconst 1, 1) := by decide +kernel
theorem dX4_addTop_57 : decode cX4_addTop 57 = .ok (.iadd, 1) := by decide +kernel
theorem dX4_addTop_58 : decode cX4_addTop 58 = .ok (.putfield 34, 3) := by decide +kernel
theorem dX4_addTop_61 : decode cX4_addTop 61 = .ok (.iconst 1, 1) := by decide +kernel
theorem dX4_addTop_62 : decode cX4_addTop 62 = .ok (.ireturn, 1) := by decide +kernel
theorem dX4_dropTop_0 : decode cX4_dropTop 0 = .ok (.aload_n 0, 1) := by decide +kernel
theorem dX4_dropTop_1 : decode cX4_dropTop 1 = .ok (.getfield 34, 3) := by decide +kernel
theorem dX4_dropTop_4 : decode cX4_dropTop 4 = .ok (.iconst 2, 1) := by decide +kernel
theorem dX4_dropTop_5 : decode cX4_dropTop 5 = .ok (.if_icmp .ge 5, 3) := by decide +kernel
theorem dX4_dropTop_8 : decode cX4_dropTop 8 = .ok (.iconst 0, 1) := by decide +kernel
theorem dX4_dropTop_9 : decode cX4_dropTop 9 = .ok (.ireturn, 1) := by decide +kernel
theorem dX4_dropTop_10 : decode cX4_dropTop 10 = .ok (.aload_n 0, 1) := by decide +kernel
theorem dX4_dropTop_11 : decode cX4_dropTop 11 = .ok (.dup, 1) := by decide +kernel
theorem dX4_dropTop_12 : decode cX4_dropTop 12 = .ok (.getfield 34, 3) := by decide +kernel
theorem dX4_dropTop_15 : decode cX4_dropTop 15 = .ok (.iconst 1, 1) := by decide +kernel
theorem dX4_dropTop_16 : decode cX4_dropTop 16 = .ok (.isub, 1) := by decide +kernel
theorem dX4_dropTop_17 : decode cX4_dropTop 17 = .ok (.putfield 34, 3) := by decide +kernel
theorem dX4_dropTop_20 : decode cX4_dropTop 20 = .ok (.iconst 1, 1) := by decide +kernel
theorem dX4_dropTop_21 : decode cX4_dropTop 21 = .ok (.ireturn, 1) := by decide +kernel
theorem dJ9_floorMod_7cf53_0 : decode cJ9_floorMod_7cf53 0 = .ok (.iload_n 0, 1) := by decide +kernel
theorem dJ9_floorMod_7cf53_1 : decode cJ9_floorMod_7cf53 1 = .ok (.iload_n 1, 1) := by decide +kernel
theorem dJ9_floorMod_7cf53_2 : decode cJ9_floorMod_7cf53 2 = .ok (.irem, 1) := by decide +kernel
theorem dJ9_floorMod_7cf53_3 : decode cJ9_floorMod_7cf53 3 = .ok (.istore_n 2, 1) := by decide +kernel
theorem dJ9_floorMod_7cf53_4 : decode cJ9_floorMod_7cf53 4 = .ok (.iload_n 0, 1) := by decide +kernel
theorem dJ9_floorMod_7cf53_5 : decode cJ9_floorMod_7cf53 5 = .ok (.iload_n 1, 1) := by decide +kernel
theorem dJ9_floorMod_7cf53_6 : decode cJ9_floorMod_7cf53 6 = .ok (.ixor, 1) := by decide +kernel
theorem dJ9_floorMod_7cf53_7 : decode cJ9_floorMod_7cf53 7 = .ok (.ifCond .ge 11, 3) := by decide +kernel
theorem dJ9_floorMod_7cf53_10 : decode cJ9_floorMod_7cf53 10 = .ok (.iload_n 2, 1) := by decide +kernel
theorem dJ9_floorMod_7cf53_11 : decode cJ9_floorMod_7cf53 11 = .ok (.ifCond .eq 7, 3) := by decide +kernel
theorem dJ9_floorMod_7cf53_14 : decode cJ9_floorMod_7cf53 14 = .ok (.iload_n 2, 1) := by decide +kernel
theorem dJ9_floorMod_7cf53_15 : decode cJ9_floorMod_7cf53 15 = .ok (.iload_n 1, 1) := by decide +kernel
theorem dJ9_floorMod_7cf53_16 : decode cJ9_floorMod_7cf53 16 = .ok (.iadd, 1) := by decide +kernel
theorem dJ9_floorMod_7cf53_17 : decode cJ9_floorMod_7cf53 17 = .ok (.ireturn, 1) := by decide +kernel
theorem dJ9_floorMod_7cf53_18 : decode cJ9_floorMod_7cf53 18 = .ok (.iload_n 2, 1) := by decide +kernel
theorem dJ9_floorMod_7cf53_19 : decode cJ9_floorMod_7cf53 19 = .ok (.ireturn, 1) := by decide +kernel
theorem dJ9_max_7cf53_0 : decode cJ9_max_7cf53 0 = .ok (.iload_n 0, 1) := by decide +kernel
theorem dJ9_max_7cf53_1 : decode cJ9_max_7cf53 1 = .ok (.iload_n 1, 1) := by decide +kernel
theorem dJ9_max_7cf53_2 : decode cJ9_max_7cf53 2 = .ok (.if_icmp .lt 7, 3) := by decide +kernel
theorem dJ9_max_7cf53_5 : decode cJ9_max_7cf53 5 = .ok (.iload_n 0, 1) := by decide +kernel
theorem dJ9_max_7cf53_6 : decode cJ9_max_7cf53 6 = .ok (.goto 4, 3) := by decide +kernel
theorem dJ9_max_7cf53_9 : decode cJ9_max_7cf53 9 = .ok (.iload_n 1, 1) := by decide +kernel
theorem dJ9_max_7cf53_10 : decode cJ9_max_7cf53 10 = .ok (.ireturn, 1) := by decide +kernel
theorem dJ9_min_7cf53_0 : decode cJ9_min_7cf53 0 = .ok (.iload_n 0, 1) := by decide +kernel
theorem dJ9_min_7cf53_1 : decode cJ9_min_7cf53 1 = .ok (.iload_n 1, 1) := by decide +kernel
theorem dJ9_min_7cf53_2 : decode cJ9_min_7cf53 2 = .ok (.if_icmp .gt 7, 3) := by decide +kernel
theorem dJ9_min_7cf53_5 : decode cJ9_min_7cf53 5 = .ok (.iload_n 0, 1) := by decide +kernel
theorem dJ9_min_7cf53_6 : decode cJ9_min_7cf53 6 = .ok (.goto 4, 3) := by decide +kernel
theorem dJ9_min_7cf53_9 : decode cJ9_min_7cf53 9 = .ok (.iload_n 1, 1) := by decide +kernel
theorem dJ9_min_7cf53_10 : decode cJ9_min_7cf53 10 = .ok (.ireturn, 1) := by decide +kernel
