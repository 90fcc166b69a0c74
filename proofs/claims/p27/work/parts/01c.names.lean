theorem dX5_neededFrom_53 : decode cX5_neededFrom 53 = .ok (.goto (-45), 3) := by decide +kernel
theorem dX5_neededFrom_56 : decode cX5_neededFrom 56 = .ok (.iload_n 3, 1) := by decide +kernel
theorem dX5_neededFrom_57 : decode cX5_neededFrom 57 = .ok (.ireturn, 1) := by decide +kernel
set_option maxRecDepth 20000 in
theorem ggX5_shortestOfBreath_X4_isPresent : GoodIn wsX5_shortestOfBreath wsX4_isPresent := goodIn_r _ [7, 8, 9, 10, 11, 18, 19, 20, 21, 22, 23, 24, 25, 26, 27, 28, 29, 30] (by decide +kernel) (by decide +kernel)
set_option maxRecDepth 20000 in
theorem gX5_shortestOfBreath_X4_isPresent : GoodIn wsX5_shortestOfBreath (wsV RX5 95 RX4 yX4_isPresent wsX4_isPresent) := goodIn_app (goodIn_of _ (by decide +kernel)) ggX5_shortestOfBreath_X4_isPresent
set_option maxRecDepth 20000 in
theorem ggX5_shortestOfBreath_X7_contains : GoodIn wsX5_shortestOfBreath wsX7_contains := goodIn_r _ [11] (by decide +kernel) (by decide +kernel)
set_option maxRecDepth 20000 in
theorem gX5_shortestOfBreath_X7_contains_n98 : GoodIn wsX5_shortestOfBreath (wsX7_contains) := ggX5_shortestOfBreath_X7_contains
set_option maxRecDepth 20000 in
theorem ggX5_shortestOfBreath_X2_at : GoodIn wsX5_shortestOfBreath wsX2_at := goodIn_r _ [16, 17, 32] (by decide +kernel) (by decide +kernel)
set_option maxRecDepth 20000 in
theorem gX5_shortestOfBreath_X2_at : GoodIn wsX5_shortestOfBreath (wsV RX5 89 RX2 yX2_at wsX2_at) := goodIn_app (goodIn_of _ (by decide +kernel)) ggX5_shortestOfBreath_X2_at
theorem dX5_shortestOfBreath_0 : decode cX5_shortestOfBreath 0 = .ok (.bipush (-5), 2) := by decide +kernel
theorem dX5_shortestOfBreath_2 : decode cX5_shortestOfBreath 2 = .ok (.istore 4, 2) := by decide +kernel
theorem dX5_shortestOfBreath_4 : decode cX5_shortestOfBreath 4 = .ok (.iload_n 2, 1) := by decide +kernel
theorem dX5_shortestOfBreath_5 : decode cX5_shortestOfBreath 5 = .ok (.istore 5, 2) := by decide +kernel
theorem dX5_shortestOfBreath_7 : decode cX5_shortestOfBreath 7 = .ok (.iconst 0, 1) := by decide +kernel
theorem dX5_shortestOfBreath_8 : decode cX5_shortestOfBreath 8 = .ok (.istore 6, 2) := by decide +kernel
theorem dX5_shortestOfBreath_10 : decode cX5_shortestOfBreath 10 = .ok (.iload 6, 2) := by decide +kernel
theorem dX5_shortestOfBreath_12 : decode cX5_shortestOfBreath 12 = .ok (.aload_n 1, 1) := by decide +kernel
theorem dX5_shortestOfBreath_13 : decode cX5_shortestOfBreath 13 = .ok (.getfield 92, 3) := by decide +kernel
theorem dX5_shortestOfBreath_16 : decode cX5_shortestOfBreath 16 = .ok (.if_icmp .ge 68, 3) := by decide +kernel
theorem dX5_shortestOfBreath_19 : decode cX5_shortestOfBreath 19 = .ok (.aload_n 1, 1) := by decide +kernel
theorem dX5_shortestOfBreath_20 : decode cX5_shortestOfBreath 20 = .ok (.iload 6, 2) := by decide +kernel
theorem dX5_shortestOfBreath_22 : decode cX5_shortestOfBreath 22 = .ok (.invokevirtual 95, 3) := by decide +kernel
theorem dX5_shortestOfBreath_25 : decode cX5_shortestOfBreath 25 = .ok (.ifCond .eq 16, 3) := by decide +kernel
theorem dX5_shortestOfBreath_28 : decode cX5_shortestOfBreath 28 = .ok (.iload_n 3, 1) := by decide +kernel
theorem dX5_shortestOfBreath_29 : decode cX5_shortestOfBreath 29 = .ok (.iload 6, 2) := by decide +kernel
theorem dX5_shortestOfBreath_31 : decode cX5_shortestOfBreath 31 = .ok (.invokestatic 98, 3) := by decide +kernel
theorem dX5_shortestOfBreath_34 : decode cX5_shortestOfBreath 34 = .ok (.ifCond .ne 7, 3) := by decide +kernel
theorem dX5_shortestOfBreath_37 : decode cX5_shortestOfBreath 37 = .ok (.iconst 1, 1) := by decide +kernel
theorem dX5_shortestOfBreath_38 : decode cX5_shortestOfBreath 38 = .ok (.goto 4, 3) := by decide +kernel
theorem dX5_shortestOfBreath_41 : decode cX5_shortestOfBreath 41 = .ok (.iconst 0, 1) := by decide +kernel
theorem dX5_shortestOfBreath_42 : decode cX5_shortestOfBreath 42 = .ok (.istore 7, 2) := by decide +kernel
theorem dX5_shortestOfBreath_44 : decode cX5_shortestOfBreath 44 = .ok (.iload 7, 2) := by decide +kernel
theorem dX5_shortestOfBreath_46 : decode cX5_shortestOfBreath 46 = .ok (.ifCond .eq 32, 3) := by decide +kernel
theorem dX5_shortestOfBreath_49 : decode cX5_shortestOfBreath 49 = .ok (.aload_n 0, 1) := by decide +kernel
theorem dX5_shortestOfBreath_50 : decode cX5_shortestOfBreath 50 = .ok (.getfield 14, 3) := by decide +kernel
theorem dX5_shortestOfBreath_53 : decode cX5_shortestOfBreath 53 = .ok (.iload 6, 2) := by decide +kernel
theorem dX5_shortestOfBreath_55 : decode cX5_shortestOfBreath 55 = .ok (.invokevirtual 89, 3) := by decide +kernel
theorem dX5_shortestOfBreath_58 : decode cX5_shortestOfBreath 58 = .ok (.iload 5, 2) := by decide +kernel
theorem dX5_shortestOfBreath_60 : decode cX5_shortestOfBreath 60 = .ok (.if_icmp .ge 18, 3) := by decide +kernel
theorem dX5_shortestOfBreath_63 : decode cX5_shortestOfBreath 63 = .ok (.iload 6, 2) := by decide +kernel
theorem dX5_shortestOfBreath_65 : decode cX5_shortestOfBreath 65 = .ok (.istore 4, 2) := by decide +kernel
theorem dX5_shortestOfBreath_67 : decode cX5_shortestOfBreath 67 = .ok (.aload_n 0, 1) := by decide +kernel
theorem dX5_shortestOfBreath_68 : decode cX5_shortestOfBreath 68 = .ok (.getfield 14, 3) := by decide +kernel
theorem dX5_shortestOfBreath_71 : decode cX5_shortestOfBreath 71 = .ok (.iload 6, 2) := by decide +kernel
theorem dX5_shortestOfBreath_73 : decode cX5_shortestOfBreath 73 = .ok (.invokevirtual 89, 3) := by decide +kernel
theorem dX5_shortestOfBreath_76 : decode cX5_shortestOfBreath 76 = .ok (.istore 5, 2) := by decide +kernel
theorem dX5_shortestOfBreath_78 : decode cX5_shortestOfBreath 78 = .ok (.iinc 6 1, 3) := by decide +kernel
theorem dX5_shortestOfBreath_81 : decode cX5_shortestOfBreath 81 = .ok (.goto (-71), 3) := by decide +kernel
theorem dX5_shortestOfBreath_84 : decode cX5_shortestOfBreath 84 = .ok (.iload 4, 2) := by decide +kernel
theorem dX5_shortestOfBreath_86 : decode cX5_shortestOfBreath 86 = .ok (.ireturn, 1) := by decide +kernel
set_option maxRecDepth 20000 in
theorem ggX5_canBeSungWithout_X4_isPresent : GoodIn wsX5_canBeSungWithout wsX4_isPresent := goodIn_r _ [8, 9, 10, 11, 12, 19, 20, 21, 22, 23, 24, 25, 26, 27, 28, 29, 30, 31] (by decide +kernel) (by decide +kernel)
set_option maxRecDepth 20000 in
theorem gX5_canBeSungWithout_X4_isPresent : GoodIn wsX5_canBeSungWithout (wsV RX5 95 RX4 yX4_isPresent wsX4_isPresent) := goodIn_app (goodIn_of _ (by decide +kernel)) ggX5_canBeSungWithout_X4_isPresent
set_option maxRecDepth 20000 in
theorem ggX5_canBeSungWithout_X7_contains : GoodIn wsX5_canBeSungWithout wsX7_contains := goodIn_r _ [12] (by decide +kernel) (by decide +kernel)
set_option maxRecDepth 20000 in
theorem gX5_canBeSungWithout_X7_contains_n98 : GoodIn wsX5_canBeSungWithout (wsX7_contains) := ggX5_canBeSungWithout_X7_contains
set_option maxRecDepth 20000 in
theorem ggX5_canBeSungWithout_X2_at : GoodIn wsX5_canBeSungWithout wsX2_at := goodIn_r _ [17, 18, 33] (by decide +kernel) (by decide +kernel)
set_option maxRecDepth 20000 in
theorem gX5_canBeSungWithout_X2_at : GoodIn wsX5_canBeSungWithout (wsV RX5 89 RX2 yX2_at wsX2_at) := goodIn_app (goodIn_of _ (by decide +kernel)) ggX5_canBeSungWithout_X2_at
theorem dX5_canBeSungWithout_0 : decode cX5_canBeSungWithout 0 = .ok (.iconst 0, 1) := by decide +kernel
theorem dX5_canBeSungWithout_1 : decode cX5_canBeSungWithout 1 = .ok (.istore 4, 2) := by decide +kernel
theorem dX5_canBeSungWithout_3 : decode cX5_canBeSungWithout 3 = .ok (.iload 4, 2) := by decide +kernel
theorem dX5_canBeSungWithout_5 : decode cX5_canBeSungWithout 5 = .ok (.aload_n 1, 1) := by decide +kernel
theorem dX5_canBeSungWithout_6 : decode cX5_canBeSungWithout 6 = .ok (.getfield 92, 3) := by decide +kernel
theorem dX5_canBeSungWithout_9 : decode cX5_canBeSungWithout 9 = .ok (.if_icmp .ge 61, 3) := by decide +kernel
theorem dX5_canBeSungWithout_12 : decode cX5_canBeSungWithout 12 = .ok (.aload_n 1, 1) := by decide +kernel
theorem dX5_canBeSungWithout_13 : decode cX5_canBeSungWithout 13 = .ok (.iload 4, 2) := by decide +kernel
theorem dX5_canBeSungWithout_15 : decode cX5_canBeSungWithout 15 = .ok (.invokevirtual 95, 3) := by decide +kernel
theorem dX5_canBeSungWithout_18 : decode cX5_canBeSungWithout 18 = .ok (.ifCond .eq 16, 3) := by decide +kernel
theorem dX5_canBeSungWithout_21 : decode cX5_canBeSungWithout 21 = .ok (.iload_n 2, 1) := by decide +kernel
theorem dX5_canBeSungWithout_22 : decode cX5_canBeSungWithout 22 = .ok (.iload 4, 2) := by decide +kernel
theorem dX5_canBeSungWithout_24 : decode cX5_canBeSungWithout 24 = .ok (.invokestatic 98, 3) := by decide +kernel
theorem dX5_canBeSungWithout_27 : decode cX5_canBeSungWithout 27 = .ok (.ifCond .ne 7, 3) := by decide +kernel
theorem dX5_canBeSungWithout_30 : decode cX5_canBeSungWithout 30 = .ok (.iconst 1, 1) := by decide +kernel
theorem dX5_canBeSungWithout_31 : decode cX5_canBeSungWithout 31 = .ok (.goto 4, 3) := by decide +kernel
theorem dX5_canBeSungWithout_34 : decode cX5_canBeSungWithout 34 = .ok (.iconst 0, 1) := by decide +kernel
theorem dX5_canBeSungWithout_35 : decode cX5_canBeSungWithout 35 = .ok (.istore 5, 2) := by decide +kernel
theorem dX5_canBeSungWithout_37 : decode cX5_canBeSungWithout 37 = .ok (.iload 5, 2) := by decide +kernel
theorem dX5_canBeSungWithout_39 : decode cX5_canBeSungWithout 39 = .ok (.ifCond .eq 25, 3) := by decide +kernel
theorem dX5_canBeSungWithout_42 : decode cX5_canBeSungWithout 42 = .ok (.aload_n 0, 1) := by decide +kernel
theorem dX5_canBeSungWithout_43 : decode cX5_canBeSungWithout 43 = .ok (.getfield 14, 3) := by decide +kernel
theorem dX5_canBeSungWithout_46 : decode cX5_canBeSungWithout 46 = .ok (.iload 4, 2) := by decide +kernel
theorem dX5_canBeSungWithout_48 : decode cX5_canBeSungWithout 48 = .ok (.invokevirtual 89, 3) := by decide +kernel
theorem dX5_canBeSungWithout_51 : decode cX5_canBeSungWithout 51 = .ok (.aload_n 1, 1) := by decide +kernel
theorem dX5_canBeSungWithout_52 : decode cX5_canBeSungWithout 52 = .ok (.getfield 86, 3) := by decide +kernel
theorem dX5_canBeSungWithout_55 : decode cX5_canBeSungWithout 55 = .ok (.iload_n 3, 1) := by decide +kernel
theorem dX5_canBeSungWithout_56 : decode cX5_canBeSungWithout 56 = .ok (.invokevirtual 89, 3) := by decide +kernel
theorem dX5_canBeSungWithout_59 : decode cX5_canBeSungWithout 59 = .ok (.if_icmp .lt 5, 3) := by decide +kernel
theorem dX5_canBeSungWithout_62 : decode cX5_canBeSungWithout 62 = .ok (.iconst 1, 1) := by decide +kernel
theorem dX5_canBeSungWithout_63 : decode cX5_canBeSungWithout 63 = .ok (.ireturn, 1) := by decide +kernel
theorem dX5_canBeSungWithout_64 : decode cX5_canBeSungWithout 64 = .ok (.iinc 4 1, 3) := by decide +kernel
theorem dX5_canBeSungWithout_67 : decode cX5_canBeSungWithout 67 = .ok (.goto (-64), 3) := by decide +kernel
theorem dX5_canBeSungWithout_70 : decode cX5_canBeSungWithout 70 = .ok (.iconst 0, 1) := by decide +kernel
theorem dX5_canBeSungWithout_71 : decode cX5_canBeSungWithout 71 = .ok (.ireturn, 1) := by decide +kernel
set_option maxRecDepth 20000 in
theorem ggX5_goThrough_X2_at : GoodIn wsX5_goThrough wsX2_at := goodIn_r _ [14, 15, 71] (by decide +kernel) (by decide +kernel)
set_option maxRecDepth 20000 in
theorem gX5_goThrough_X2_at : GoodIn wsX5_goThrough (wsV RX5 89 RX2 yX2_at wsX2_at) := goodIn_app (goodIn_of _ (by decide +kernel)) ggX5_goThrough_X2_at
set_option maxRecDepth 20000 in
theorem ggX5_goThrough_X4_doing : GoodIn wsX5_goThrough wsX4_doing := goodIn_r _ [20, 21, 22, 23, 24, 19, 25, 26, 27, 28, 29, 30, 31, 32, 11, 12, 13, 14, 15, 33, 34, 35, 36, 37, 38, 39, 40, 41, 42, 43, 44, 45, 46, 47, 48, 49, 50, 51, 52, 57, 58, 59, 60, 61, 62, 63, 64, 65, 66, 67, 68, 69, 71] (by decide +kernel) (by decide +kernel)
set_option maxRecDepth 20000 in
theorem gX5_goThrough_X4_doing : GoodIn wsX5_goThrough (wsV RX5 102 RX4 yX4_doing wsX4_doing) := goodIn_app (goodIn_of _ (by decide +kernel)) ggX5_goThrough_X4_doing
set_option maxRecDepth 20000 in
theorem ggX5_goThrough_X2_put : GoodIn wsX5_goThrough wsX2_put := goodIn_r _ [56, 15, 71] (by decide +kernel) (by decide +kernel)
set_option maxRecDepth 20000 in
theorem gX5_goThrough_X2_put : GoodIn wsX5_goThrough (wsV RX5 51 RX2 yX2_put wsX2_put) := goodIn_app (goodIn_of _ (by decide +kernel)) ggX5_goThrough_X2_put
theorem dX5_goThrough_0 : decode cX5_goThrough 0 = .ok (.iconst 0, 1) := by decide +kernel
theorem dX5_goThrough_1 : decode cX5_goThrough 1 = .ok (.istore_n 3, 1) := by decide +kernel
theorem dX5_goThrough_2 : decode cX5_goThrough 2 = .ok (.iload_n 3, 1) := by decide +kernel
theorem dX5_goThrough_3 : decode cX5_goThrough 3 = .ok (.aload_n 1, 1) := by decide +kernel
theorem dX5_goThrough_4 : decode cX5_goThrough 4 = .ok (.getfield 92, 3) := by decide +kernel
theorem dX5_goThrough_7 : decode cX5_goThrough 7 = .ok (.if_icmp .ge 86, 3) := by decide +kernel
theorem dX5_goThrough_10 : decode cX5_goThrough 10 = .ok (.aload_n 0, 1) := by decide +kernel
theorem dX5_goThrough_11 : decode cX5_goThrough 11 = .ok (.getfield 14, 3) := by decide +kernel
theorem dX5_goThrough_14 : decode cX5_goThrough 14 = .ok (.iload_n 3, 1) := by decide +kernel
theorem dX5_goThrough_15 : decode cX5_goThrough 15 = .ok (.invokevirtual 89, 3) := by decide +kernel
theorem dX5_goThrough_18 : decode cX5_goThrough 18 = .ok (.istore 4, 2) := by decide +kernel
theorem dX5_goThrough_20 : decode cX5_goThrough 20 = .ok (.aload_n 1, 1) := by decide +kernel
theorem dX5_goThrough_21 : decode cX5_goThrough 21 = .ok (.iload_n 3, 1) := by decide +kernel
theorem dX5_goThrough_22 : decode cX5_goThrough 22 = .ok (.iload_n 2, 1) := by decide +kernel
theorem dX5_goThrough_23 : decode cX5_goThrough 23 = .ok (.iload 4, 2) := by decide +kernel
theorem dX5_goThrough_25 : decode cX5_goThrough 25 = .ok (.invokevirtual 102, 3) := by decide +kernel
theorem dX5_goThrough_28 : decode cX5_goThrough 28 = .ok (.ifCond .ne 25, 3) := by decide +kernel
theorem dX5_goThrough_31 : decode cX5_goThrough 31 = .ok (.aload_n 0, 1) := by decide +kernel
theorem dX5_goThrough_32 : decode cX5_goThrough 32 = .ok (.getfield 14, 3) := by decide +kernel
theorem dX5_goThrough_35 : decode cX5_goThrough 35 = .ok (.iload_n 3, 1) := by decide +kernel
theorem dX5_goThrough_36 : decode cX5_goThrough 36 = .ok (.iload 4, 2) := by decide +kernel
theorem dX5_goThrough_38 : decode cX5_goThrough 38 = .ok (.aload_n 1, 1) := by decide +kernel
theorem dX5_goThrough_39 : decode cX5_goThrough 39 = .ok (.getfield 86, 3) := by decide +kernel
theorem dX5_goThrough_42 : decode cX5_goThrough 42 = .ok (.iload_n 2, 1) := by decide +kernel
theorem dX5_goThrough_43 : decode cX5_goThrough 43 = .ok (.invokevirtual 89, 3) := by decide +kernel
theorem dX5_goThrough_46 : decode cX5_goThrough 46 = .ok (.isub, 1) := by decide +kernel
theorem dX5_goThrough_47 : decode cX5_goThrough 47 = .ok (.invokevirtual 51, 3) := by decide +kernel
theorem dX5_goThrough_50 : decode cX5_goThrough 50 = .ok (.goto 37, 3) := by decide +kernel
theorem dX5_goThrough_53 : decode cX5_goThrough 53 = .ok (.iload 4, 2) := by decide +kernel
theorem dX5_goThrough_55 : decode cX5_goThrough 55 = .ok (.aload_n 1, 1) := by decide +kernel
theorem dX5_goThrough_56 : decode cX5_goThrough 56 = .ok (.getfield 106, 3) := by decide +kernel
theorem dX5_goThrough_59 : decode cX5_goThrough 59 = .ok (.iload_n 3, 1) := by decide +kernel
theorem dX5_goThrough_60 : decode cX5_goThrough 60 = .ok (.invokevirtual 89, 3) := by decide +kernel
theorem dX5_goThrough_63 : decode cX5_goThrough 63 = .ok (.iadd, 1) := by decide +kernel
theorem dX5_goThrough_64 : decode cX5_goThrough 64 = .ok (.istore 5, 2) := by decide +kernel
theorem dX5_goThrough_66 : decode cX5_goThrough 66 = .ok (.aload_n 0, 1) := by decide +kernel
theorem dX5_goThrough_67 : decode cX5_goThrough 67 = .ok (.getfield 14, 3) := by decide +kernel
theorem dX5_goThrough_70 : decode cX5_goThrough 70 = .ok (.iload_n 3, 1) := by decide +kernel
theorem dX5_goThrough_71 : decode cX5_goThrough 71 = .ok (.aload_n 1, 1) := by decide +kernel
theorem dX5_goThrough_72 : decode cX5_goThrough 72 = .ok (.getfield 28, 3) := by decide +kernel
theorem dX5_goThrough_75 : decode cX5_goThrough 75 = .ok (.iload_n 3, 1) := by decide +kernel
theorem dX5_goThrough_76 : decode cX5_goThrough 76 = .ok (.invokevirtual 89, 3) := by decide +kernel
theorem dX5_goThrough_79 : decode cX5_goThrough 79 = .ok (.iload 5, 2) := by decide +kernel
theorem dX5_goThrough_81 : decode cX5_goThrough 81 = .ok (.invokestatic 109, 3) := by decide +kernel
theorem dX5_goThrough_84 : decode cX5_goThrough 84 = .ok (.invokevirtual 51, 3) := by decide +kernel
theorem dX5_goThrough_87 : decode cX5_goThrough 87 = .ok (.iinc 3 1, 3) := by decide +kernel
theorem dX5_goThrough_90 : decode cX5_goThrough 90 = .ok (.goto (-88), 3) := by decide +kernel
theorem dX5_goThrough_93 : decode cX5_goThrough 93 = .ok (.return_, 1) := by decide +kernel
set_option maxRecDepth 20000 in
theorem ggX6_init_X2_init : GoodIn wsX6_init wsX2_init := goodIn_r _ [11, 12, 2, 3, 13, 14, 15, 16, 17, 18, 19] (by decide +kernel) (by decide +kernel)
set_option maxRecDepth 20000 in
theorem gX6_init_X2_init : GoodIn wsX6_init (wsX2_init) := ggX6_init_X2_init
theorem dX6_init_0 : decode cX6_init 0 = .ok (.aload_n 0, 1) := by decide +kernel
theorem dX6_init_1 : decode cX6_init 1 = .ok (.invokespecial 3, 3) := by decide +kernel
theorem dX6_init_4 : decode cX6_init 4 = .ok (.aload_n 0, 1) := by decide +kernel
theorem dX6_init_5 : decode cX6_init 5 = .ok (.new 9, 3) := by decide +kernel
theorem dX6_init_8 : decode cX6_init 8 = .ok (.dup, 1) := by decide +kernel
theorem dX6_init_9 : decode cX6_init 9 = .ok (.bipush 96, 2) := by decide +kernel
theorem dX6_init_11 : decode cX6_init 11 = .ok (.invokespecial 11, 3) := by decide +kernel
theorem dX6_init_14 : decode cX6_init 14 = .ok (.putfield 14, 3) := by decide +kernel
theorem dX6_init_17 : decode cX6_init 17 = .ok (.aload_n 0, 1) := by decide +kernel
theorem dX6_init_18 : decode cX6_init 18 = .ok (.new 9, 3) := by decide +kernel
theorem dX6_init_21 : decode cX6_init 21 = .ok (.dup, 1) := by decide +kernel
theorem dX6_init_22 : decode cX6_init 22 = .ok (.bipush 96, 2) := by decide +kernel
theorem dX6_init_24 : decode cX6_init 24 = .ok (.invokespecial 11, 3) := by decide +kernel
theorem dX6_init_27 : decode cX6_init 27 = .ok (.putfield 20, 3) := by decide +kernel
theorem dX6_init_30 : decode cX6_init 30 = .ok (.return_, 1) := by decide +kernel
set_option maxRecDepth 20000 in
theorem ggX6_follow_X2_at : GoodIn wsX6_follow wsX2_at := goodIn_r _ [16, 17, 76] (by decide +kernel) (by decide +kernel)
set_option maxRecDepth 20000 in
theorem gX6_follow_X2_at : GoodIn wsX6_follow (wsV RX6 36 RX2 yX2_at wsX2_at) := goodIn_app (goodIn_of _ (by decide +kernel)) ggX6_follow_X2_at
set_option maxRecDepth 20000 in
theorem ggX6_follow_X4_doing : GoodIn wsX6_follow wsX4_doing := goodIn_r _ [22, 23, 24, 25, 26, 21, 27, 28, 29, 30, 31, 32, 33, 34, 13, 14, 15, 16, 17, 35, 36, 37, 38, 39, 40, 41, 42, 43, 44, 45, 46, 47, 48, 49, 50, 51, 52, 53, 54, 59, 60, 61, 62, 63, 64, 65, 66, 67, 68, 69, 70, 71, 76] (by decide +kernel) (by decide +kernel)
set_option maxRecDepth 20000 in
theorem gX6_follow_X4_doing : GoodIn wsX6_follow (wsV RX6 40 RX4 yX4_doing wsX4_doing) := goodIn_app (goodIn_of _ (by decide +kernel)) ggX6_follow_X4_doing
set_option maxRecDepth 20000 in
theorem ggX6_follow_X2_put : GoodIn wsX6_follow wsX2_put := goodIn_r _ [58, 17, 76] (by decide +kernel) (by decide +kernel)
set_option maxRecDepth 20000 in
theorem gX6_follow_X2_put : GoodIn wsX6_follow (wsV RX6 53 RX2 yX2_put wsX2_put) := goodIn_app (goodIn_of _ (by decide +kernel)) ggX6_follow_X2_put
theorem dX6_follow_0 : decode cX6_follow 0 = .ok (.aload_n 0, 1) := by decide +kernel
theorem dX6_follow_1 : decode cX6_follow 1 = .ok (.aload_n 1, 1) := by decide +kernel
theorem dX6_follow_2 : decode cX6_follow 2 = .ok (.getfield 23, 3) := by decide +kernel
theorem dX6_follow_5 : decode cX6_follow 5 = .ok (.putfield 29, 3) := by decide +kernel
theorem dX6_follow_8 : decode cX6_follow 8 = .ok (.aload_n 0, 1) := by decide +kernel
theorem dX6_follow_9 : decode cX6_follow 9 = .ok (.iload_n 3, 1) := by decide +kernel
theorem dX6_follow_10 : decode cX6_follow 10 = .ok (.putfield 30, 3) := by decide +kernel
theorem dX6_follow_13 : decode cX6_follow 13 = .ok (.aload_n 1, 1) := by decide +kernel
theorem dX6_follow_14 : decode cX6_follow 14 = .ok (.getfield 33, 3) := by decide +kernel
theorem dX6_follow_17 : decode cX6_follow 17 = .ok (.iload_n 2, 1) := by decide +kernel
theorem dX6_follow_18 : decode cX6_follow 18 = .ok (.invokevirtual 36, 3) := by decide +kernel
theorem dX6_follow_21 : decode cX6_follow 21 = .ok (.istore 4, 2) := by decide +kernel
theorem dX6_follow_23 : decode cX6_follow 23 = .ok (.iload_n 3, 1) := by decide +kernel
theorem dX6_follow_24 : decode cX6_follow 24 = .ok (.istore 5, 2) := by decide +kernel
theorem dX6_follow_26 : decode cX6_follow 26 = .ok (.iconst 0, 1) := by decide +kernel
theorem dX6_follow_27 : decode cX6_follow 27 = .ok (.istore 6, 2) := by decide +kernel
theorem dX6_follow_29 : decode cX6_follow 29 = .ok (.iload 6, 2) := by decide +kernel
theorem dX6_follow_31 : decode cX6_follow 31 = .ok (.aload_n 0, 1) := by decide +kernel
theorem dX6_follow_32 : decode cX6_follow 32 = .ok (.getfield 29, 3) := by decide +kernel
theorem dX6_follow_35 : decode cX6_follow 35 = .ok (.if_icmp .ge 75, 3) := by decide +kernel
theorem dX6_follow_38 : decode cX6_follow 38 = .ok (.aload_n 1, 1) := by decide +kernel
theorem dX6_follow_39 : decode cX6_follow 39 = .ok (.iload_n 2, 1) := by decide +kernel
theorem dX6_follow_40 : decode cX6_follow 40 = .ok (.iload 6, 2) := by decide +kernel
theorem dX6_follow_42 : decode cX6_follow 42 = .ok (.iload 5, 2) := by decide +kernel
theorem dX6_follow_44 : decode cX6_follow 44 = .ok (.invokevirtual 40, 3) := by decide +kernel
theorem dX6_follow_47 : decode cX6_follow 47 = .ok (.istore 7, 2) := by decide +kernel
theorem dX6_follow_49 : decode cX6_follow 49 = .ok (.iload 7, 2) := by decide +kernel
theorem dX6_follow_51 : decode cX6_follow 51 = .ok (.ifCond .ne 20, 3) := by decide +kernel
theorem dX6_follow_54 : decode cX6_follow 54 = .ok (.iload 5, 2) := by decide +kernel
theorem dX6_follow_56 : decode cX6_follow 56 = .ok (.aload_n 1, 1) := by decide +kernel
theorem dX6_follow_57 : decode cX6_follow 57 = .ok (.getfield 44, 3) := by decide +kernel
theorem dX6_follow_60 : decode cX6_follow 60 = .ok (.iload 6, 2) := by decide +kernel
theorem dX6_follow_62 : decode cX6_follow 62 = .ok (.invokevirtual 36, 3) := by decide +kernel
theorem dX6_follow_65 : decode cX6_follow 65 = .ok (.isub, 1) := by decide +kernel
theorem dX6_follow_66 : decode cX6_follow 66 = .ok (.istore 5, 2) := by decide +kernel
theorem dX6_follow_68 : decode cX6_follow 68 = .ok (.goto 14, 3) := by decide +kernel
theorem dX6_follow_71 : decode cX6_follow 71 = .ok (.iload_n 3, 1) := by decide +kernel
theorem dX6_follow_72 : decode cX6_follow 72 = .ok (.iload 5, 2) := by decide +kernel
theorem dX6_follow_74 : decode cX6_follow 74 = .ok (.iload 4, 2) := by decide +kernel
theorem dX6_follow_76 : decode cX6_follow 76 = .ok (.iadd, 1) := by decide +kernel
theorem dX6_follow_77 : decode cX6_follow 77 = .ok (.invokestatic 47, 3) := by decide +kernel
theorem dX6_follow_80 : decode cX6_follow 80 = .ok (.istore 5, 2) := by decide +kernel
theorem dX6_follow_82 : decode cX6_follow 82 = .ok (.aload_n 0, 1) := by decide +kernel
theorem dX6_follow_83 : decode cX6_follow 83 = .ok (.getfield 14, 3) := by decide +kernel
theorem dX6_follow_86 : decode cX6_follow 86 = .ok (.iload 6, 2) := by decide +kernel
theorem dX6_follow_88 : decode cX6_follow 88 = .ok (.iload 7, 2) := by decide +kernel
theorem dX6_follow_90 : decode cX6_follow 90 = .ok (.invokevirtual 53, 3) := by decide +kernel
theorem dX6_follow_93 : decode cX6_follow 93 = .ok (.aload_n 0, 1) := by decide +kernel
theorem dX6_follow_94 : decode cX6_follow 94 = .ok (.getfield 20, 3) := by decide +kernel
theorem dX6_follow_97 : decode cX6_follow 97 = .ok (.iload 6, 2) := by decide +kernel
theorem dX6_follow_99 : decode cX6_follow 99 = .ok (.iload 5, 2) := by decide +kernel
theorem dX6_follow_101 : decode cX6_follow 101 = .ok (.invokevirtual 53, 3) := by decide +kernel
theorem dX6_follow_104 : decode cX6_follow 104 = .ok (.iinc 6 1, 3) := by decide +kernel
theorem dX6_follow_107 : decode cX6_follow 107 = .ok (.goto (-78), 3) := by decide +kernel
theorem dX6_follow_110 : decode cX6_follow 110 = .ok (.return_, 1) := by decide +kernel
set_option maxRecDepth 20000 in
theorem ggX6_countDoing_X2_at : GoodIn wsX6_countDoing wsX2_at := goodIn_r _ [7, 8, 13] (by decide +kernel) (by decide +kernel)
set_option maxRecDepth 20000 in
theorem gX6_countDoing_X2_at : GoodIn wsX6_countDoing (wsV RX6 36 RX2 yX2_at wsX2_at) := goodIn_app (goodIn_of _ (by decide +kernel)) ggX6_countDoing_X2_at
theorem dX6_countDoing_0 : decode cX6_countDoing 0 = .ok (.iconst 0, 1) := by decide +kernel
theorem dX6_countDoing_1 : decode cX6_countDoing 1 = .ok (.istore_n 2, 1) := by decide +kernel
theorem dX6_countDoing_2 : decode cX6_countDoing 2 = .ok (.iconst 0, 1) := by decide +kernel
theorem dX6_countDoing_3 : decode cX6_countDoing 3 = .ok (.istore_n 3, 1) := by decide +kernel
theorem dX6_countDoing_4 : decode cX6_countDoing 4 = .ok (.iload_n 3, 1) := by decide +kernel
theorem dX6_countDoing_5 : decode cX6_countDoing 5 = .ok (.aload_n 0, 1) := by decide +kernel
theorem dX6_countDoing_6 : decode cX6_countDoing 6 = .ok (.getfield 29, 3) := by decide +kernel
theorem dX6_countDoing_9 : decode cX6_countDoing 9 = .ok (.if_icmp .ge 24, 3) := by decide +kernel
theorem dX6_countDoing_12 : decode cX6_countDoing 12 = .ok (.aload_n 0, 1) := by decide +kernel
theorem dX6_countDoing_13 : decode cX6_countDoing 13 = .ok (.getfield 14, 3) := by decide +kernel
theorem dX6_countDoing_16 : decode cX6_countDoing 16 = .ok (.iload_n 3, 1) := by decide +kernel
theorem dX6_countDoing_17 : decode cX6_countDoing 17 = .ok (.invokevirtual 36, 3) := by decide +kernel
theorem dX6_countDoing_20 : decode cX6_countDoing 20 = .ok (.iload_n 1, 1) := by decide +kernel
theorem dX6_countDoing_21 : decode cX6_countDoing 21 = .ok (.if_icmp .ne 6, 3) := by decide +kernel
theorem dX6_countDoing_24 : decode cX6_countDoing 24 = .ok (.iinc 2 1, 3) := by decide +kernel
theorem dX6_countDoing_27 : decode cX6_countDoing 27 = .ok (.iinc 3 1, 3) := by decide +kernel
theorem dX6_countDoing_30 : decode cX6_countDoing 30 = .ok (.goto (-26), 3) := by decide +kernel
theorem dX6_countDoing_33 : decode cX6_countDoing 33 = .ok (.iload_n 2, 1) := by decide +kernel
theorem dX6_countDoing_34 : decode cX6_countDoing 34 = .ok (.ireturn, 1) := by decide +kernel
set_option maxRecDepth 20000 in
theorem ggX6_leastLeft_X2_at : GoodIn wsX6_leastLeft wsX2_at := goodIn_r _ [12, 13, 18] (by decide +kernel) (by decide +kernel)
set_option maxRecDepth 20000 in
theorem gX6_leastLeft_X2_at : GoodIn wsX6_leastLeft (wsV RX6 36 RX2 yX2_at wsX2_at) := goodIn_app (goodIn_of _ (by decide +kernel)) ggX6_leastLeft_X2_at
theorem dX6_leastLeft_0 : decode cX6_leastLeft 0 = .ok (.aload_n 0, 1) := by decide +kernel
theorem dX6_leastLeft_1 : decode cX6_leastLeft 1 = .ok (.getfield 30, 3) := by decide +kernel
theorem dX6_leastLeft_4 : decode cX6_leastLeft 4 = .ok (.istore_n 1, 1) := by decide +kernel
theorem dX6_leastLeft_5 : decode cX6_leastLeft 5 = .ok (.iconst 0, 1) := by decide +kernel
theorem dX6_leastLeft_6 : decode cX6_leastLeft 6 = .ok (.istore_n 2, 1) := by decide +kernel
theorem dX6_leastLeft_7 : decode cX6_leastLeft 7 = .ok (.iload_n 2, 1) := by decide +kernel
theorem dX6_leastLeft_8 : decode cX6_leastLeft 8 = .ok (.aload_n 0, 1) := by decide +kernel
theorem dX6_leastLeft_9 : decode cX6_leastLeft 9 = .ok (.getfield 29, 3) := by decide +kernel
theorem dX6_leastLeft_12 : decode cX6_leastLeft 12 = .ok (.if_icmp .ge 22, 3) := by decide +kernel
theorem dX6_leastLeft_15 : decode cX6_leastLeft 15 = .ok (.iload_n 1, 1) := by decide +kernel
theorem dX6_leastLeft_16 : decode cX6_leastLeft 16 = .ok (.aload_n 0, 1) := by decide +kernel
theorem dX6_leastLeft_17 : decode cX6_leastLeft 17 = .ok (.getfield 20, 3) := by decide +kernel
theorem dX6_leastLeft_20 : decode cX6_leastLeft 20 = .ok (.iload_n 2, 1) := by decide +kernel
theorem dX6_leastLeft_21 : decode cX6_leastLeft 21 = .ok (.invokevirtual 36, 3) := by decide +kernel
theorem dX6_leastLeft_24 : decode cX6_leastLeft 24 = .ok (.invokestatic 47, 3) := by decide +kernel
theorem dX6_leastLeft_27 : decode cX6_leastLeft 27 = .ok (.istore_n 1, 1) := by decide +kernel
theorem dX6_leastLeft_28 : decode cX6_leastLeft 28 = .ok (.iinc 2 1, 3) := by decide +kernel
theorem dX6_leastLeft_31 : decode cX6_leastLeft 31 = .ok (.goto (-24), 3) := by decide +kernel
theorem dX6_leastLeft_34 : decode cX6_leastLeft 34 = .ok (.iload_n 1, 1) := by decide +kernel
theorem dX6_leastLeft_35 : decode cX6_leastLeft 35 = .ok (.ireturn, 1) := by decide +kernel
set_option maxRecDepth 20000 in
theorem ggX6_longestSung_X2_at : GoodIn wsX6_longestSung wsX2_at := goodIn_r _ [11, 12, 17] (by decide +kernel) (by decide +kernel)
set_option maxRecDepth 20000 in
theorem gX6_longestSung_X2_at : GoodIn wsX6_longestSung (wsV RX6 36 RX2 yX2_at wsX2_at) := goodIn_app (goodIn_of _ (by decide +kernel)) ggX6_longestSung_X2_at
theorem dX6_longestSung_0 : decode cX6_longestSung 0 = .ok (.iconst 0, 1) := by decide +kernel
theorem dX6_longestSung_1 : decode cX6_longestSung 1 = .ok (.istore_n 1, 1) := by decide +kernel
theorem dX6_longestSung_2 : decode cX6_longestSung 2 = .ok (.iconst 0, 1) := by decide +kernel
theorem dX6_longestSung_3 : decode cX6_longestSung 3 = .ok (.istore_n 2, 1) := by decide +kernel
theorem dX6_longestSung_4 : decode cX6_longestSung 4 = .ok (.iconst 0, 1) := by decide +kernel
theorem dX6_longestSung_5 : decode cX6_longestSung 5 = .ok (.istore_n 3, 1) := by decide +kernel
theorem dX6_longestSung_6 : decode cX6_longestSung 6 = .ok (.iload_n 3, 1) := by decide +kernel
theorem dX6_longestSung_7 : decode cX6_longestSung 7 = .ok (.aload_n 0, 1) := by decide +kernel
theorem dX6_longestSung_8 : decode cX6_longestSung 8 = .ok (.getfield 29, 3) := by decide +kernel
theorem dX6_longestSung_11 : decode cX6_longestSung 11 = .ok (.if_icmp .ge 34, 3) := by decide +kernel
theorem dX6_longestSung_14 : decode cX6_longestSung 14 = .ok (.aload_n 0, 1) := by decide +kernel
theorem dX6_longestSung_15 : decode cX6_longestSung 15 = .ok (.getfield 14, 3) := by decide +kernel
theorem dX6_longestSung_18 : decode cX6_longestSung 18 = .ok (.iload_n 3, 1) := by decide +kernel
theorem dX6_longestSung_19 : decode cX6_longestSung 19 = .ok (.invokevirtual 36, 3) := by decide +kernel
theorem dX6_longestSung_22 : decode cX6_longestSung 22 = .ok (.ifCond .ne 9, 3) := by decide +kernel
theorem dX6_longestSung_25 : decode cX6_longestSung 25 = .ok (.iload_n 2, 1) := by decide +kernel
theorem dX6_longestSung_26 : decode cX6_longestSung 26 = .ok (.iconst 1, 1) := by decide +kernel
theorem dX6_longestSung_27 : decode cX6_longestSung 27 = .ok (.iadd, 1) := by decide +kernel
theorem dX6_longestSung_28 : decode cX6_longestSung 28 = .ok (.goto 4, 3) := by decide +kernel
theorem dX6_longestSung_31 : decode cX6_longestSung 31 = .ok (.iconst 0, 1) := by decide +kernel
theorem dX6_longestSung_32 : decode cX6_longestSung 32 = .ok (.istore_n 2, 1) := by decide +kernel
theorem dX6_longestSung_33 : decode cX6_longestSung 33 = .ok (.iload_n 1, 1) := by decide +kernel
theorem dX6_longestSung_34 : decode cX6_longestSung 34 = .ok (.iload_n 2, 1) := by decide +kernel
theorem dX6_longestSung_35 : decode cX6_longestSung 35 = .ok (.invokestatic 57, 3) := by decide +kernel
theorem dX6_longestSung_38 : decode cX6_longestSung 38 = .ok (.istore_n 1, 1) := by decide +kernel
theorem dX6_longestSung_39 : decode cX6_longestSung 39 = .ok (.iinc 3 1, 3) := by decide +kernel
theorem dX6_longestSung_42 : decode cX6_longestSung 42 = .ok (.goto (-36), 3) := by decide +kernel
theorem dX6_longestSung_45 : decode cX6_longestSung 45 = .ok (.iload_n 1, 1) := by decide +kernel
theorem dX6_longestSung_46 : decode cX6_longestSung 46 = .ok (.ireturn, 1) := by decide +kernel
set_option maxRecDepth 20000 in
theorem ggX7_init_X4_init : GoodIn wsX7_init wsX4_init := goodIn_r _ [31, 32, 2, 3, 33, 34, 35, 36, 37, 38, 39, 40, 41, 42, 43, 44, 45, 46, 47, 48, 49, 50, 51, 52, 53, 54, 123, 87, 88, 89, 90, 91, 92, 93, 94, 95, 96, 97, 98, 99] (by decide +kernel) (by decide +kernel)
set_option maxRecDepth 20000 in
theorem gX7_init_X4_init : GoodIn wsX7_init (wsX4_init) := ggX7_init_X4_init
set_option maxRecDepth 20000 in
theorem ggX7_init_X3_init : GoodIn wsX7_init wsX3_init := goodIn_r _ [56, 57, 2, 3, 58, 34, 35, 59, 60, 46, 47, 48, 49, 50, 51, 52, 53, 54, 123, 107, 108, 109, 110, 111, 112] (by decide +kernel) (by decide +kernel)
set_option maxRecDepth 20000 in
theorem gX7_init_X3_init_n18 : GoodIn wsX7_init (wsX3_init) := ggX7_init_X3_init
set_option maxRecDepth 20000 in
theorem ggX7_init_X1_init : GoodIn wsX7_init wsX1_init := goodIn_r _ [62, 63, 2, 3, 64, 65, 113, 114] (by decide +kernel) (by decide +kernel)
set_option maxRecDepth 20000 in
theorem gX7_init_X1_init_n25 : GoodIn wsX7_init (wsX1_init) := ggX7_init_X1_init
set_option maxRecDepth 20000 in
theorem ggX7_init_X6_init : GoodIn wsX7_init wsX6_init := goodIn_r _ [67, 68, 2, 3, 69, 34, 35, 70, 71, 72, 46, 47, 48, 49, 50, 51, 52, 53, 54, 123, 115, 116, 117, 118] (by decide +kernel) (by decide +kernel)
set_option maxRecDepth 20000 in
theorem gX7_init_X6_init_n36 : GoodIn wsX7_init (wsX6_init) := ggX7_init_X6_init
set_option maxRecDepth 20000 in
theorem ggX7_init_X0_init : GoodIn wsX7_init wsX0_init := goodIn_r _ [74, 75, 2, 3, 76, 34, 35, 77, 78, 79, 80, 46, 47, 48, 49, 50, 51, 52, 53, 54, 123, 119, 120, 121] (by decide +kernel) (by decide +kernel)
set_option maxRecDepth 20000 in
theorem gX7_init_X0_init_n43 : GoodIn wsX7_init (wsX0_init) := ggX7_init_X0_init
set_option maxRecDepth 20000 in
theorem ggX7_init_X5_init : GoodIn wsX7_init wsX5_init := goodIn_r _ [82, 83, 2, 3, 84, 34, 35, 85, 86, 46, 47, 48, 49, 50, 51, 52, 53, 54, 123, 122] (by decide +kernel) (by decide +kernel)
set_option maxRecDepth 20000 in
theorem gX7_init_X5_init_n50 : GoodIn wsX7_init (wsX5_init) := ggX7_init_X5_init
theorem dX7_init_0 : decode cX7_init 0 = .ok (.aload_n 0, 1) := by decide +kernel
theorem dX7_init_1 : decode cX7_init 1 = .ok (.invokespecial 1, 3) := by decide +kernel
theorem dX7_init_4 : decode cX7_init 4 = .ok (.aload_n 0, 1) := by decide +kernel
theorem dX7_init_5 : decode cX7_init 5 = .ok (.new 7, 3) := by decide +kernel
theorem dX7_init_8 : decode cX7_init 8 = .ok (.dup, 1) := by decide +kernel
theorem dX7_init_9 : decode cX7_init 9 = .ok (.invokespecial 9, 3) := by decide +kernel
theorem dX7_init_12 : decode cX7_init 12 = .ok (.putfield 10, 3) := by decide +kernel
theorem dX7_init_15 : decode cX7_init 15 = .ok (.aload_n 0, 1) := by decide +kernel
theorem dX7_init_16 : decode cX7_init 16 = .ok (.new 16, 3) := by decide +kernel
theorem dX7_init_19 : decode cX7_init 19 = .ok (.dup, 1) := by decide +kernel
theorem dX7_init_20 : decode cX7_init 20 = .ok (.invokespecial 18, 3) := by decide +kernel
theorem dX7_init_23 : decode cX7_init 23 = .ok (.putfield 19, 3) := by decide +kernel
theorem dX7_init_26 : decode cX7_init 26 = .ok (.aload_n 0, 1) := by decide +kernel
theorem dX7_init_27 : decode cX7_init 27 = .ok (.new 23, 3) := by decide +kernel
theorem dX7_init_30 : decode cX7_init 30 = .ok (.dup, 1) := by decide +kernel
theorem dX7_init_31 : decode cX7_init 31 = .ok (.invokespecial 25, 3) := by decide +kernel
theorem dX7_init_34 : decode cX7_init 34 = .ok (.putfield 26, 3) := by decide +kernel
theorem dX7_init_37 : decode cX7_init 37 = .ok (.aload_n 0, 1) := by decide +kernel
theorem dX7_init_38 : decode cX7_init 38 = .ok (.iconst 2, 1) := by decide +kernel
theorem dX7_init_39 : decode cX7_init 39 = .ok (.anewarray 7, 3) := by decide +kernel
theorem dX7_init_42 : decode cX7_init 42 = .ok (.putfield 30, 3) := by decide +kernel
theorem dX7_init_45 : decode cX7_init 45 = .ok (.aload_n 0, 1) := by decide +kernel
theorem dX7_init_46 : decode cX7_init 46 = .ok (.new 34, 3) := by decide +kernel
theorem dX7_init_49 : decode cX7_init 49 = .ok (.dup, 1) := by decide +kernel
theorem dX7_init_50 : decode cX7_init 50 = .ok (.invokespecial 36, 3) := by decide +kernel
theorem dX7_init_53 : decode cX7_init 53 = .ok (.putfield 37, 3) := by decide +kernel
theorem dX7_init_56 : decode cX7_init 56 = .ok (.aload_n 0, 1) := by decide +kernel
theorem dX7_init_57 : decode cX7_init 57 = .ok (.new 41, 3) := by decide +kernel
theorem dX7_init_60 : decode cX7_init 60 = .ok (.dup, 1) := by decide +kernel
theorem dX7_init_61 : decode cX7_init 61 = .ok (.invokespecial 43, 3) := by decide +kernel
theorem dX7_init_64 : decode cX7_init 64 = .ok (.putfield 44, 3) := by decide +kernel
theorem dX7_init_67 : decode cX7_init 67 = .ok (.aload_n 0, 1) := by decide +kernel
theorem dX7_init_68 : decode cX7_init 68 = .ok (.new 48, 3) := by decide +kernel
theorem dX7_init_71 : decode cX7_init 71 = .ok (.dup, 1) := by decide +kernel
theorem dX7_init_72 : decode cX7_init 72 = .ok (.invokespecial 50, 3) := by decide +kernel
theorem dX7_init_75 : decode cX7_init 75 = .ok (.putfield 51, 3) := by decide +kernel
theorem dX7_init_78 : decode cX7_init 78 = .ok (.return_, 1) := by decide +kernel
set_option maxRecDepth 20000 in
theorem ggX7_type_X3_append : GoodIn wsX7_type wsX3_append := goodIn_r _ [7, 8, 9, 10, 11, 12, 13, 14, 15, 23, 24, 25, 26, 27, 28, 29] (by decide +kernel) (by decide +kernel)
set_option maxRecDepth 20000 in
theorem gX7_type_X3_append : GoodIn wsX7_type (wsV RX7 55 RX3 yX3_append wsX3_append) := goodIn_app (goodIn_of _ (by decide +kernel)) ggX7_type_X3_append
theorem dX7_type_0 : decode cX7_type 0 = .ok (.aload_n 0, 1) := by decide +kernel
theorem dX7_type_1 : decode cX7_type 1 = .ok (.getfield 19, 3) := by decide +kernel
theorem dX7_type_4 : decode cX7_type 4 = .ok (.iload_n 1, 1) := by decide +kernel
theorem dX7_type_5 : decode cX7_type 5 = .ok (.invokevirtual 55, 3) := by decide +kernel
theorem dX7_type_8 : decode cX7_type 8 = .ok (.ifCond .eq 13, 3) := by decide +kernel
theorem dX7_type_11 : decode cX7_type 11 = .ok (.aload_n 0, 1) := by decide +kernel
theorem dX7_type_12 : decode cX7_type 12 = .ok (.getfield 19, 3) := by decide +kernel
theorem dX7_type_15 : decode cX7_type 15 = .ok (.getfield 59, 3) := by decide +kernel
theorem dX7_type_18 : decode cX7_type 18 = .ok (.goto 5, 3) := by decide +kernel
theorem dX7_type_21 : decode cX7_type 21 = .ok (.bipush (-3), 2) := by decide +kernel
theorem dX7_type_23 : decode cX7_type 23 = .ok (.ireturn, 1) := by decide +kernel
theorem dX7_clearText_0 : decode cX7_clearText 0 = .ok (.aload_n 0, 1) := by decide +kernel
theorem dX7_clearText_1 : decode cX7_clearText 1 = .ok (.getfield 19, 3) := by decide +kernel
theorem dX7_clearText_4 : decode cX7_clearText 4 = .ok (.getfield 59, 3) := by decide +kernel
theorem dX7_clearText_7 : decode cX7_clearText 7 = .ok (.istore_n 1, 1) := by decide +kernel
theorem dX7_clearText_8 : decode cX7_clearText 8 = .ok (.aload_n 0, 1) := by decide +kernel
theorem dX7_clearText_9 : decode cX7_clearText 9 = .ok (.getfield 19, 3) := by decide +kernel
theorem dX7_clearText_12 : decode cX7_clearText 12 = .ok (.iconst 0, 1) := by decide +kernel
theorem dX7_clearText_13 : decode cX7_clearText 13 = .ok (.putfield 59, 3) := by decide +kernel
theorem dX7_clearText_16 : decode cX7_clearText 16 = .ok (.iload_n 1, 1) := by decide +kernel
theorem dX7_clearText_17 : decode cX7_clearText 17 = .ok (.ireturn, 1) := by decide +kernel
set_option maxRecDepth 20000 in
theorem ggX7_read_X3_findFault : GoodIn wsX7_read wsX3_findFault := goodIn_r _ [9, 10, 11, 12, 13, 14, 15, 8, 16, 17, 18, 19, 20, 21, 22, 23, 24, 25, 26, 27, 28, 29, 30, 31, 32, 33, 34, 35, 36, 37, 38, 39, 40, 41, 42, 43, 137, 138, 139, 140, 141, 142, 143] (by decide +kernel) (by decide +kernel)
set_option maxRecDepth 20000 in
theorem gX7_read_X3_findFault : GoodIn wsX7_read (wsV RX7 63 RX3 yX3_findFault wsX3_findFault) := goodIn_app (goodIn_of _ (by decide +kernel)) ggX7_read_X3_findFault
set_option maxRecDepth 20000 in
theorem ggX7_read_X1_record : GoodIn wsX7_read wsX1_record := goodIn_r _ [48, 49, 50, 51, 52, 53, 54, 55, 56, 47, 57, 58, 59, 60, 61, 62, 63, 64, 65, 27, 66, 67, 68, 69, 70, 71, 72, 73, 74, 75, 76, 77, 78, 79, 80, 81, 82, 83, 29, 84, 85, 86, 87, 88, 89, 90, 91, 92, 93, 94, 95, 96, 25, 26, 28, 144, 145, 124, 125, 126, 127, 128, 129, 130, 131, 132, 133, 134, 135, 136, 143] (by decide +kernel) (by decide +kernel)
set_option maxRecDepth 20000 in
theorem gX7_read_X1_record : GoodIn wsX7_read (wsV RX7 67 RX1 yX1_record wsX1_record) := goodIn_app (goodIn_of _ (by decide +kernel)) ggX7_read_X1_record
set_option maxRecDepth 20000 in
theorem ggX7_read_X4_clearScore : GoodIn wsX7_read wsX4_clearScore := goodIn_r _ [100, 88, 91, 68, 101, 102, 103, 27, 104, 29, 124, 125, 126, 127, 128, 129, 130, 131, 132, 133, 134, 135, 136, 143] (by decide +kernel) (by decide +kernel)
set_option maxRecDepth 20000 in
theorem gX7_read_X4_clearScore : GoodIn wsX7_read (wsV RX7 71 RX4 yX4_clearScore wsX4_clearScore) := goodIn_app (goodIn_of _ (by decide +kernel)) ggX7_read_X4_clearScore
set_option maxRecDepth 20000 in
theorem ggX7_read_X3_writeTo : GoodIn wsX7_read wsX3_writeTo := goodIn_r _ [108, 11, 10, 17, 18, 12, 13, 14, 15, 8, 16, 19, 20, 21, 22, 23, 24, 25, 26, 27, 28, 29, 30, 31, 32, 33, 34, 35, 36, 37, 38, 39, 40, 41, 42, 43, 109, 110, 111, 53, 112, 88, 66, 67, 113, 114, 115, 116, 137, 138, 139, 140, 141, 142, 143, 124, 125, 126, 127, 128, 129, 130, 131, 132, 133, 134, 135, 136] (by decide +kernel) (by decide +kernel)
set_option maxRecDepth 20000 in
theorem gX7_read_X3_writeTo : GoodIn wsX7_read (wsV RX7 74 RX3 yX3_writeTo wsX3_writeTo) := goodIn_app (goodIn_of _ (by decide +kernel)) ggX7_read_X3_writeTo
theorem dX7_read_0 : decode cX7_read 0 = .ok (.aload_n 0, 1) := by decide +kernel
theorem dX7_read_1 : decode cX7_read 1 = .ok (.getfield 19, 3) := by decide +kernel
theorem dX7_read_4 : decode cX7_read 4 = .ok (.invokevirtual 63, 3) := by decide +kernel
theorem dX7_read_7 : decode cX7_read 7 = .ok (.istore_n 1, 1) := by decide +kernel
theorem dX7_read_8 : decode cX7_read 8 = .ok (.iload_n 1, 1) := by decide +kernel
theorem dX7_read_9 : decode cX7_read 9 = .ok (.ifCond .lt 8, 3) := by decide +kernel
theorem dX7_read_12 : decode cX7_read 12 = .ok (.bipush (-100), 2) := by decide +kernel
theorem dX7_read_14 : decode cX7_read 14 = .ok (.iload_n 1, 1) := by decide +kernel
theorem dX7_read_15 : decode cX7_read 15 = .ok (.isub, 1) := by decide +kernel
theorem dX7_read_16 : decode cX7_read 16 = .ok (.ireturn, 1) := by decide +kernel
theorem dX7_read_17 : decode cX7_read 17 = .ok (.aload_n 0, 1) := by decide +kernel
theorem dX7_read_18 : decode cX7_read 18 = .ok (.getfield 26, 3) := by decide +kernel
theorem dX7_read_21 : decode cX7_read 21 = .ok (.aload_n 0, 1) := by decide +kernel
theorem dX7_read_22 : decode cX7_read 22 = .ok (.getfield 10, 3) := by decide +kernel
theorem dX7_read_25 : decode cX7_read 25 = .ok (.invokevirtual 67, 3) := by decide +kernel
theorem dX7_read_28 : decode cX7_read 28 = .ok (.aload_n 0, 1) := by decide +kernel
theorem dX7_read_29 : decode cX7_read 29 = .ok (.getfield 10, 3) := by decide +kernel
theorem dX7_read_32 : decode cX7_read 32 = .ok (.invokevirtual 71, 3) := by decide +kernel
theorem dX7_read_35 : decode cX7_read 35 = .ok (.aload_n 0, 1) := by decide +kernel
theorem dX7_read_36 : decode cX7_read 36 = .ok (.getfield 19, 3) := by decide +kernel
theorem dX7_read_39 : decode cX7_read 39 = .ok (.aload_n 0, 1) := by decide +kernel
theorem dX7_read_40 : decode cX7_read 40 = .ok (.getfield 10, 3) := by decide +kernel
theorem dX7_read_43 : decode cX7_read 43 = .ok (.invokevirtual 74, 3) := by decide +kernel
theorem dX7_read_46 : decode cX7_read 46 = .ok (.aload_n 0, 1) := by decide +kernel
theorem dX7_read_47 : decode cX7_read 47 = .ok (.getfield 10, 3) := by decide +kernel
theorem dX7_read_50 : decode cX7_read 50 = .ok (.getfield 77, 3) := by decide +kernel
theorem dX7_read_53 : decode cX7_read 53 = .ok (.ireturn, 1) := by decide +kernel
set_option maxRecDepth 20000 in
theorem ggX7_setLoudness_X4_hasBeat : GoodIn wsX7_setLoudness wsX4_hasBeat := goodIn_r _ [8, 9, 86, 87, 88, 89, 90, 91, 92, 93, 94, 95, 96, 97, 98] (by decide +kernel) (by decide +kernel)
set_option maxRecDepth 20000 in
theorem gX7_setLoudness_X4_hasBeat : GoodIn wsX7_setLoudness (wsV RX7 80 RX4 yX4_hasBeat wsX4_hasBeat) := goodIn_app (goodIn_of _ (by decide +kernel)) ggX7_setLoudness_X4_hasBeat
set_option maxRecDepth 20000 in
theorem ggX7_setLoudness_X7_isWithin : GoodIn wsX7_setLoudness wsX7_isWithin := goodIn_r _ [13] (by decide +kernel) (by decide +kernel)
set_option maxRecDepth 20000 in
theorem gX7_setLoudness_X7_isWithin : GoodIn wsX7_setLoudness (va_wsS RX7 84 yX7_isWithin wsX7_isWithin) := goodIn_app (goodIn_of _ (by decide +kernel)) ggX7_setLoudness_X7_isWithin
set_option maxRecDepth 20000 in
theorem ggX7_setLoudness_X1_record : GoodIn wsX7_setLoudness wsX1_record := goodIn_r _ [18, 19, 20, 21, 22, 7, 23, 24, 25, 17, 26, 27, 28, 29, 30, 31, 32, 33, 34, 35, 36, 37, 38, 39, 40, 41, 42, 43, 44, 45, 46, 47, 48, 49, 50, 51, 52, 53, 54, 55, 56, 57, 58, 9, 59, 60, 61, 62, 63, 64, 65, 66, 67, 68, 69, 99, 100, 86, 87, 88, 89, 90, 91, 92, 93, 94, 95, 96, 97, 98, 101] (by decide +kernel) (by decide +kernel)
set_option maxRecDepth 20000 in
theorem gX7_setLoudness_X1_record : GoodIn wsX7_setLoudness (wsV RX7 67 RX1 yX1_record wsX1_record) := goodIn_app (goodIn_of _ (by decide +kernel)) ggX7_setLoudness_X1_record
set_option maxRecDepth 20000 in
theorem ggX7_setLoudness_X2_put : GoodIn wsX7_setLoudness wsX2_put := goodIn_r _ [73, 54, 101] (by decide +kernel) (by decide +kernel)
set_option maxRecDepth 20000 in
theorem gX7_setLoudness_X2_put : GoodIn wsX7_setLoudness (wsV RX7 92 RX2 yX2_put wsX2_put) := goodIn_app (goodIn_of _ (by decide +kernel)) ggX7_setLoudness_X2_put
set_option maxRecDepth 20000 in
theorem ggX7_setLoudness_X4_isRest : GoodIn wsX7_setLoudness wsX4_isRest := goodIn_r _ [77, 36, 78, 67, 68, 35, 69, 54, 86, 87, 88, 89, 90, 91, 92, 93, 94, 95, 96, 97, 98, 101] (by decide +kernel) (by decide +kernel)
set_option maxRecDepth 20000 in
theorem gX7_setLoudness_X4_isRest : GoodIn wsX7_setLoudness (wsV RX7 98 RX4 yX4_isRest wsX4_isRest) := goodIn_app (goodIn_of _ (by decide +kernel)) ggX7_setLoudness_X4_isRest
theorem dX7_setLoudness_0 : decode cX7_setLoudness 0 = .ok (.aload_n 0, 1) := by decide +kernel
theorem dX7_setLoudness_1 : decode cX7_setLoudness 1 = .ok (.getfield 10, 3) := by decide +kernel
theorem dX7_setLoudness_4 : decode cX7_setLoudness 4 = .ok (.iload_n 1, 1) := by decide +kernel
theorem dX7_setLoudness_5 : decode cX7_setLoudness 5 = .ok (.invokevirtual 80, 3) := by decide +kernel
theorem dX7_setLoudness_8 : decode cX7_setLoudness 8 = .ok (.ifCond .eq 14, 3) := by decide +kernel
theorem dX7_setLoudness_11 : decode cX7_setLoudness 11 = .ok (.aload_n 0, 1) := by decide +kernel
theorem dX7_setLoudness_12 : decode cX7_setLoudness 12 = .ok (.getfield 10, 3) := by decide +kernel
theorem dX7_setLoudness_15 : decode cX7_setLoudness 15 = .ok (.iload_n 2, 1) := by decide +kernel
theorem dX7_setLoudness_16 : decode cX7_setLoudness 16 = .ok (.invokevirtual 80, 3) := by decide +kernel
theorem dX7_setLoudness_19 : decode cX7_setLoudness 19 = .ok (.ifCond .ne 5, 3) := by decide +kernel
theorem dX7_setLoudness_22 : decode cX7_setLoudness 22 = .ok (.iconst (-1), 1) := by decide +kernel
theorem dX7_setLoudness_23 : decode cX7_setLoudness 23 = .ok (.ireturn, 1) := by decide +kernel
theorem dX7_setLoudness_24 : decode cX7_setLoudness 24 = .ok (.iload_n 2, 1) := by decide +kernel
theorem dX7_setLoudness_25 : decode cX7_setLoudness 25 = .ok (.iload_n 1, 1) := by decide +kernel
theorem dX7_setLoudness_26 : decode cX7_setLoudness 26 = .ok (.if_icmp .lt 12, 3) := by decide +kernel
theorem dX7_setLoudness_29 : decode cX7_setLoudness 29 = .ok (.iload_n 3, 1) := by decide +kernel
theorem dX7_setLoudness_30 : decode cX7_setLoudness 30 = .ok (.iconst 1, 1) := by decide +kernel
theorem dX7_setLoudness_31 : decode cX7_setLoudness 31 = .ok (.iconst 5, 1) := by decide +kernel
theorem dX7_setLoudness_32 : decode cX7_setLoudness 32 = .ok (.invokestatic 84, 3) := by decide +kernel
theorem dX7_setLoudness_35 : decode cX7_setLoudness 35 = .ok (.ifCond .ne 6, 3) := by decide +kernel
theorem dX7_setLoudness_38 : decode cX7_setLoudness 38 = .ok (.bipush (-2), 2) := by decide +kernel
theorem dX7_setLoudness_40 : decode cX7_setLoudness 40 = .ok (.ireturn, 1) := by decide +kernel
theorem dX7_setLoudness_41 : decode cX7_setLoudness 41 = .ok (.aload_n 0, 1) := by decide +kernel
theorem dX7_setLoudness_42 : decode cX7_setLoudness 42 = .ok (.getfield 26, 3) := by decide +kernel
theorem dX7_setLoudness_45 : decode cX7_setLoudness 45 = .ok (.aload_n 0, 1) := by decide +kernel
theorem dX7_setLoudness_46 : decode cX7_setLoudness 46 = .ok (.getfield 10, 3) := by decide +kernel
theorem dX7_setLoudness_49 : decode cX7_setLoudness 49 = .ok (.invokevirtual 67, 3) := by decide +kernel
theorem dX7_setLoudness_52 : decode cX7_setLoudness 52 = .ok (.iconst 0, 1) := by decide +kernel
theorem dX7_setLoudness_53 : decode cX7_setLoudness 53 = .ok (.istore 4, 2) := by decide +kernel
theorem dX7_setLoudness_55 : decode cX7_setLoudness 55 = .ok (.iload_n 1, 1) := by decide +kernel
theorem dX7_setLoudness_56 : decode cX7_setLoudness 56 = .ok (.istore 5, 2) := by decide +kernel
theorem dX7_setLoudness_58 : decode cX7_setLoudness 58 = .ok (.iload 5, 2) := by decide +kernel
theorem dX7_setLoudness_60 : decode cX7_setLoudness 60 = .ok (.iload_n 2, 1) := by decide +kernel
theorem dX7_setLoudness_61 : decode cX7_setLoudness 61 = .ok (.if_icmp .gt 37, 3) := by decide +kernel
theorem dX7_setLoudness_64 : decode cX7_setLoudness 64 = .ok (.aload_n 0, 1) := by decide +kernel
theorem dX7_setLoudness_65 : decode cX7_setLoudness 65 = .ok (.getfield 10, 3) := by decide +kernel
theorem dX7_setLoudness_68 : decode cX7_setLoudness 68 = .ok (.getfield 88, 3) := by decide +kernel
theorem dX7_setLoudness_71 : decode cX7_setLoudness 71 = .ok (.iload 5, 2) := by decide +kernel
theorem dX7_setLoudness_73 : decode cX7_setLoudness 73 = .ok (.iload_n 3, 1) := by decide +kernel
theorem dX7_setLoudness_74 : decode cX7_setLoudness 74 = .ok (.invokevirtual 92, 3) := by decide +kernel
theorem dX7_setLoudness_77 : decode cX7_setLoudness 77 = .ok (.aload_n 0, 1) := by decide +kernel
theorem dX7_setLoudness_78 : decode cX7_setLoudness 78 = .ok (.getfield 10, 3) := by decide +kernel
theorem dX7_setLoudness_81 : decode cX7_setLoudness 81 = .ok (.iload 5, 2) := by decide +kernel
theorem dX7_setLoudness_83 : decode cX7_setLoudness 83 = .ok (.invokevirtual 98, 3) := by decide +kernel
theorem dX7_setLoudness_86 : decode cX7_setLoudness 86 = .ok (.ifCond .ne 6, 3) := by decide +kernel
theorem dX7_setLoudness_89 : decode cX7_setLoudness 89 = .ok (.iinc 4 1, 3) := by decide +kernel
theorem dX7_setLoudness_92 : decode cX7_setLoudness 92 = .ok (.iinc 5 1, 3) := by decide +kernel
theorem dX7_setLoudness_95 : decode cX7_setLoudness 95 = .ok (.goto (-37), 3) := by decide +kernel
theorem dX7_setLoudness_98 : decode cX7_setLoudness 98 = .ok (.iload 4, 2) := by decide +kernel
theorem dX7_setLoudness_100 : decode cX7_setLoudness 100 = .ok (.ireturn, 1) := by decide +kernel
set_option maxRecDepth 20000 in
theorem ggX7_setSort_X4_hasBeat : GoodIn wsX7_setSort wsX4_hasBeat := goodIn_r _ [8, 9, 82, 83, 84, 85, 86, 87, 88, 89, 90, 91, 92, 93, 94] (by decide +kernel) (by decide +kernel)
set_option maxRecDepth 20000 in
theorem gX7_setSort_X4_hasBeat : GoodIn wsX7_setSort (wsV RX7 80 RX4 yX4_hasBeat wsX4_hasBeat) := goodIn_app (goodIn_of _ (by decide +kernel)) ggX7_setSort_X4_hasBeat
set_option maxRecDepth 20000 in
theorem ggX7_setSort_X7_isWithin : GoodIn wsX7_setSort wsX7_isWithin := goodIn_r _ [13] (by decide +kernel) (by decide +kernel)
set_option maxRecDepth 20000 in
theorem gX7_setSort_X7_isWithin : GoodIn wsX7_setSort (va_wsS RX7 84 yX7_isWithin wsX7_isWithin) := goodIn_app (goodIn_of _ (by decide +kernel)) ggX7_setSort_X7_isWithin
set_option maxRecDepth 20000 in
theorem ggX7_setSort_X1_record : GoodIn wsX7_setSort wsX1_record := goodIn_r _ [18, 19, 20, 21, 22, 7, 23, 24, 25, 17, 26, 27, 28, 29, 30, 31, 32, 33, 34, 35, 36, 37, 38, 39, 40, 41, 42, 43, 44, 45, 46, 47, 48, 49, 50, 51, 52, 53, 54, 55, 56, 57, 58, 9, 59, 60, 61, 62, 63, 64, 65, 66, 67, 68, 69, 95, 96, 82, 83, 84, 85, 86, 87, 88, 89, 90, 91, 92, 93, 94, 97] (by decide +kernel) (by decide +kernel)
set_option maxRecDepth 20000 in
theorem gX7_setSort_X1_record : GoodIn wsX7_setSort (wsV RX7 67 RX1 yX1_record wsX1_record) := goodIn_app (goodIn_of _ (by decide +kernel)) ggX7_setSort_X1_record
set_option maxRecDepth 20000 in
theorem ggX7_setSort_X2_at : GoodIn wsX7_setSort wsX2_at := goodIn_r _ [69, 54, 97] (by decide +kernel) (by decide +kernel)
set_option maxRecDepth 20000 in
theorem gX7_setSort_X2_at : GoodIn wsX7_setSort (wsV RX7 104 RX2 yX2_at wsX2_at) := goodIn_app (goodIn_of _ (by decide +kernel)) ggX7_setSort_X2_at
set_option maxRecDepth 20000 in
theorem ggX7_setSort_X2_put : GoodIn wsX7_setSort wsX2_put := goodIn_r _ [74, 54, 97] (by decide +kernel) (by decide +kernel)
set_option maxRecDepth 20000 in
theorem gX7_setSort_X2_put : GoodIn wsX7_setSort (wsV RX7 92 RX2 yX2_put wsX2_put) := goodIn_app (goodIn_of _ (by decide +kernel)) ggX7_setSort_X2_put
theorem dX7_setSort_0 : decode cX7_setSort 0 = .ok (.aload_n 0, 1) := by decide +kernel
theorem dX7_setSort_1 : decode cX7_setSort 1 = .ok (.getfield 10, 3) := by decide +kernel
theorem dX7_setSort_4 : decode cX7_setSort 4 = .ok (.iload_n 1, 1) := by decide +kernel
theorem dX7_setSort_5 : decode cX7_setSort 5 = .ok (.invokevirtual 80, 3) := by decide +kernel
theorem dX7_setSort_8 : decode cX7_setSort 8 = .ok (.ifCond .ne 5, 3) := by decide +kernel
theorem dX7_setSort_11 : decode cX7_setSort 11 = .ok (.iconst (-1), 1) := by decide +kernel
theorem dX7_setSort_12 : decode cX7_setSort 12 = .ok (.ireturn, 1) := by decide +kernel
theorem dX7_setSort_13 : decode cX7_setSort 13 = .ok (.iload_n 2, 1) := by decide +kernel
theorem dX7_setSort_14 : decode cX7_setSort 14 = .ok (.iconst 0, 1) := by decide +kernel
theorem dX7_setSort_15 : decode cX7_setSort 15 = .ok (.iconst 2, 1) := by decide +kernel
theorem dX7_setSort_16 : decode cX7_setSort 16 = .ok (.invokestatic 84, 3) := by decide +kernel
theorem dX7_setSort_19 : decode cX7_setSort 19 = .ok (.ifCond .ne 6, 3) := by decide +kernel
theorem dX7_setSort_22 : decode cX7_setSort 22 = .ok (.bipush (-2), 2) := by decide +kernel
theorem dX7_setSort_24 : decode cX7_setSort 24 = .ok (.ireturn, 1) := by decide +kernel
theorem dX7_setSort_25 : decode cX7_setSort 25 = .ok (.aload_n 0, 1) := by decide +kernel
theorem dX7_setSort_26 : decode cX7_setSort 26 = .ok (.getfield 26, 3) := by decide +kernel
theorem dX7_setSort_29 : decode cX7_setSort 29 = .ok (.aload_n 0, 1) := by decide +kernel
theorem dX7_setSort_30 : decode cX7_setSort 30 = .ok (.getfield 10, 3) := by decide +kernel
theorem dX7_setSort_33 : decode cX7_setSort 33 = .ok (.invokevirtual 67, 3) := by decide +kernel
theorem dX7_setSort_36 : decode cX7_setSort 36 = .ok (.aload_n 0, 1) := by decide +kernel
theorem dX7_setSort_37 : decode cX7_setSort 37 = .ok (.getfield 10, 3) := by decide +kernel
theorem dX7_setSort_40 : decode cX7_setSort 40 = .ok (.getfield 101, 3) := by decide +kernel
theorem dX7_setSort_43 : decode cX7_setSort 43 = .ok (.iload_n 1, 1) := by decide +kernel
theorem dX7_setSort_44 : decode cX7_setSort 44 = .ok (.invokevirtual 104, 3) := by decide +kernel
theorem dX7_setSort_47 : decode cX7_setSort 47 = .ok (.istore_n 3, 1) := by decide +kernel
theorem dX7_setSort_48 : decode cX7_setSort 48 = .ok (.aload_n 0, 1) := by decide +kernel
theorem dX7_setSort_49 : decode cX7_setSort 49 = .ok (.getfield 10, 3) := by decide +kernel
theorem dX7_setSort_52 : decode cX7_setSort 52 = .ok (.getfield 101, 3) := by decide +kernel
theorem dX7_setSort_55 : decode cX7_setSort 55 = .ok (.iload_n 1, 1) := by decide +kernel
theorem dX7_setSort_56 : decode cX7_setSort 56 = .ok (.iload_n 2, 1) := by decide +kernel
theorem dX7_setSort_57 : decode cX7_setSort 57 = .ok (.invokevirtual 92, 3) := by decide +kernel
theorem dX7_setSort_60 : decode cX7_setSort 60 = .ok (.iload_n 3, 1) := by decide +kernel
theorem dX7_setSort_61 : decode cX7_setSort 61 = .ok (.ireturn, 1) := by decide +kernel
set_option maxRecDepth 20000 in
theorem ggX7_addSinger_X7_isWithin : GoodIn wsX7_addSinger wsX7_isWithin := goodIn_r _ [7] (by decide +kernel) (by decide +kernel)
set_option maxRecDepth 20000 in
theorem gX7_addSinger_X7_isWithin : GoodIn wsX7_addSinger (va_wsS RX7 84 yX7_isWithin wsX7_isWithin) := goodIn_app (goodIn_of _ (by decide +kernel)) ggX7_addSinger_X7_isWithin
set_option maxRecDepth 20000 in
theorem ggX7_addSinger_X1_record : GoodIn wsX7_addSinger wsX1_record := goodIn_r _ [12, 13, 14, 15, 16, 17, 18, 19, 20, 11, 21, 22, 23, 24, 25, 26, 27, 28, 29, 30, 31, 32, 33, 34, 35, 36, 37, 38, 39, 40, 41, 42, 43, 44, 45, 46, 47, 48, 49, 50, 51, 52, 53, 54, 55, 56, 57, 58, 59, 60, 61, 62, 63, 64, 65, 96, 97, 83, 84, 85, 86, 87, 88, 89, 90, 91, 92, 93, 94, 95, 98] (by decide +kernel) (by decide +kernel)
set_option maxRecDepth 20000 in
theorem gX7_addSinger_X1_record : GoodIn wsX7_addSinger (wsV RX7 67 RX1 yX1_record wsX1_record) := goodIn_app (goodIn_of _ (by decide +kernel)) ggX7_addSinger_X1_record
set_option maxRecDepth 20000 in
theorem ggX7_addSinger_X4_appendSinger : GoodIn wsX7_addSinger wsX4_appendSinger := goodIn_r _ [69, 55, 34, 35, 56, 70, 71, 72, 30, 73, 49, 74, 6, 75, 83, 84, 85, 86, 87, 88, 89, 90, 91, 92, 93, 94, 95, 98] (by decide +kernel) (by decide +kernel)
set_option maxRecDepth 20000 in
theorem gX7_addSinger_X4_appendSinger : GoodIn wsX7_addSinger (wsV RX7 111 RX4 yX4_appendSinger wsX4_appendSinger) := goodIn_app (goodIn_of _ (by decide +kernel)) ggX7_addSinger_X4_appendSinger
theorem dX7_addSinger_0 : decode cX7_addSinger 0 = .ok (.iload_n 1, 1) := by decide +kernel
theorem dX7_addSinger_1 : decode cX7_addSinger 1 = .ok (.iconst 4, 1) := by decide +kernel
theorem dX7_addSinger_2 : decode cX7_addSinger 2 = .ok (.bipush 40, 2) := by decide +kernel
theorem dX7_addSinger_4 : decode cX7_addSinger 4 = .ok (.invokestatic 84, 3) := by decide +kernel
theorem dX7_addSinger_7 : decode cX7_addSinger 7 = .ok (.ifCond .eq 13, 3) := by decide +kernel
theorem dX7_addSinger_10 : decode cX7_addSinger 10 = .ok (.iload_n 2, 1) := by decide +kernel
theorem dX7_addSinger_11 : decode cX7_addSinger 11 = .ok (.iconst 1, 1) := by decide +kernel
theorem dX7_addSinger_12 : decode cX7_addSinger 12 = .ok (.bipush 10, 2) := by decide +kernel
theorem dX7_addSinger_14 : decode cX7_addSinger 14 = .ok (.invokestatic 84, 3) := by decide +kernel
theorem dX7_addSinger_17 : decode cX7_addSinger 17 = .ok (.ifCond .ne 6, 3) := by decide +kernel
theorem dX7_addSinger_20 : decode cX7_addSinger 20 = .ok (.bipush (-2), 2) := by decide +kernel
theorem dX7_addSinger_22 : decode cX7_addSinger 22 = .ok (.ireturn, 1) := by decide +kernel
theorem dX7_addSinger_23 : decode cX7_addSinger 23 = .ok (.aload_n 0, 1) := by decide +kernel
theorem dX7_addSinger_24 : decode cX7_addSinger 24 = .ok (.getfield 10, 3) := by decide +kernel
theorem dX7_addSinger_27 : decode cX7_addSinger 27 = .ok (.getfield 108, 3) := by decide +kernel
theorem dX7_addSinger_30 : decode cX7_addSinger 30 = .ok (.bipush 12, 2) := by decide +kernel
theorem dX7_addSinger_32 : decode cX7_addSinger 32 = .ok (.if_icmp .lt 6, 3) := by decide +kernel
theorem dX7_addSinger_35 : decode cX7_addSinger 35 = .ok (.bipush (-3), 2) := by decide +kernel
theorem dX7_addSinger_37 : decode cX7_addSinger 37 = .ok (.ireturn, 1) := by decide +kernel
theorem dX7_addSinger_38 : decode cX7_addSinger 38 = .ok (.aload_n 0, 1) := by decide +kernel
theorem dX7_addSinger_39 : decode cX7_addSinger 39 = .ok (.getfield 26, 3) := by decide +kernel
theorem dX7_addSinger_42 : decode cX7_addSinger 42 = .ok (.aload_n 0, 1) := by decide +kernel
theorem dX7_addSinger_43 : decode cX7_addSinger 43 = .ok (.getfield 10, 3) := by decide +kernel
theorem dX7_addSinger_46 : decode cX7_addSinger 46 = .ok (.invokevirtual 67, 3) := by decide +kernel
theorem dX7_addSinger_49 : decode cX7_addSinger 49 = .ok (.aload_n 0, 1) := by decide +kernel
theorem dX7_addSinger_50 : decode cX7_addSinger 50 = .ok (.getfield 10, 3) := by decide +kernel
theorem dX7_addSinger_53 : decode cX7_addSinger 53 = .ok (.iload_n 1, 1) := by decide +kernel
theorem dX7_addSinger_54 : decode cX7_addSinger 54 = .ok (.iload_n 2, 1) := by decide +kernel
theorem dX7_addSinger_55 : decode cX7_addSinger 55 = .ok (.invokevirtual 111, 3) := by decide +kernel
theorem dX7_addSinger_58 : decode cX7_addSinger 58 = .ok (.ireturn, 1) := by decide +kernel
set_option maxRecDepth 20000 in
theorem ggX7_setPresent_X4_hasSinger : GoodIn wsX7_setPresent wsX4_hasSinger := goodIn_r _ [8, 9, 94, 95, 96, 97, 98, 99, 100, 101, 102, 103, 104, 105, 106] (by decide +kernel) (by decide +kernel)
set_option maxRecDepth 20000 in
theorem gX7_setPresent_X4_hasSinger : GoodIn wsX7_setPresent (wsV RX7 115 RX4 yX4_hasSinger wsX4_hasSinger) := goodIn_app (goodIn_of _ (by decide +kernel)) ggX7_setPresent_X4_hasSinger
set_option maxRecDepth 20000 in
theorem ggX7_setPresent_X4_isPresent : GoodIn wsX7_setPresent wsX4_isPresent := goodIn_r _ [13, 14, 15, 16, 17, 94, 95, 96, 97, 98, 99, 100, 101, 102, 103, 104, 105, 106] (by decide +kernel) (by decide +kernel)
set_option maxRecDepth 20000 in
theorem gX7_setPresent_X4_isPresent : GoodIn wsX7_setPresent (wsV RX7 118 RX4 yX4_isPresent wsX4_isPresent) := goodIn_app (goodIn_of _ (by decide +kernel)) ggX7_setPresent_X4_isPresent
set_option maxRecDepth 20000 in
theorem ggX7_setPresent_X1_record : GoodIn wsX7_setPresent wsX1_record := goodIn_r _ [22, 23, 24, 25, 26, 7, 27, 28, 29, 21, 30, 31, 32, 33, 34, 35, 36, 37, 38, 39, 40, 41, 42, 43, 44, 45, 46, 47, 48, 49, 50, 51, 52, 53, 54, 55, 56, 57, 58, 59, 60, 61, 62, 63, 9, 14, 64, 65, 66, 67, 68, 69, 70, 71, 72, 107, 108, 94, 95, 96, 97, 98, 99, 100, 101, 102, 103, 104, 105, 106, 109] (by decide +kernel) (by decide +kernel)
set_option maxRecDepth 20000 in
theorem gX7_setPresent_X1_record : GoodIn wsX7_setPresent (wsV RX7 67 RX1 yX1_record wsX1_record) := goodIn_app (goodIn_of _ (by decide +kernel)) ggX7_setPresent_X1_record
set_option maxRecDepth 20000 in
theorem ggX7_setPresent_X7_bit : GoodIn wsX7_setPresent wsX7_bit := goodIn_r _ [75] (by decide +kernel) (by decide +kernel)
set_option maxRecDepth 20000 in
theorem gX7_setPresent_X7_bit : GoodIn wsX7_setPresent (va_wsS RX7 124 yX7_bit wsX7_bit) := goodIn_app (goodIn_of _ (by decide +kernel)) ggX7_setPresent_X7_bit
set_option maxRecDepth 20000 in
theorem ggX7_setPresent_X4_countPresent : GoodIn wsX7_setPresent wsX4_countPresent := goodIn_r _ [79, 14, 80, 81, 82, 83, 84, 85, 86, 94, 95, 96, 97, 98, 99, 100, 101, 102, 103, 104, 105, 106] (by decide +kernel) (by decide +kernel)
set_option maxRecDepth 20000 in
theorem gX7_setPresent_X4_countPresent : GoodIn wsX7_setPresent (wsV RX7 127 RX4 yX4_countPresent wsX4_countPresent) := goodIn_app (goodIn_of _ (by decide +kernel)) ggX7_setPresent_X4_countPresent
theorem dX7_setPresent_0 : decode cX7_setPresent 0 = .ok (.aload_n 0, 1) := by decide +kernel
theorem dX7_setPresent_1 : decode cX7_setPresent 1 = .ok (.getfield 10, 3) := by decide +kernel
theorem dX7_setPresent_4 : decode cX7_setPresent 4 = .ok (.iload_n 1, 1) := by decide +kernel
theorem dX7_setPresent_5 : decode cX7_setPresent 5 = .ok (.invokevirtual 115, 3) := by decide +kernel
theorem dX7_setPresent_8 : decode cX7_setPresent 8 = .ok (.ifCond .ne 5, 3) := by decide +kernel
theorem dX7_setPresent_11 : decode cX7_setPresent 11 = .ok (.iconst (-1), 1) := by decide +kernel
theorem dX7_setPresent_12 : decode cX7_setPresent 12 = .ok (.ireturn, 1) := by decide +kernel
theorem dX7_setPresent_13 : decode cX7_setPresent 13 = .ok (.aload_n 0, 1) := by decide +kernel
theorem dX7_setPresent_14 : decode cX7_setPresent 14 = .ok (.getfield 10, 3) := by decide +kernel
theorem dX7_setPresent_17 : decode cX7_setPresent 17 = .ok (.iload_n 1, 1) := by decide +kernel
theorem dX7_setPresent_18 : decode cX7_setPresent 18 = .ok (.invokevirtual 118, 3) := by decide +kernel
theorem dX7_setPresent_21 : decode cX7_setPresent 21 = .ok (.iload_n 2, 1) := by decide +kernel
theorem dX7_setPresent_22 : decode cX7_setPresent 22 = .ok (.if_icmp .ne 6, 3) := by decide +kernel
theorem dX7_setPresent_25 : decode cX7_setPresent 25 = .ok (.bipush (-5), 2) := by decide +kernel
theorem dX7_setPresent_27 : decode cX7_setPresent 27 = .ok (.ireturn, 1) := by decide +kernel
theorem dX7_setPresent_28 : decode cX7_setPresent 28 = .ok (.aload_n 0, 1) := by decide +kernel
theorem dX7_setPresent_29 : decode cX7_setPresent 29 = .ok (.getfield 26, 3) := by decide +kernel
theorem dX7_setPresent_32 : decode cX7_setPresent 32 = .ok (.aload_n 0, 1) := by decide +kernel
theorem dX7_setPresent_33 : decode cX7_setPresent 33 = .ok (.getfield 10, 3) := by decide +kernel
theorem dX7_setPresent_36 : decode cX7_setPresent 36 = .ok (.invokevirtual 67, 3) := by decide +kernel
theorem dX7_setPresent_39 : decode cX7_setPresent 39 = .ok (.aload_n 0, 1) := by decide +kernel
theorem dX7_setPresent_40 : decode cX7_setPresent 40 = .ok (.getfield 10, 3) := by decide +kernel
theorem dX7_setPresent_43 : decode cX7_setPresent 43 = .ok (.dup, 1) := by decide +kernel
theorem dX7_setPresent_44 : decode cX7_setPresent 44 = .ok (.getfield 121, 3) := by decide +kernel
theorem dX7_setPresent_47 : decode cX7_setPresent 47 = .ok (.iload_n 1, 1) := by decide +kernel
theorem dX7_setPresent_48 : decode cX7_setPresent 48 = .ok (.invokestatic 124, 3) := by decide +kernel
theorem dX7_setPresent_51 : decode cX7_setPresent 51 = .ok (.ixor, 1) := by decide +kernel
theorem dX7_setPresent_52 : decode cX7_setPresent 52 = .ok (.putfield 121, 3) := by decide +kernel
theorem dX7_setPresent_55 : decode cX7_setPresent 55 = .ok (.aload_n 0, 1) := by decide +kernel
theorem dX7_setPresent_56 : decode cX7_setPresent 56 = .ok (.getfield 10, 3) := by decide +kernel
theorem dX7_setPresent_59 : decode cX7_setPresent 59 = .ok (.invokevirtual 127, 3) := by decide +kernel
theorem dX7_setPresent_62 : decode cX7_setPresent 62 = .ok (.ireturn, 1) := by decide +kernel
set_option maxRecDepth 20000 in
theorem ggX7_addSolo_X4_hasSinger : GoodIn wsX7_addSolo wsX4_hasSinger := goodIn_r _ [8, 9, 94, 95, 96, 97, 98, 99, 100, 101, 102, 103, 104, 105, 106] (by decide +kernel) (by decide +kernel)
set_option maxRecDepth 20000 in
theorem gX7_addSolo_X4_hasSinger : GoodIn wsX7_addSolo (wsV RX7 115 RX4 yX4_hasSinger wsX4_hasSinger) := goodIn_app (goodIn_of _ (by decide +kernel)) ggX7_addSolo_X4_hasSinger
set_option maxRecDepth 20000 in
theorem ggX7_addSolo_X4_hasBeat : GoodIn wsX7_addSolo wsX4_hasBeat := goodIn_r _ [13, 14, 94, 95, 96, 97, 98, 99, 100, 101, 102, 103, 104, 105, 106] (by decide +kernel) (by decide +kernel)
set_option maxRecDepth 20000 in
theorem gX7_addSolo_X4_hasBeat : GoodIn wsX7_addSolo (wsV RX7 80 RX4 yX4_hasBeat wsX4_hasBeat) := goodIn_app (goodIn_of _ (by decide +kernel)) ggX7_addSolo_X4_hasBeat
set_option maxRecDepth 20000 in
theorem ggX7_addSolo_X4_overlapsSolo : GoodIn wsX7_addSolo wsX4_overlapsSolo := goodIn_r _ [18, 19, 20, 21, 22, 23, 24, 25, 26, 27, 94, 95, 96, 97, 98, 99, 100, 101, 102, 103, 104, 105, 106, 107] (by decide +kernel) (by decide +kernel)
set_option maxRecDepth 20000 in
theorem gX7_addSolo_X4_overlapsSolo : GoodIn wsX7_addSolo (wsV RX7 130 RX4 yX4_overlapsSolo wsX4_overlapsSolo) := goodIn_app (goodIn_of _ (by decide +kernel)) ggX7_addSolo_X4_overlapsSolo
set_option maxRecDepth 20000 in
theorem ggX7_addSolo_X1_record : GoodIn wsX7_addSolo wsX1_record := goodIn_r _ [32, 33, 34, 35, 36, 7, 37, 38, 39, 31, 40, 41, 42, 43, 44, 45, 46, 47, 48, 25, 49, 50, 51, 52, 53, 54, 20, 21, 55, 56, 57, 58, 59, 60, 61, 62, 63, 64, 27, 65, 66, 67, 68, 14, 9, 69, 19, 70, 71, 72, 73, 74, 23, 24, 26, 108, 109, 94, 95, 96, 97, 98, 99, 100, 101, 102, 103, 104, 105, 106, 107] (by decide +kernel) (by decide +kernel)
set_option maxRecDepth 20000 in
theorem gX7_addSolo_X1_record : GoodIn wsX7_addSolo (wsV RX7 67 RX1 yX1_record wsX1_record) := goodIn_app (goodIn_of _ (by decide +kernel)) ggX7_addSolo_X1_record
set_option maxRecDepth 20000 in
theorem ggX7_addSolo_X4_insertSolo : GoodIn wsX7_addSolo wsX4_insertSolo := goodIn_r _ [78, 19, 20, 54, 21, 22, 23, 24, 25, 26, 27, 79, 80, 81, 7, 82, 83, 84, 85, 86, 94, 95, 96, 97, 98, 99, 100, 101, 102, 103, 104, 105, 106, 107] (by decide +kernel) (by decide +kernel)
set_option maxRecDepth 20000 in
theorem gX7_addSolo_X4_insertSolo : GoodIn wsX7_addSolo (wsV RX7 137 RX4 yX4_insertSolo wsX4_insertSolo) := goodIn_app (goodIn_of _ (by decide +kernel)) ggX7_addSolo_X4_insertSolo
theorem dX7_addSolo_0 : decode cX7_addSolo 0 = .ok (.aload_n 0, 1) := by decide +kernel
theorem dX7_addSolo_1 : decode cX7_addSolo 1 = .ok (.getfield 10, 3) := by decide +kernel
theorem dX7_addSolo_4 : decode cX7_addSolo 4 = .ok (.iload_n 1, 1) := by decide +kernel
theorem dX7_addSolo_5 : decode cX7_addSolo 5 = .ok (.invokevirtual 115, 3) := by decide +kernel
theorem dX7_addSolo_8 : decode cX7_addSolo 8 = .ok (.ifCond .eq 25, 3) := by decide +kernel
theorem dX7_addSolo_11 : decode cX7_addSolo 11 = .ok (.aload_n 0, 1) := by decide +kernel
theorem dX7_addSolo_12 : decode cX7_addSolo 12 = .ok (.getfield 10, 3) := by decide +kernel
theorem dX7_addSolo_15 : decode cX7_addSolo 15 = .ok (.iload_n 2, 1) := by decide +kernel
theorem dX7_addSolo_16 : decode cX7_addSolo 16 = .ok (.invokevirtual 80, 3) := by decide +kernel
theorem dX7_addSolo_19 : decode cX7_addSolo 19 = .ok (.ifCond .eq 14, 3) := by decide +kernel
theorem dX7_addSolo_22 : decode cX7_addSolo 22 = .ok (.aload_n 0, 1) := by decide +kernel
theorem dX7_addSolo_23 : decode cX7_addSolo 23 = .ok (.getfield 10, 3) := by decide +kernel
theorem dX7_addSolo_26 : decode cX7_addSolo 26 = .ok (.iload_n 3, 1) := by decide +kernel
theorem dX7_addSolo_27 : decode cX7_addSolo 27 = .ok (.invokevirtual 80, 3) := by decide +kernel
theorem dX7_addSolo_30 : decode cX7_addSolo 30 = .ok (.ifCond .ne 5, 3) := by decide +kernel
theorem dX7_addSolo_33 : decode cX7_addSolo 33 = .ok (.iconst (-1), 1) := by decide +kernel
theorem dX7_addSolo_34 : decode cX7_addSolo 34 = .ok (.ireturn, 1) := by decide +kernel
theorem dX7_addSolo_35 : decode cX7_addSolo 35 = .ok (.iload_n 3, 1) := by decide +kernel
theorem dX7_addSolo_36 : decode cX7_addSolo 36 = .ok (.iload_n 2, 1) := by decide +kernel
theorem dX7_addSolo_37 : decode cX7_addSolo 37 = .ok (.if_icmp .ge 6, 3) := by decide +kernel
theorem dX7_addSolo_40 : decode cX7_addSolo 40 = .ok (.bipush (-2), 2) := by decide +kernel
theorem dX7_addSolo_42 : decode cX7_addSolo 42 = .ok (.ireturn, 1) := by decide +kernel
theorem dX7_addSolo_43 : decode cX7_addSolo 43 = .ok (.aload_n 0, 1) := by decide +kernel
theorem dX7_addSolo_44 : decode cX7_addSolo 44 = .ok (.getfield 10, 3) := by decide +kernel
theorem dX7_addSolo_47 : decode cX7_addSolo 47 = .ok (.iload_n 2, 1) := by decide +kernel
theorem dX7_addSolo_48 : decode cX7_addSolo 48 = .ok (.iload_n 3, 1) := by decide +kernel
theorem dX7_addSolo_49 : decode cX7_addSolo 49 = .ok (.invokevirtual 130, 3) := by decide +kernel
theorem dX7_addSolo_52 : decode cX7_addSolo 52 = .ok (.ifCond .eq 6, 3) := by decide +kernel
theorem dX7_addSolo_55 : decode cX7_addSolo 55 = .ok (.bipush (-4), 2) := by decide +kernel
theorem dX7_addSolo_57 : decode cX7_addSolo 57 = .ok (.ireturn, 1) := by decide +kernel
theorem dX7_addSolo_58 : decode cX7_addSolo 58 = .ok (.aload_n 0, 1) := by decide +kernel
theorem dX7_addSolo_59 : decode cX7_addSolo 59 = .ok (.getfield 10, 3) := by decide +kernel
theorem dX7_addSolo_62 : decode cX7_addSolo 62 = .ok (.getfield 134, 3) := by decide +kernel
theorem dX7_addSolo_65 : decode cX7_addSolo 65 = .ok (.bipush 8, 2) := by decide +kernel
theorem dX7_addSolo_67 : decode cX7_addSolo 67 = .ok (.if_icmp .lt 6, 3) := by decide +kernel
theorem dX7_addSolo_70 : decode cX7_addSolo 70 = .ok (.bipush (-3), 2) := by decide +kernel
theorem dX7_addSolo_72 : decode cX7_addSolo 72 = .ok (.ireturn, 1) := by decide +kernel
theorem dX7_addSolo_73 : decode cX7_addSolo 73 = .ok (.aload_n 0, 1) := by decide +kernel
theorem dX7_addSolo_74 : decode cX7_addSolo 74 = .ok (.getfield 26, 3) := by decide +kernel
theorem dX7_addSolo_77 : decode cX7_addSolo 77 = .ok (.aload_n 0, 1) := by decide +kernel
theorem dX7_addSolo_78 : decode cX7_addSolo 78 = .ok (.getfield 10, 3) := by decide +kernel
theorem dX7_addSolo_81 : decode cX7_addSolo 81 = .ok (.invokevirtual 67, 3) := by decide +kernel
theorem dX7_addSolo_84 : decode cX7_addSolo 84 = .ok (.aload_n 0, 1) := by decide +kernel
theorem dX7_addSolo_85 : decode cX7_addSolo 85 = .ok (.getfield 10, 3) := by decide +kernel
theorem dX7_addSolo_88 : decode cX7_addSolo 88 = .ok (.iload_n 1, 1) := by decide +kernel
theorem dX7_addSolo_89 : decode cX7_addSolo 89 = .ok (.iload_n 2, 1) := by decide +kernel
theorem dX7_addSolo_90 : decode cX7_addSolo 90 = .ok (.iload_n 3, 1) := by decide +kernel
theorem dX7_addSolo_91 : decode cX7_addSolo 91 = .ok (.invokevirtual 137, 3) := by decide +kernel
theorem dX7_addSolo_94 : decode cX7_addSolo 94 = .ok (.ireturn, 1) := by decide +kernel
set_option maxRecDepth 20000 in
theorem ggX7_removeSolo_X4_hasSolo : GoodIn wsX7_removeSolo wsX4_hasSolo := goodIn_r _ [8, 9, 86, 87, 88, 89, 90, 91, 92, 93, 94, 95, 96, 97, 98] (by decide +kernel) (by decide +kernel)
set_option maxRecDepth 20000 in
theorem gX7_removeSolo_X4_hasSolo : GoodIn wsX7_removeSolo (wsV RX7 141 RX4 yX4_hasSolo wsX4_hasSolo) := goodIn_app (goodIn_of _ (by decide +kernel)) ggX7_removeSolo_X4_hasSolo
set_option maxRecDepth 20000 in
theorem ggX7_removeSolo_X1_record : GoodIn wsX7_removeSolo wsX1_record := goodIn_r _ [14, 15, 16, 17, 18, 7, 19, 20, 21, 13, 22, 23, 24, 25, 26, 27, 28, 29, 30, 31, 32, 33, 34, 35, 36, 37, 38, 39, 40, 41, 42, 43, 44, 45, 46, 47, 48, 49, 50, 51, 52, 53, 54, 55, 56, 57, 9, 58, 59, 60, 61, 62, 63, 64, 65, 99, 100, 86, 87, 88, 89, 90, 91, 92, 93, 94, 95, 96, 97, 98, 101] (by decide +kernel) (by decide +kernel)
set_option maxRecDepth 20000 in
theorem gX7_removeSolo_X1_record : GoodIn wsX7_removeSolo (wsV RX7 67 RX1 yX1_record wsX1_record) := goodIn_app (goodIn_of _ (by decide +kernel)) ggX7_removeSolo_X1_record
set_option maxRecDepth 20000 in
theorem ggX7_removeSolo_X4_dropSolo : GoodIn wsX7_removeSolo wsX4_dropSolo := goodIn_r _ [69, 9, 70, 71, 72, 7, 73, 37, 38, 39, 74, 63, 64, 31, 65, 50, 75, 76, 77, 78, 86, 87, 88, 89, 90, 91, 92, 93, 94, 95, 96, 97, 98, 101] (by decide +kernel) (by decide +kernel)
set_option maxRecDepth 20000 in
theorem gX7_removeSolo_X4_dropSolo : GoodIn wsX7_removeSolo (wsV RX7 144 RX4 yX4_dropSolo wsX4_dropSolo) := goodIn_app (goodIn_of _ (by decide +kernel)) ggX7_removeSolo_X4_dropSolo
theorem dX7_removeSolo_0 : decode cX7_removeSolo 0 = .ok (.aload_n 0, 1) := by decide +kernel
theorem dX7_removeSolo_1 : decode cX7_removeSolo 1 = .ok (.getfield 10, 3) := by decide +kernel
theorem dX7_removeSolo_4 : decode cX7_removeSolo 4 = .ok (.iload_n 1, 1) := by decide +kernel
theorem dX7_removeSolo_5 : decode cX7_removeSolo 5 = .ok (.invokevirtual 141, 3) := by decide +kernel
theorem dX7_removeSolo_8 : decode cX7_removeSolo 8 = .ok (.ifCond .ne 5, 3) := by decide +kernel
theorem dX7_removeSolo_11 : decode cX7_removeSolo 11 = .ok (.iconst (-1), 1) := by decide +kernel
theorem dX7_removeSolo_12 : decode cX7_removeSolo 12 = .ok (.ireturn, 1) := by decide +kernel
theorem dX7_removeSolo_13 : decode cX7_removeSolo 13 = .ok (.aload_n 0, 1) := by decide +kernel
theorem dX7_removeSolo_14 : decode cX7_removeSolo 14 = .ok (.getfield 26, 3) := by decide +kernel
theorem dX7_removeSolo_17 : decode cX7_removeSolo 17 = .ok (.aload_n 0, 1) := by decide +kernel
theorem dX7_removeSolo_18 : decode cX7_removeSolo 18 = .ok (.getfield 10, 3) := by decide +kernel
theorem dX7_removeSolo_21 : decode cX7_removeSolo 21 = .ok (.invokevirtual 67, 3) := by decide +kernel
theorem dX7_removeSolo_24 : decode cX7_removeSolo 24 = .ok (.aload_n 0, 1) := by decide +kernel
theorem dX7_removeSolo_25 : decode cX7_removeSolo 25 = .ok (.getfield 10, 3) := by decide +kernel
theorem dX7_removeSolo_28 : decode cX7_removeSolo 28 = .ok (.iload_n 1, 1) := by decide +kernel
theorem dX7_removeSolo_29 : decode cX7_removeSolo 29 = .ok (.invokevirtual 144, 3) := by decide +kernel
theorem dX7_removeSolo_32 : decode cX7_removeSolo 32 = .ok (.aload_n 0, 1) := by decide +kernel
theorem dX7_removeSolo_33 : decode cX7_removeSolo 33 = .ok (.getfield 10, 3) := by decide +kernel
theorem dX7_removeSolo_36 : decode cX7_removeSolo 36 = .ok (.getfield 134, 3) := by decide +kernel
theorem dX7_removeSolo_39 : decode cX7_removeSolo 39 = .ok (.ireturn, 1) := by decide +kernel
set_option maxRecDepth 20000 in
theorem ggX7_mark_X4_hasSinger : GoodIn wsX7_mark wsX4_hasSinger := goodIn_r _ [8, 9, 98, 99, 100, 101, 102, 103, 104, 105, 106, 107, 108, 109, 110] (by decide +kernel) (by decide +kernel)
set_option maxRecDepth 20000 in
theorem gX7_mark_X4_hasSinger : GoodIn wsX7_mark (wsV RX7 115 RX4 yX4_hasSinger wsX4_hasSinger) := goodIn_app (goodIn_of _ (by decide +kernel)) ggX7_mark_X4_hasSinger
set_option maxRecDepth 20000 in
theorem ggX7_mark_X4_hasBeat : GoodIn wsX7_mark wsX4_hasBeat := goodIn_r _ [13, 14, 98, 99, 100, 101, 102, 103, 104, 105, 106, 107, 108, 109, 110] (by decide +kernel) (by decide +kernel)
set_option maxRecDepth 20000 in
theorem gX7_mark_X4_hasBeat : GoodIn wsX7_mark (wsV RX7 80 RX4 yX4_hasBeat wsX4_hasBeat) := goodIn_app (goodIn_of _ (by decide +kernel)) ggX7_mark_X4_hasBeat
set_option maxRecDepth 20000 in
theorem ggX7_mark_X4_isMarked : GoodIn wsX7_mark wsX4_isMarked := goodIn_r _ [18, 19, 20, 21, 22, 23, 24, 25, 26, 27, 28, 98, 99, 100, 101, 102, 103, 104, 105, 106, 107, 108, 109, 110, 111] (by decide +kernel) (by decide +kernel)
set_option maxRecDepth 20000 in
theorem gX7_mark_X4_isMarked : GoodIn wsX7_mark (wsV RX7 148 RX4 yX4_isMarked wsX4_isMarked) := goodIn_app (goodIn_of _ (by decide +kernel)) ggX7_mark_X4_isMarked
set_option maxRecDepth 20000 in
theorem ggX7_mark_X1_record : GoodIn wsX7_mark wsX1_record := goodIn_r _ [33, 34, 35, 36, 37, 7, 38, 39, 40, 32, 41, 42, 43, 44, 45, 46, 47, 48, 49, 23, 50, 51, 19, 52, 53, 54, 55, 56, 57, 58, 59, 60, 61, 62, 63, 64, 65, 66, 25, 67, 68, 69, 70, 14, 9, 71, 72, 73, 74, 75, 76, 77, 21, 22, 24, 112, 113, 98, 99, 100, 101, 102, 103, 104, 105, 106, 107, 108, 109, 110, 111] (by decide +kernel) (by decide +kernel)
set_option maxRecDepth 20000 in
theorem gX7_mark_X1_record : GoodIn wsX7_mark (wsV RX7 67 RX1 yX1_record wsX1_record) := goodIn_app (goodIn_of _ (by decide +kernel)) ggX7_mark_X1_record
set_option maxRecDepth 20000 in
theorem ggX7_mark_X2_at : GoodIn wsX7_mark wsX2_at := goodIn_r _ [24, 25, 111] (by decide +kernel) (by decide +kernel)
set_option maxRecDepth 20000 in
theorem gX7_mark_X2_at : GoodIn wsX7_mark (wsV RX7 104 RX2 yX2_at wsX2_at) := goodIn_app (goodIn_of _ (by decide +kernel)) ggX7_mark_X2_at
set_option maxRecDepth 20000 in
theorem ggX7_mark_X7_bit : GoodIn wsX7_mark wsX7_bit := goodIn_r _ [81] (by decide +kernel) (by decide +kernel)
set_option maxRecDepth 20000 in
theorem gX7_mark_X7_bit : GoodIn wsX7_mark (va_wsS RX7 124 yX7_bit wsX7_bit) := goodIn_app (goodIn_of _ (by decide +kernel)) ggX7_mark_X7_bit
set_option maxRecDepth 20000 in
theorem ggX7_mark_X2_put : GoodIn wsX7_mark wsX2_put := goodIn_r _ [85, 25, 111] (by decide +kernel) (by decide +kernel)
set_option maxRecDepth 20000 in
theorem gX7_mark_X2_put : GoodIn wsX7_mark (wsV RX7 92 RX2 yX2_put wsX2_put) := goodIn_app (goodIn_of _ (by decide +kernel)) ggX7_mark_X2_put
set_option maxRecDepth 20000 in
theorem ggX7_mark_X4_countMarksOf : GoodIn wsX7_mark wsX4_countMarksOf := goodIn_r _ [89, 14, 90, 16, 17, 7, 18, 19, 20, 21, 22, 23, 24, 25, 26, 27, 28, 98, 99, 100, 101, 102, 103, 104, 105, 106, 107, 108, 109, 110, 111] (by decide +kernel) (by decide +kernel)
set_option maxRecDepth 20000 in
theorem gX7_mark_X4_countMarksOf : GoodIn wsX7_mark (wsV RX7 154 RX4 yX4_countMarksOf wsX4_countMarksOf) := goodIn_app (goodIn_of _ (by decide +kernel)) ggX7_mark_X4_countMarksOf
theorem dX7_mark_0 : decode cX7_mark 0 = .ok (.aload_n 0, 1) := by decide +kernel
theorem dX7_mark_1 : decode cX7_mark 1 = .ok (.getfield 10, 3) := by decide +kernel
theorem dX7_mark_4 : decode cX7_mark 4 = .ok (.iload_n 1, 1) := by decide +kernel
theorem dX7_mark_5 : decode cX7_mark 5 = .ok (.invokevirtual 115, 3) := by decide +kernel
theorem dX7_mark_8 : decode cX7_mark 8 = .ok (.ifCond .eq 14, 3) := by decide +kernel
theorem dX7_mark_11 : decode cX7_mark 11 = .ok (.aload_n 0, 1) := by decide +kernel
theorem dX7_mark_12 : decode cX7_mark 12 = .ok (.getfield 10, 3) := by decide +kernel
theorem dX7_mark_15 : decode cX7_mark 15 = .ok (.iload_n 2, 1) := by decide +kernel
theorem dX7_mark_16 : decode cX7_mark 16 = .ok (.invokevirtual 80, 3) := by decide +kernel
theorem dX7_mark_19 : decode cX7_mark 19 = .ok (.ifCond .ne 5, 3) := by decide +kernel
theorem dX7_mark_22 : decode cX7_mark 22 = .ok (.iconst (-1), 1) := by decide +kernel
theorem dX7_mark_23 : decode cX7_mark 23 = .ok (.ireturn, 1) := by decide +kernel
theorem dX7_mark_24 : decode cX7_mark 24 = .ok (.aload_n 0, 1) := by decide +kernel
theorem dX7_mark_25 : decode cX7_mark 25 = .ok (.getfield 10, 3) := by decide +kernel
theorem dX7_mark_28 : decode cX7_mark 28 = .ok (.iload_n 1, 1) := by decide +kernel
theorem dX7_mark_29 : decode cX7_mark 29 = .ok (.iload_n 2, 1) := by decide +kernel
theorem dX7_mark_30 : decode cX7_mark 30 = .ok (.invokevirtual 148, 3) := by decide +kernel
theorem dX7_mark_33 : decode cX7_mark 33 = .ok (.iload_n 3, 1) := by decide +kernel
theorem dX7_mark_34 : decode cX7_mark 34 = .ok (.if_icmp .ne 6, 3) := by decide +kernel
theorem dX7_mark_37 : decode cX7_mark 37 = .ok (.bipush (-5), 2) := by decide +kernel
theorem dX7_mark_39 : decode cX7_mark 39 = .ok (.ireturn, 1) := by decide +kernel
theorem dX7_mark_40 : decode cX7_mark 40 = .ok (.aload_n 0, 1) := by decide +kernel
theorem dX7_mark_41 : decode cX7_mark 41 = .ok (.getfield 26, 3) := by decide +kernel
theorem dX7_mark_44 : decode cX7_mark 44 = .ok (.aload_n 0, 1) := by decide +kernel
theorem dX7_mark_45 : decode cX7_mark 45 = .ok (.getfield 10, 3) := by decide +kernel
theorem dX7_mark_48 : decode cX7_mark 48 = .ok (.invokevirtual 67, 3) := by decide +kernel
theorem dX7_mark_51 : decode cX7_mark 51 = .ok (.aload_n 0, 1) := by decide +kernel
theorem dX7_mark_52 : decode cX7_mark 52 = .ok (.getfield 10, 3) := by decide +kernel
theorem dX7_mark_55 : decode cX7_mark 55 = .ok (.getfield 151, 3) := by decide +kernel
theorem dX7_mark_58 : decode cX7_mark 58 = .ok (.iload_n 2, 1) := by decide +kernel
theorem dX7_mark_59 : decode cX7_mark 59 = .ok (.aload_n 0, 1) := by decide +kernel
theorem dX7_mark_60 : decode cX7_mark 60 = .ok (.getfield 10, 3) := by decide +kernel
theorem dX7_mark_63 : decode cX7_mark 63 = .ok (.getfield 151, 3) := by decide +kernel
theorem dX7_mark_66 : decode cX7_mark 66 = .ok (.iload_n 2, 1) := by decide +kernel
theorem dX7_mark_67 : decode cX7_mark 67 = .ok (.invokevirtual 104, 3) := by decide +kernel
theorem dX7_mark_70 : decode cX7_mark 70 = .ok (.iload_n 1, 1) := by decide +kernel
theorem dX7_mark_71 : decode cX7_mark 71 = .ok (.invokestatic 124, 3) := by decide +kernel
theorem dX7_mark_74 : decode cX7_mark 74 = .ok (.ixor, 1) := by decide +kernel
theorem dX7_mark_75 : decode cX7_mark 75 = .ok (.invokevirtual 92, 3) := by decide +kernel
theorem dX7_mark_78 : decode cX7_mark 78 = .ok (.aload_n 0, 1) := by decide +kernel
theorem dX7_mark_79 : decode cX7_mark 79 = .ok (.getfield 10, 3) := by decide +kernel
theorem dX7_mark_82 : decode cX7_mark 82 = .ok (.iload_n 1, 1) := by decide +kernel
theorem dX7_mark_83 : decode cX7_mark 83 = .ok (.invokevirtual 154, 3) := by decide +kernel
theorem dX7_mark_86 : decode cX7_mark 86 = .ok (.ireturn, 1) := by decide +kernel
set_option maxRecDepth 20000 in
theorem ggX7_setReserve_X7_isWithin : GoodIn wsX7_setReserve wsX7_isWithin := goodIn_r _ [7] (by decide +kernel) (by decide +kernel)
set_option maxRecDepth 20000 in
theorem gX7_setReserve_X7_isWithin : GoodIn wsX7_setReserve (va_wsS RX7 84 yX7_isWithin wsX7_isWithin) := goodIn_app (goodIn_of _ (by decide +kernel)) ggX7_setReserve_X7_isWithin
set_option maxRecDepth 20000 in
theorem ggX7_setReserve_X1_record : GoodIn wsX7_setReserve wsX1_record := goodIn_r _ [12, 13, 14, 15, 16, 17, 18, 19, 20, 11, 21, 22, 23, 24, 25, 26, 27, 28, 29, 30, 31, 32, 33, 34, 35, 36, 37, 38, 39, 40, 41, 42, 43, 44, 45, 46, 47, 48, 49, 50, 51, 52, 53, 54, 55, 56, 57, 58, 59, 60, 61, 62, 63, 64, 65, 86, 87, 73, 74, 75, 76, 77, 78, 79, 80, 81, 82, 83, 84, 85, 88] (by decide +kernel) (by decide +kernel)
set_option maxRecDepth 20000 in
theorem gX7_setReserve_X1_record : GoodIn wsX7_setReserve (wsV RX7 67 RX1 yX1_record wsX1_record) := goodIn_app (goodIn_of _ (by decide +kernel)) ggX7_setReserve_X1_record
theorem dX7_setReserve_0 : decode cX7_setReserve 0 = .ok (.iload_n 1, 1) := by decide +kernel
theorem dX7_setReserve_1 : decode cX7_setReserve 1 = .ok (.iconst 1, 1) := by decide +kernel
theorem dX7_setReserve_2 : decode cX7_setReserve 2 = .ok (.bipush 8, 2) := by decide +kernel
theorem dX7_setReserve_4 : decode cX7_setReserve 4 = .ok (.invokestatic 84, 3) := by decide +kernel
theorem dX7_setReserve_7 : decode cX7_setReserve 7 = .ok (.ifCond .ne 6, 3) := by decide +kernel
theorem dX7_setReserve_10 : decode cX7_setReserve 10 = .ok (.bipush (-2), 2) := by decide +kernel
theorem dX7_setReserve_12 : decode cX7_setReserve 12 = .ok (.ireturn, 1) := by decide +kernel
theorem dX7_setReserve_13 : decode cX7_setReserve 13 = .ok (.aload_n 0, 1) := by decide +kernel
theorem dX7_setReserve_14 : decode cX7_setReserve 14 = .ok (.getfield 26, 3) := by decide +kernel
theorem dX7_setReserve_17 : decode cX7_setReserve 17 = .ok (.aload_n 0, 1) := by decide +kernel
theorem dX7_setReserve_18 : decode cX7_setReserve 18 = .ok (.getfield 10, 3) := by decide +kernel
theorem dX7_setReserve_21 : decode cX7_setReserve 21 = .ok (.invokevirtual 67, 3) := by decide +kernel
theorem dX7_setReserve_24 : decode cX7_setReserve 24 = .ok (.aload_n 0, 1) := by decide +kernel
theorem dX7_setReserve_25 : decode cX7_setReserve 25 = .ok (.getfield 10, 3) := by decide +kernel
theorem dX7_setReserve_28 : decode cX7_setReserve 28 = .ok (.getfield 157, 3) := by decide +kernel
theorem dX7_setReserve_31 : decode cX7_setReserve 31 = .ok (.istore_n 2, 1) := by decide +kernel
theorem dX7_setReserve_32 : decode cX7_setReserve 32 = .ok (.aload_n 0, 1) := by decide +kernel
theorem dX7_setReserve_33 : decode cX7_setReserve 33 = .ok (.getfield 10, 3) := by decide +kernel
theorem dX7_setReserve_36 : decode cX7_setReserve 36 = .ok (.iload_n 1, 1) := by decide +kernel
theorem dX7_setReserve_37 : decode cX7_setReserve 37 = .ok (.putfield 157, 3) := by decide +kernel
theorem dX7_setReserve_40 : decode cX7_setReserve 40 = .ok (.iload_n 2, 1) := by decide +kernel
theorem dX7_setReserve_41 : decode cX7_setReserve 41 = .ok (.ireturn, 1) := by decide +kernel
set_option maxRecDepth 20000 in
theorem ggX7_make_X1_record : GoodIn wsX7_make wsX1_record := goodIn_r _ [10, 11, 12, 13, 14, 15, 16, 17, 18, 9, 19, 20, 21, 22, 23, 24, 25, 26, 27, 28, 29, 30, 31, 32, 33, 34, 35, 36, 37, 38, 39, 40, 41, 42, 43, 44, 45, 46, 47, 48, 49, 50, 51, 52, 53, 54, 55, 56, 57, 58, 59, 60, 61, 62, 63, 179, 180, 166, 167, 168, 169, 170, 171, 172, 173, 174, 175, 176, 177, 178, 181] (by decide +kernel) (by decide +kernel)
set_option maxRecDepth 20000 in
theorem gX7_make_X1_record : GoodIn wsX7_make (wsV RX7 67 RX1 yX1_record wsX1_record) := goodIn_app (goodIn_of _ (by decide +kernel)) ggX7_make_X1_record
set_option maxRecDepth 20000 in
theorem ggX7_make_X5_makePlan : GoodIn wsX7_make wsX5_makePlan := goodIn_r _ [68, 69, 70, 71, 72, 73, 74, 75, 28, 76, 47, 77, 57, 58, 59, 60, 61, 62, 63, 78, 79, 80, 15, 81, 29, 82, 83, 84, 85, 86, 55, 35, 36, 87, 88, 89, 67, 90, 91, 43, 44, 45, 92, 93, 94, 95, 96, 97, 98, 99, 100, 101, 102, 54, 103, 104, 105, 106, 107, 108, 109, 110, 111, 112, 113, 114, 115, 116, 117, 118, 119, 120, 121, 122, 123, 124, 125, 126, 127, 128, 129, 130, 131, 132, 133, 134, 135, 136, 137, 138, 139, 140, 141, 142, 143, 30, 144, 145, 146, 147, 34, 148, 149, 150, 151, 152, 153, 154, 31, 166, 167, 168, 169, 170, 171, 172, 173, 174, 175, 176, 177, 178, 182, 181] (by decide +kernel) (by decide +kernel)
set_option maxRecDepth 20000 in
theorem gX7_make_X5_makePlan : GoodIn wsX7_make (wsV RX7 160 RX5 yX5_makePlan wsX5_makePlan) := goodIn_app (goodIn_of _ (by decide +kernel)) ggX7_make_X5_makePlan
set_option maxRecDepth 20000 in
theorem ggX7_make_X4_countMarks : GoodIn wsX7_make wsX4_countMarks := goodIn_r _ [158, 52, 31, 82, 61, 62, 28, 63, 47, 103, 104, 105, 106, 107, 108, 109, 166, 167, 168, 169, 170, 171, 172, 173, 174, 175, 176, 177, 178, 181] (by decide +kernel) (by decide +kernel)
set_option maxRecDepth 20000 in
theorem gX7_make_X4_countMarks : GoodIn wsX7_make (wsV RX7 163 RX4 yX4_countMarks wsX4_countMarks) := goodIn_app (goodIn_of _ (by decide +kernel)) ggX7_make_X4_countMarks
theorem dX7_make_0 : decode cX7_make 0 = .ok (.aload_n 0, 1) := by decide +kernel
theorem dX7_make_1 : decode cX7_make 1 = .ok (.getfield 10, 3) := by decide +kernel
theorem dX7_make_4 : decode cX7_make 4 = .ok (.getfield 121, 3) := by decide +kernel
theorem dX7_make_7 : decode cX7_make 7 = .ok (.ifCond .eq 13, 3) := by decide +kernel
theorem dX7_make_10 : decode cX7_make 10 = .ok (.aload_n 0, 1) := by decide +kernel
theorem dX7_make_11 : decode cX7_make 11 = .ok (.getfield 10, 3) := by decide +kernel
theorem dX7_make_14 : decode cX7_make 14 = .ok (.getfield 77, 3) := by decide +kernel
theorem dX7_make_17 : decode cX7_make 17 = .ok (.ifCond .ne 6, 3) := by decide +kernel
theorem dX7_make_20 : decode cX7_make 20 = .ok (.bipush (-4), 2) := by decide +kernel
theorem dX7_make_22 : decode cX7_make 22 = .ok (.ireturn, 1) := by decide +kernel
theorem dX7_make_23 : decode cX7_make 23 = .ok (.aload_n 0, 1) := by decide +kernel
theorem dX7_make_24 : decode cX7_make 24 = .ok (.getfield 26, 3) := by decide +kernel
theorem dX7_make_27 : decode cX7_make 27 = .ok (.aload_n 0, 1) := by decide +kernel
theorem dX7_make_28 : decode cX7_make 28 = .ok (.getfield 10, 3) := by decide +kernel
theorem dX7_make_31 : decode cX7_make 31 = .ok (.invokevirtual 67, 3) := by decide +kernel
theorem dX7_make_34 : decode cX7_make 34 = .ok (.aload_n 0, 1) := by decide +kernel
theorem dX7_make_35 : decode cX7_make 35 = .ok (.getfield 51, 3) := by decide +kernel
theorem dX7_make_38 : decode cX7_make 38 = .ok (.aload_n 0, 1) := by decide +kernel
theorem dX7_make_39 : decode cX7_make 39 = .ok (.getfield 10, 3) := by decide +kernel
theorem dX7_make_42 : decode cX7_make 42 = .ok (.invokevirtual 160, 3) := by decide +kernel
theorem dX7_make_45 : decode cX7_make 45 = .ok (.aload_n 0, 1) := by decide +kernel
theorem dX7_make_46 : decode cX7_make 46 = .ok (.getfield 10, 3) := by decide +kernel
theorem dX7_make_49 : decode cX7_make 49 = .ok (.invokevirtual 163, 3) := by decide +kernel
theorem dX7_make_52 : decode cX7_make 52 = .ok (.ireturn, 1) := by decide +kernel
set_option maxRecDepth 20000 in
theorem ggX7_undo_X1_takeBack : GoodIn wsX7_undo wsX1_takeBack := goodIn_r _ [8, 9, 10, 11, 12, 13, 14, 15, 16, 17, 18, 19, 20, 21, 22, 23, 24, 25, 26, 27, 28, 29, 30, 31, 32, 33, 34, 35, 36, 37, 38, 46, 47, 48, 49, 50, 51, 52, 53, 54, 55, 56, 57, 58, 59, 60, 61] (by decide +kernel) (by decide +kernel)
set_option maxRecDepth 20000 in
theorem gX7_undo_X1_takeBack : GoodIn wsX7_undo (wsV RX7 169 RX1 yX1_takeBack wsX1_takeBack) := goodIn_app (goodIn_of _ (by decide +kernel)) ggX7_undo_X1_takeBack
theorem dX7_undo_0 : decode cX7_undo 0 = .ok (.aload_n 0, 1) := by decide +kernel
theorem dX7_undo_1 : decode cX7_undo 1 = .ok (.getfield 26, 3) := by decide +kernel
theorem dX7_undo_4 : decode cX7_undo 4 = .ok (.getfield 166, 3) := by decide +kernel
theorem dX7_undo_7 : decode cX7_undo 7 = .ok (.ifCond .ne 6, 3) := by decide +kernel
theorem dX7_undo_10 : decode cX7_undo 10 = .ok (.bipush (-5), 2) := by decide +kernel
theorem dX7_undo_12 : decode cX7_undo 12 = .ok (.ireturn, 1) := by decide +kernel
theorem dX7_undo_13 : decode cX7_undo 13 = .ok (.aload_n 0, 1) := by decide +kernel
theorem dX7_undo_14 : decode cX7_undo 14 = .ok (.getfield 26, 3) := by decide +kernel
theorem dX7_undo_17 : decode cX7_undo 17 = .ok (.aload_n 0, 1) := by decide +kernel
theorem dX7_undo_18 : decode cX7_undo 18 = .ok (.getfield 10, 3) := by decide +kernel
theorem dX7_undo_21 : decode cX7_undo 21 = .ok (.invokevirtual 169, 3) := by decide +kernel
theorem dX7_undo_24 : decode cX7_undo 24 = .ok (.aload_n 0, 1) := by decide +kernel
theorem dX7_undo_25 : decode cX7_undo 25 = .ok (.getfield 26, 3) := by decide +kernel
theorem dX7_undo_28 : decode cX7_undo 28 = .ok (.getfield 166, 3) := by decide +kernel
theorem dX7_undo_31 : decode cX7_undo 31 = .ok (.ireturn, 1) := by decide +kernel
set_option maxRecDepth 20000 in
theorem ggX7_keep_X4_init : GoodIn wsX7_keep wsX4_init := goodIn_r _ [9, 10, 11, 12, 13, 14, 15, 16, 17, 18, 19, 20, 21, 22, 23, 24, 25, 26, 27, 28, 29, 30, 31, 32, 33, 34, 71, 58, 59, 60, 61, 62, 63, 64, 65, 66, 67, 68, 69, 70] (by decide +kernel) (by decide +kernel)
set_option maxRecDepth 20000 in
theorem gX7_keep_X4_init : GoodIn wsX7_keep (wsX4_init) := ggX7_keep_X4_init
set_option maxRecDepth 20000 in
theorem ggX7_keep_X4_copyFrom : GoodIn wsX7_keep wsX4_copyFrom := goodIn_r _ [38, 39, 40, 41, 42, 24, 16, 17, 18, 19, 20, 21, 22, 23, 43, 44, 45, 15, 46, 34, 47, 48, 49, 50, 58, 59, 60, 61, 62, 63, 64, 65, 66, 67, 68, 69, 70, 71] (by decide +kernel) (by decide +kernel)
set_option maxRecDepth 20000 in
theorem gX7_keep_X4_copyFrom : GoodIn wsX7_keep (wsV RX7 172 RX4 yX4_copyFrom wsX4_copyFrom) := goodIn_app (goodIn_of _ (by decide +kernel)) ggX7_keep_X4_copyFrom
theorem dX7_keep_0 : decode cX7_keep 0 = .ok (.iload_n 1, 1) := by decide +kernel
theorem dX7_keep_1 : decode cX7_keep 1 = .ok (.ifCond .lt 12, 3) := by decide +kernel
theorem dX7_keep_4 : decode cX7_keep 4 = .ok (.iload_n 1, 1) := by decide +kernel
theorem dX7_keep_5 : decode cX7_keep 5 = .ok (.aload_n 0, 1) := by decide +kernel
theorem dX7_keep_6 : decode cX7_keep 6 = .ok (.getfield 30, 3) := by decide +kernel
theorem dX7_keep_9 : decode cX7_keep 9 = .ok (.arraylength, 1) := by decide +kernel
theorem dX7_keep_10 : decode cX7_keep 10 = .ok (.if_icmp .lt 5, 3) := by decide +kernel
theorem dX7_keep_13 : decode cX7_keep 13 = .ok (.iconst (-1), 1) := by decide +kernel
theorem dX7_keep_14 : decode cX7_keep 14 = .ok (.ireturn, 1) := by decide +kernel
theorem dX7_keep_15 : decode cX7_keep 15 = .ok (.aload_n 0, 1) := by decide +kernel
theorem dX7_keep_16 : decode cX7_keep 16 = .ok (.getfield 30, 3) := by decide +kernel
theorem dX7_keep_19 : decode cX7_keep 19 = .ok (.iload_n 1, 1) := by decide +kernel
theorem dX7_keep_20 : decode cX7_keep 20 = .ok (.aaload, 1) := by decide +kernel
theorem dX7_keep_21 : decode cX7_keep 21 = .ok (.astore_n 2, 1) := by decide +kernel
theorem dX7_keep_22 : decode cX7_keep 22 = .ok (.aload_n 2, 1) := by decide +kernel
theorem dX7_keep_23 : decode cX7_keep 23 = .ok (.ifnonnull 18, 3) := by decide +kernel
theorem dX7_keep_26 : decode cX7_keep 26 = .ok (.new 7, 3) := by decide +kernel
theorem dX7_keep_29 : decode cX7_keep 29 = .ok (.dup, 1) := by decide +kernel
theorem dX7_keep_30 : decode cX7_keep 30 = .ok (.invokespecial 9, 3) := by decide +kernel
theorem dX7_keep_33 : decode cX7_keep 33 = .ok (.astore_n 2, 1) := by decide +kernel
theorem dX7_keep_34 : decode cX7_keep 34 = .ok (.aload_n 0, 1) := by decide +kernel
theorem dX7_keep_35 : decode cX7_keep 35 = .ok (.getfield 30, 3) := by decide +kernel
theorem dX7_keep_38 : decode cX7_keep 38 = .ok (.iload_n 1, 1) := by decide +kernel
theorem dX7_keep_39 : decode cX7_keep 39 = .ok (.aload_n 2, 1) := by decide +kernel
theorem dX7_keep_40 : decode cX7_keep 40 = .ok (.aastore, 1) := by decide +kernel
theorem dX7_keep_41 : decode cX7_keep 41 = .ok (.aload_n 2, 1) := by decide +kernel
theorem dX7_keep_42 : decode cX7_keep 42 = .ok (.aload_n 0, 1) := by decide +kernel
theorem dX7_keep_43 : decode cX7_keep 43 = .ok (.getfield 10, 3) := by decide +kernel
theorem dX7_keep_46 : decode cX7_keep 46 = .ok (.invokevirtual 172, 3) := by decide +kernel
theorem dX7_keep_49 : decode cX7_keep 49 = .ok (.aload_n 0, 1) := by decide +kernel
theorem dX7_keep_50 : decode cX7_keep 50 = .ok (.getfield 10, 3) := by decide +kernel
theorem dX7_keep_53 : decode cX7_keep 53 = .ok (.getfield 77, 3) := by decide +kernel
theorem dX7_keep_56 : decode cX7_keep 56 = .ok (.ireturn, 1) := by decide +kernel
set_option maxRecDepth 20000 in
theorem ggX7_restore_X1_record : GoodIn wsX7_restore wsX1_record := goodIn_r _ [9, 10, 11, 12, 13, 14, 15, 16, 17, 8, 18, 19, 20, 21, 22, 23, 24, 25, 26, 27, 28, 29, 30, 31, 32, 33, 34, 35, 36, 37, 38, 39, 40, 41, 42, 43, 44, 45, 46, 47, 48, 49, 50, 51, 52, 53, 54, 55, 56, 57, 58, 59, 60, 61, 62, 84, 85, 71, 72, 73, 74, 75, 76, 77, 78, 79, 80, 81, 82, 83, 86] (by decide +kernel) (by decide +kernel)
set_option maxRecDepth 20000 in
theorem gX7_restore_X1_record : GoodIn wsX7_restore (wsV RX7 67 RX1 yX1_record wsX1_record) := goodIn_app (goodIn_of _ (by decide +kernel)) ggX7_restore_X1_record
set_option maxRecDepth 20000 in
theorem ggX7_restore_X4_copyFrom : GoodIn wsX7_restore wsX4_copyFrom := goodIn_r _ [50, 51, 52, 53, 54, 36, 28, 29, 30, 31, 32, 33, 34, 35, 55, 56, 57, 27, 58, 46, 59, 60, 61, 62, 71, 72, 73, 74, 75, 76, 77, 78, 79, 80, 81, 82, 83, 86] (by decide +kernel) (by decide +kernel)
set_option maxRecDepth 20000 in
theorem gX7_restore_X4_copyFrom : GoodIn wsX7_restore (wsV RX7 172 RX4 yX4_copyFrom wsX4_copyFrom) := goodIn_app (goodIn_of _ (by decide +kernel)) ggX7_restore_X4_copyFrom
theorem dX7_restore_0 : decode cX7_restore 0 = .ok (.iload_n 1, 1) := by decide +kernel
theorem dX7_restore_1 : decode cX7_restore 1 = .ok (.ifCond .lt 12, 3) := by decide +kernel
theorem dX7_restore_4 : decode cX7_restore 4 = .ok (.iload_n 1, 1) := by decide +kernel
theorem dX7_restore_5 : decode cX7_restore 5 = .ok (.aload_n 0, 1) := by decide +kernel
theorem dX7_restore_6 : decode cX7_restore 6 = .ok (.getfield 30, 3) := by decide +kernel
theorem dX7_restore_9 : decode cX7_restore 9 = .ok (.arraylength, 1) := by decide +kernel
theorem dX7_restore_10 : decode cX7_restore 10 = .ok (.if_icmp .lt 5, 3) := by decide +kernel
theorem dX7_restore_13 : decode cX7_restore 13 = .ok (.iconst (-1), 1) := by decide +kernel
theorem dX7_restore_14 : decode cX7_restore 14 = .ok (.ireturn, 1) := by decide +kernel
theorem dX7_restore_15 : decode cX7_restore 15 = .ok (.aload_n 0, 1) := by decide +kernel
theorem dX7_restore_16 : decode cX7_restore 16 = .ok (.getfield 30, 3) := by decide +kernel
theorem dX7_restore_19 : decode cX7_restore 19 = .ok (.iload_n 1, 1) := by decide +kernel
theorem dX7_restore_20 : decode cX7_restore 20 = .ok (.aaload, 1) := by decide +kernel
theorem dX7_restore_21 : decode cX7_restore 21 = .ok (.astore_n 2, 1) := by decide +kernel
theorem dX7_restore_22 : decode cX7_restore 22 = .ok (.aload_n 2, 1) := by decide +kernel
theorem dX7_restore_23 : decode cX7_restore 23 = .ok (.ifnonnull 6, 3) := by decide +kernel
theorem dX7_restore_26 : decode cX7_restore 26 = .ok (.bipush (-5), 2) := by decide +kernel
theorem dX7_restore_28 : decode cX7_restore 28 = .ok (.ireturn, 1) := by decide +kernel
theorem dX7_restore_29 : decode cX7_restore 29 = .ok (.aload_n 0, 1) := by decide +kernel
theorem dX7_restore_30 : decode cX7_restore 30 = .ok (.getfield 26, 3) := by decide +kernel
theorem dX7_restore_33 : decode cX7_restore 33 = .ok (.aload_n 0, 1) := by decide +kernel
theorem dX7_restore_34 : decode cX7_restore 34 = .ok (.getfield 10, 3) := by decide +kernel
theorem dX7_restore_37 : decode cX7_restore 37 = .ok (.invokevirtual 67, 3) := by decide +kernel
theorem dX7_restore_40 : decode cX7_restore 40 = .ok (.aload_n 0, 1) := by decide +kernel
theorem dX7_restore_41 : decode cX7_restore 41 = .ok (.getfield 10, 3) := by decide +kernel
theorem dX7_restore_44 : decode cX7_restore 44 = .ok (.aload_n 2, 1) := by decide +kernel
theorem dX7_restore_45 : decode cX7_restore 45 = .ok (.invokevirtual 172, 3) := by decide +kernel
theorem dX7_restore_48 : decode cX7_restore 48 = .ok (.aload_n 0, 1) := by decide +kernel
theorem dX7_restore_49 : decode cX7_restore 49 = .ok (.getfield 10, 3) := by decide +kernel
theorem dX7_restore_52 : decode cX7_restore 52 = .ok (.getfield 77, 3) := by decide +kernel
theorem dX7_restore_55 : decode cX7_restore 55 = .ok (.ireturn, 1) := by decide +kernel
set_option maxRecDepth 20000 in
theorem ggX7_beat_X4_hasBeat : GoodIn wsX7_beat wsX4_hasBeat := goodIn_r _ [10, 11, 125, 126, 127, 128, 129, 130, 131, 132, 133, 134, 135, 136, 137] (by decide +kernel) (by decide +kernel)
set_option maxRecDepth 20000 in
theorem gX7_beat_X4_hasBeat : GoodIn wsX7_beat (wsV RX7 80 RX4 yX4_hasBeat wsX4_hasBeat) := goodIn_app (goodIn_of _ (by decide +kernel)) ggX7_beat_X4_hasBeat
set_option maxRecDepth 20000 in
theorem ggX7_beat_X2_at : GoodIn wsX7_beat wsX2_at := goodIn_r _ [16, 17, 138] (by decide +kernel) (by decide +kernel)
set_option maxRecDepth 20000 in
theorem gX7_beat_X2_at : GoodIn wsX7_beat (wsV RX7 104 RX2 yX2_at wsX2_at) := goodIn_app (goodIn_of _ (by decide +kernel)) ggX7_beat_X2_at
set_option maxRecDepth 20000 in
theorem ggX7_beat_X4_firstOfSyllable : GoodIn wsX7_beat wsX4_firstOfSyllable := goodIn_r _ [21, 22, 23, 24, 25, 9, 26, 27, 13, 14, 15, 16, 17, 125, 126, 127, 128, 129, 130, 131, 132, 133, 134, 135, 136, 137, 138] (by decide +kernel) (by decide +kernel)
set_option maxRecDepth 20000 in
theorem gX7_beat_X4_firstOfSyllable : GoodIn wsX7_beat (wsV RX7 175 RX4 yX4_firstOfSyllable wsX4_firstOfSyllable) := goodIn_app (goodIn_of _ (by decide +kernel)) ggX7_beat_X4_firstOfSyllable
set_option maxRecDepth 20000 in
theorem ggX7_beat_X4_soloAt : GoodIn wsX7_beat wsX4_soloAt := goodIn_r _ [31, 32, 33, 34, 27, 13, 14, 15, 16, 17, 125, 126, 127, 128, 129, 130, 131, 132, 133, 134, 135, 136, 137, 138] (by decide +kernel) (by decide +kernel)
set_option maxRecDepth 20000 in
theorem gX7_beat_X4_soloAt : GoodIn wsX7_beat (wsV RX7 178 RX4 yX4_soloAt wsX4_soloAt) := goodIn_app (goodIn_of _ (by decide +kernel)) ggX7_beat_X4_soloAt
set_option maxRecDepth 20000 in
theorem ggX7_beat_X0_follow : GoodIn wsX7_beat wsX0_follow := goodIn_r _ [39, 40, 41, 42, 43, 44, 45, 46, 47, 48, 49, 15, 50, 17, 51, 13, 14, 16, 52, 53, 54, 55, 56, 57, 58, 59, 60, 61, 62, 63, 64, 65, 66, 67, 68, 69, 70, 71, 9, 72, 73, 74, 75, 76, 77, 78, 23, 24, 25, 26, 22, 27, 79, 80, 81, 82, 83, 84, 85, 86, 87, 29, 30, 31, 32, 33, 34, 88, 89, 90, 91, 92, 93, 94, 95, 96, 97, 98, 99, 38, 100, 101, 102, 103, 139, 140, 141, 125, 126, 127, 128, 129, 130, 131, 132, 133, 134, 135, 136, 137, 142, 143, 144, 145, 138] (by decide +kernel) (by decide +kernel)
set_option maxRecDepth 20000 in
theorem gX7_beat_X0_follow : GoodIn wsX7_beat (wsV RX7 181 RX0 yX0_follow wsX0_follow) := goodIn_app (goodIn_of _ (by decide +kernel)) ggX7_beat_X0_follow
set_option maxRecDepth 20000 in
theorem ggX7_beat_X7_performed : GoodIn wsX7_beat wsX7_performed := goodIn_r _ [107, 4, 108, 109, 110, 1, 3, 12, 13, 14, 15, 16, 17, 111, 112, 113, 114, 115, 116, 117, 118, 119, 120, 121, 122, 123, 124, 139, 140, 141, 125, 126, 127, 128, 129, 130, 131, 132, 133, 134, 135, 136, 137, 138] (by decide +kernel) (by decide +kernel)
set_option maxRecDepth 20000 in
theorem gX7_beat_X7_performed : GoodIn wsX7_beat (wsV RX7 185 RX7 yX7_performed wsX7_performed) := goodIn_app (goodIn_of _ (by decide +kernel)) ggX7_beat_X7_performed
theorem dX7_beat_0 : decode cX7_beat 0 = .ok (.aload_n 0, 1) := by decide +kernel
theorem dX7_beat_1 : decode cX7_beat 1 = .ok (.getfield 10, 3) := by decide +kernel
theorem dX7_beat_4 : decode cX7_beat 4 = .ok (.iload_n 1, 1) := by decide +kernel
theorem dX7_beat_5 : decode cX7_beat 5 = .ok (.invokevirtual 80, 3) := by decide +kernel
theorem dX7_beat_8 : decode cX7_beat 8 = .ok (.ifCond .ne 5, 3) := by decide +kernel
theorem dX7_beat_11 : decode cX7_beat 11 = .ok (.iconst (-1), 1) := by decide +kernel
theorem dX7_beat_12 : decode cX7_beat 12 = .ok (.ireturn, 1) := by decide +kernel
theorem dX7_beat_13 : decode cX7_beat 13 = .ok (.iload_n 2, 1) := by decide +kernel
theorem dX7_beat_14 : decode cX7_beat 14 = .ok (.tableswitch 76 0 4 #[34, 46, 58, 76, 67], 34) := by decide +kernel
theorem dX7_beat_48 : decode cX7_beat 48 = .ok (.aload_n 0, 1) := by decide +kernel
theorem dX7_beat_49 : decode cX7_beat 49 = .ok (.getfield 10, 3) := by decide +kernel
theorem dX7_beat_52 : decode cX7_beat 52 = .ok (.getfield 101, 3) := by decide +kernel
theorem dX7_beat_55 : decode cX7_beat 55 = .ok (.iload_n 1, 1) := by decide +kernel
theorem dX7_beat_56 : decode cX7_beat 56 = .ok (.invokevirtual 104, 3) := by decide +kernel
theorem dX7_beat_59 : decode cX7_beat 59 = .ok (.ireturn, 1) := by decide +kernel
theorem dX7_beat_60 : decode cX7_beat 60 = .ok (.aload_n 0, 1) := by decide +kernel
theorem dX7_beat_61 : decode cX7_beat 61 = .ok (.getfield 10, 3) := by decide +kernel
theorem dX7_beat_64 : decode cX7_beat 64 = .ok (.getfield 88, 3) := by decide +kernel
theorem dX7_beat_67 : decode cX7_beat 67 = .ok (.iload_n 1, 1) := by decide +kernel
theorem dX7_beat_68 : decode cX7_beat 68 = .ok (.invokevirtual 104, 3) := by decide +kernel
theorem dX7_beat_71 : decode cX7_beat 71 = .ok (.ireturn, 1) := by decide +kernel
theorem dX7_beat_72 : decode cX7_beat 72 = .ok (.aload_n 0, 1) := by decide +kernel
theorem dX7_beat_73 : decode cX7_beat 73 = .ok (.getfield 10, 3) := by decide +kernel
theorem dX7_beat_76 : decode cX7_beat 76 = .ok (.iload_n 1, 1) := by decide +kernel
theorem dX7_beat_77 : decode cX7_beat 77 = .ok (.invokevirtual 175, 3) := by decide +kernel
theorem dX7_beat_80 : decode cX7_beat 80 = .ok (.ireturn, 1) := by decide +kernel
theorem dX7_beat_81 : decode cX7_beat 81 = .ok (.aload_n 0, 1) := by decide +kernel
theorem dX7_beat_82 : decode cX7_beat 82 = .ok (.getfield 10, 3) := by decide +kernel
theorem dX7_beat_85 : decode cX7_beat 85 = .ok (.iload_n 1, 1) := by decide +kernel
theorem dX7_beat_86 : decode cX7_beat 86 = .ok (.invokevirtual 178, 3) := by decide +kernel
theorem dX7_beat_89 : decode cX7_beat 89 = .ok (.ireturn, 1) := by decide +kernel
theorem dX7_beat_90 : decode cX7_beat 90 = .ok (.aload_n 0, 1) := by decide +kernel
theorem dX7_beat_91 : decode cX7_beat 91 = .ok (.getfield 44, 3) := by decide +kernel
theorem dX7_beat_94 : decode cX7_beat 94 = .ok (.aload_n 0, 1) := by decide +kernel
theorem dX7_beat_95 : decode cX7_beat 95 = .ok (.getfield 10, 3) := by decide +kernel
theorem dX7_beat_98 : decode cX7_beat 98 = .ok (.aload_n 0, 1) := by decide +kernel
theorem dX7_beat_99 : decode cX7_beat 99 = .ok (.getfield 37, 3) := by decide +kernel
theorem dX7_beat_102 : decode cX7_beat 102 = .ok (.invokevirtual 181, 3) := by decide +kernel
theorem dX7_beat_105 : decode cX7_beat 105 = .ok (.aload_n 0, 1) := by decide +kernel
theorem dX7_beat_106 : decode cX7_beat 106 = .ok (.iload_n 1, 1) := by decide +kernel
theorem dX7_beat_107 : decode cX7_beat 107 = .ok (.iload_n 2, 1) := by decide +kernel
theorem dX7_beat_108 : decode cX7_beat 108 = .ok (.invokevirtual 185, 3) := by decide +kernel
theorem dX7_beat_111 : decode cX7_beat 111 = .ok (.ireturn, 1) := by decide +kernel
set_option maxRecDepth 20000 in
theorem ggX7_singer_X4_hasSinger : GoodIn wsX7_singer wsX4_hasSinger := goodIn_r _ [9, 10, 106, 107, 108, 109, 110, 111, 112, 113, 114, 115, 116, 117, 118] (by decide +kernel) (by decide +kernel)
set_option maxRecDepth 20000 in
theorem gX7_singer_X4_hasSinger : GoodIn wsX7_singer (wsV RX7 115 RX4 yX4_hasSinger wsX4_hasSinger) := goodIn_app (goodIn_of _ (by decide +kernel)) ggX7_singer_X4_hasSinger
set_option maxRecDepth 20000 in
theorem ggX7_singer_X2_at : GoodIn wsX7_singer wsX2_at := goodIn_r _ [15, 16, 119] (by decide +kernel) (by decide +kernel)
set_option maxRecDepth 20000 in
theorem gX7_singer_X2_at : GoodIn wsX7_singer (wsV RX7 104 RX2 yX2_at wsX2_at) := goodIn_app (goodIn_of _ (by decide +kernel)) ggX7_singer_X2_at
set_option maxRecDepth 20000 in
theorem ggX7_singer_X4_isPresent : GoodIn wsX7_singer wsX4_isPresent := goodIn_r _ [20, 21, 22, 23, 24, 106, 107, 108, 109, 110, 111, 112, 113, 114, 115, 116, 117, 118] (by decide +kernel) (by decide +kernel)
set_option maxRecDepth 20000 in
theorem gX7_singer_X4_isPresent : GoodIn wsX7_singer (wsV RX7 118 RX4 yX4_isPresent wsX4_isPresent) := goodIn_app (goodIn_of _ (by decide +kernel)) ggX7_singer_X4_isPresent
set_option maxRecDepth 20000 in
theorem ggX7_singer_X4_countMarksOf : GoodIn wsX7_singer wsX4_countMarksOf := goodIn_r _ [28, 29, 30, 31, 32, 8, 33, 34, 35, 12, 13, 14, 15, 16, 22, 23, 24, 106, 107, 108, 109, 110, 111, 112, 113, 114, 115, 116, 117, 118, 119] (by decide +kernel) (by decide +kernel)
set_option maxRecDepth 20000 in
theorem gX7_singer_X4_countMarksOf : GoodIn wsX7_singer (wsV RX7 154 RX4 yX4_countMarksOf wsX4_countMarksOf) := goodIn_app (goodIn_of _ (by decide +kernel)) ggX7_singer_X4_countMarksOf
set_option maxRecDepth 20000 in
theorem ggX7_singer_X6_follow : GoodIn wsX7_singer wsX6_follow := goodIn_r _ [40, 41, 42, 43, 44, 45, 46, 47, 48, 49, 50, 51, 52, 12, 13, 14, 15, 16, 53, 54, 55, 8, 56, 57, 58, 59, 60, 61, 62, 63, 64, 65, 66, 67, 35, 68, 18, 19, 20, 21, 22, 23, 24, 69, 70, 71, 72, 73, 74, 75, 30, 31, 32, 33, 34, 76, 77, 78, 79, 106, 107, 108, 109, 110, 111, 112, 113, 114, 115, 116, 117, 118, 120, 121, 122, 123, 119] (by decide +kernel) (by decide +kernel)
set_option maxRecDepth 20000 in
theorem gX7_singer_X6_follow : GoodIn wsX7_singer (wsV RX7 194 RX6 yX6_follow wsX6_follow) := goodIn_app (goodIn_of _ (by decide +kernel)) ggX7_singer_X6_follow
set_option maxRecDepth 20000 in
theorem ggX7_singer_X7_performedBy : GoodIn wsX7_singer wsX7_performedBy := goodIn_r _ [83, 4, 84, 85, 86, 39, 87, 42, 50, 52, 12, 13, 14, 15, 16, 88, 89, 90, 91, 43, 51, 46, 47, 48, 49, 92, 93, 94, 95, 96, 97, 98, 99, 100, 101, 102, 103, 104, 105, 120, 121, 122, 123, 119] (by decide +kernel) (by decide +kernel)
set_option maxRecDepth 20000 in
theorem gX7_singer_X7_performedBy : GoodIn wsX7_singer (wsV RX7 197 RX7 yX7_performedBy wsX7_performedBy) := goodIn_app (goodIn_of _ (by decide +kernel)) ggX7_singer_X7_performedBy
theorem dX7_singer_0 : decode cX7_singer 0 = .ok (.aload_n 0, 1) := by decide +kernel
theorem dX7_singer_1 : decode cX7_singer 1 = .ok (.getfield 10, 3) := by decide +kernel
theorem dX7_singer_4 : decode cX7_singer 4 = .ok (.iload_n 1, 1) := by decide +kernel
theorem dX7_singer_5 : decode cX7_singer 5 = .ok (.invokevirtual 115, 3) := by decide +kernel
theorem dX7_singer_8 : decode cX7_singer 8 = .ok (.ifCond .ne 5, 3) := by decide +kernel
theorem dX7_singer_11 : decode cX7_singer 11 = .ok (.iconst (-1), 1) := by decide +kernel
theorem dX7_singer_12 : decode cX7_singer 12 = .ok (.ireturn, 1) := by decide +kernel
theorem dX7_singer_13 : decode cX7_singer 13 = .ok (.iload_n 2, 1) := by decide +kernel
theorem dX7_singer_14 : decode cX7_singer 14 = .ok (.tableswitch 80 0 3 #[30, 42, 54, 71], 30) := by decide +kernel
theorem dX7_singer_44 : decode cX7_singer 44 = .ok (.aload_n 0, 1) := by decide +kernel
theorem dX7_singer_45 : decode cX7_singer 45 = .ok (.getfield 10, 3) := by decide +kernel
theorem dX7_singer_48 : decode cX7_singer 48 = .ok (.getfield 188, 3) := by decide +kernel
theorem dX7_singer_51 : decode cX7_singer 51 = .ok (.iload_n 1, 1) := by decide +kernel
theorem dX7_singer_52 : decode cX7_singer 52 = .ok (.invokevirtual 104, 3) := by decide +kernel
theorem dX7_singer_55 : decode cX7_singer 55 = .ok (.ireturn, 1) := by decide +kernel
theorem dX7_singer_56 : decode cX7_singer 56 = .ok (.aload_n 0, 1) := by decide +kernel
theorem dX7_singer_57 : decode cX7_singer 57 = .ok (.getfield 10, 3) := by decide +kernel
theorem dX7_singer_60 : decode cX7_singer 60 = .ok (.getfield 191, 3) := by decide +kernel
theorem dX7_singer_63 : decode cX7_singer 63 = .ok (.iload_n 1, 1) := by decide +kernel
theorem dX7_singer_64 : decode cX7_singer 64 = .ok (.invokevirtual 104, 3) := by decide +kernel
theorem dX7_singer_67 : decode cX7_singer 67 = .ok (.ireturn, 1) := by decide +kernel
theorem dX7_singer_68 : decode cX7_singer 68 = .ok (.aload_n 0, 1) := by decide +kernel
theorem dX7_singer_69 : decode cX7_singer 69 = .ok (.getfield 10, 3) := by decide +kernel
theorem dX7_singer_72 : decode cX7_singer 72 = .ok (.iload_n 1, 1) := by decide +kernel
theorem dX7_singer_73 : decode cX7_singer 73 = .ok (.invokevirtual 118, 3) := by decide +kernel
theorem dX7_singer_76 : decode cX7_singer 76 = .ok (.ifCond .eq 7, 3) := by decide +kernel
theorem dX7_singer_79 : decode cX7_singer 79 = .ok (.iconst 1, 1) := by decide +kernel
theorem dX7_singer_80 : decode cX7_singer 80 = .ok (.goto 4, 3) := by decide +kernel
theorem dX7_singer_83 : decode cX7_singer 83 = .ok (.iconst 0, 1) := by decide +kernel
theorem dX7_singer_84 : decode cX7_singer 84 = .ok (.ireturn, 1) := by decide +kernel
theorem dX7_singer_85 : decode cX7_singer 85 = .ok (.aload_n 0, 1) := by decide +kernel
theorem dX7_singer_86 : decode cX7_singer 86 = .ok (.getfield 10, 3) := by decide +kernel
theorem dX7_singer_89 : decode cX7_singer 89 = .ok (.iload_n 1, 1) := by decide +kernel
theorem dX7_singer_90 : decode cX7_singer 90 = .ok (.invokevirtual 154, 3) := by decide +kernel
theorem dX7_singer_93 : decode cX7_singer 93 = .ok (.ireturn, 1) := by decide +kernel
theorem dX7_singer_94 : decode cX7_singer 94 = .ok (.aload_n 0, 1) := by decide +kernel
theorem dX7_singer_95 : decode cX7_singer 95 = .ok (.getfield 37, 3) := by decide +kernel
theorem dX7_singer_98 : decode cX7_singer 98 = .ok (.aload_n 0, 1) := by decide +kernel
theorem dX7_singer_99 : decode cX7_singer 99 = .ok (.getfield 10, 3) := by decide +kernel
theorem dX7_singer_102 : decode cX7_singer 102 = .ok (.iload_n 1, 1) := by decide +kernel
theorem dX7_singer_103 : decode cX7_singer 103 = .ok (.aload_n 0, 1) := by decide +kernel
theorem dX7_singer_104 : decode cX7_singer 104 = .ok (.getfield 10, 3) := by decide +kernel
theorem dX7_singer_107 : decode cX7_singer 107 = .ok (.getfield 188, 3) := by decide +kernel
theorem dX7_singer_110 : decode cX7_singer 110 = .ok (.iload_n 1, 1) := by decide +kernel
theorem dX7_singer_111 : decode cX7_singer 111 = .ok (.invokevirtual 104, 3) := by decide +kernel
theorem dX7_singer_114 : decode cX7_singer 114 = .ok (.invokevirtual 194, 3) := by decide +kernel
theorem dX7_singer_117 : decode cX7_singer 117 = .ok (.aload_n 0, 1) := by decide +kernel
theorem dX7_singer_118 : decode cX7_singer 118 = .ok (.iload_n 2, 1) := by decide +kernel
theorem dX7_singer_119 : decode cX7_singer 119 = .ok (.invokevirtual 197, 3) := by decide +kernel
theorem dX7_singer_122 : decode cX7_singer 122 = .ok (.ireturn, 1) := by decide +kernel
set_option maxRecDepth 20000 in
theorem ggX7_does_X4_hasSinger : GoodIn wsX7_does wsX4_hasSinger := goodIn_r _ [9, 10, 86, 87, 88, 89, 90, 91, 92, 93, 94, 95, 96, 97, 98] (by decide +kernel) (by decide +kernel)
set_option maxRecDepth 20000 in
theorem gX7_does_X4_hasSinger : GoodIn wsX7_does (wsV RX7 115 RX4 yX4_hasSinger wsX4_hasSinger) := goodIn_app (goodIn_of _ (by decide +kernel)) ggX7_does_X4_hasSinger
set_option maxRecDepth 20000 in
theorem ggX7_does_X4_hasBeat : GoodIn wsX7_does wsX4_hasBeat := goodIn_r _ [14, 15, 86, 87, 88, 89, 90, 91, 92, 93, 94, 95, 96, 97, 98] (by decide +kernel) (by decide +kernel)
set_option maxRecDepth 20000 in
theorem gX7_does_X4_hasBeat : GoodIn wsX7_does (wsV RX7 80 RX4 yX4_hasBeat wsX4_hasBeat) := goodIn_app (goodIn_of _ (by decide +kernel)) ggX7_does_X4_hasBeat
set_option maxRecDepth 20000 in
theorem ggX7_does_X2_at : GoodIn wsX7_does wsX2_at := goodIn_r _ [20, 21, 103] (by decide +kernel) (by decide +kernel)
set_option maxRecDepth 20000 in
theorem gX7_does_X2_at : GoodIn wsX7_does (wsV RX7 104 RX2 yX2_at wsX2_at) := goodIn_app (goodIn_of _ (by decide +kernel)) ggX7_does_X2_at
set_option maxRecDepth 20000 in
theorem ggX7_does_X6_follow : GoodIn wsX7_does wsX6_follow := goodIn_r _ [26, 27, 28, 29, 30, 31, 32, 33, 34, 35, 36, 37, 38, 17, 18, 19, 20, 21, 39, 40, 41, 8, 42, 43, 44, 45, 46, 47, 48, 49, 50, 51, 52, 53, 54, 55, 56, 57, 58, 59, 60, 61, 62, 63, 64, 65, 66, 67, 68, 69, 70, 71, 72, 73, 74, 75, 76, 77, 78, 86, 87, 88, 89, 90, 91, 92, 93, 94, 95, 96, 97, 98, 99, 100, 101, 102, 103] (by decide +kernel) (by decide +kernel)
set_option maxRecDepth 20000 in
theorem gX7_does_X6_follow : GoodIn wsX7_does (wsV RX7 194 RX6 yX6_follow wsX6_follow) := goodIn_app (goodIn_of _ (by decide +kernel)) ggX7_does_X6_follow
theorem dX7_does_0 : decode cX7_does 0 = .ok (.aload_n 0, 1) := by decide +kernel
theorem dX7_does_1 : decode cX7_does 1 = .ok (.getfield 10, 3) := by decide +kernel
theorem dX7_does_4 : decode cX7_does 4 = .ok (.iload_n 1, 1) := by decide +kernel
theorem dX7_does_5 : decode cX7_does 5 = .ok (.invokevirtual 115, 3) := by decide +kernel
theorem dX7_does_8 : decode cX7_does 8 = .ok (.ifCond .eq 14, 3) := by decide +kernel
theorem dX7_does_11 : decode cX7_does 11 = .ok (.aload_n 0, 1) := by decide +kernel
theorem dX7_does_12 : decode cX7_does 12 = .ok (.getfield 10, 3) := by decide +kernel
theorem dX7_does_15 : decode cX7_does 15 = .ok (.iload_n 2, 1) := by decide +kernel
theorem dX7_does_16 : decode cX7_does 16 = .ok (.invokevirtual 80, 3) := by decide +kernel
theorem dX7_does_19 : decode cX7_does 19 = .ok (.ifCond .ne 5, 3) := by decide +kernel
theorem dX7_does_22 : decode cX7_does 22 = .ok (.iconst (-1), 1) := by decide +kernel
theorem dX7_does_23 : decode cX7_does 23 = .ok (.ireturn, 1) := by decide +kernel
theorem dX7_does_24 : decode cX7_does 24 = .ok (.aload_n 0, 1) := by decide +kernel
theorem dX7_does_25 : decode cX7_does 25 = .ok (.getfield 37, 3) := by decide +kernel
theorem dX7_does_28 : decode cX7_does 28 = .ok (.aload_n 0, 1) := by decide +kernel
theorem dX7_does_29 : decode cX7_does 29 = .ok (.getfield 10, 3) := by decide +kernel
theorem dX7_does_32 : decode cX7_does 32 = .ok (.iload_n 1, 1) := by decide +kernel
theorem dX7_does_33 : decode cX7_does 33 = .ok (.aload_n 0, 1) := by decide +kernel
theorem dX7_does_34 : decode cX7_does 34 = .ok (.getfield 10, 3) := by decide +kernel
theorem dX7_does_37 : decode cX7_does 37 = .ok (.getfield 188, 3) := by decide +kernel
theorem dX7_does_40 : decode cX7_does 40 = .ok (.iload_n 1, 1) := by decide +kernel
theorem dX7_does_41 : decode cX7_does 41 = .ok (.invokevirtual 104, 3) := by decide +kernel
theorem dX7_does_44 : decode cX7_does 44 = .ok (.invokevirtual 194, 3) := by decide +kernel
theorem dX7_does_47 : decode cX7_does 47 = .ok (.aload_n 0, 1) := by decide +kernel
theorem dX7_does_48 : decode cX7_does 48 = .ok (.getfield 37, 3) := by decide +kernel
theorem dX7_does_51 : decode cX7_does 51 = .ok (.getfield 200, 3) := by decide +kernel
theorem dX7_does_54 : decode cX7_does 54 = .ok (.iload_n 2, 1) := by decide +kernel
theorem dX7_does_55 : decode cX7_does 55 = .ok (.invokevirtual 104, 3) := by decide +kernel
theorem dX7_does_58 : decode cX7_does 58 = .ok (.ireturn, 1) := by decide +kernel
set_option maxRecDepth 20000 in
theorem ggX7_left_X4_hasSinger : GoodIn wsX7_left wsX4_hasSinger := goodIn_r _ [9, 10, 86, 87, 88, 89, 90, 91, 92, 93, 94, 95, 96, 97, 98] (by decide +kernel) (by decide +kernel)
set_option maxRecDepth 20000 in
theorem gX7_left_X4_hasSinger : GoodIn wsX7_left (wsV RX7 115 RX4 yX4_hasSinger wsX4_hasSinger) := goodIn_app (goodIn_of _ (by decide +kernel)) ggX7_left_X4_hasSinger
set_option maxRecDepth 20000 in
theorem ggX7_left_X4_hasBeat : GoodIn wsX7_left wsX4_hasBeat := goodIn_r _ [14, 15, 86, 87, 88, 89, 90, 91, 92, 93, 94, 95, 96, 97, 98] (by decide +kernel) (by decide +kernel)
set_option maxRecDepth 20000 in
theorem gX7_left_X4_hasBeat : GoodIn wsX7_left (wsV RX7 80 RX4 yX4_hasBeat wsX4_hasBeat) := goodIn_app (goodIn_of _ (by decide +kernel)) ggX7_left_X4_hasBeat
set_option maxRecDepth 20000 in
theorem ggX7_left_X2_at : GoodIn wsX7_left wsX2_at := goodIn_r _ [20, 21, 103] (by decide +kernel) (by decide +kernel)
set_option maxRecDepth 20000 in
theorem gX7_left_X2_at : GoodIn wsX7_left (wsV RX7 104 RX2 yX2_at wsX2_at) := goodIn_app (goodIn_of _ (by decide +kernel)) ggX7_left_X2_at
set_option maxRecDepth 20000 in
theorem ggX7_left_X6_follow : GoodIn wsX7_left wsX6_follow := goodIn_r _ [26, 27, 28, 29, 30, 31, 32, 33, 34, 35, 36, 37, 38, 17, 18, 19, 20, 21, 39, 40, 41, 8, 42, 43, 44, 45, 46, 47, 48, 49, 50, 51, 52, 53, 54, 55, 56, 57, 58, 59, 60, 61, 62, 63, 64, 65, 66, 67, 68, 69, 70, 71, 72, 73, 74, 75, 76, 77, 78, 86, 87, 88, 89, 90, 91, 92, 93, 94, 95, 96, 97, 98, 99, 100, 101, 102, 103] (by decide +kernel) (by decide +kernel)
set_option maxRecDepth 20000 in
theorem gX7_left_X6_follow : GoodIn wsX7_left (wsV RX7 194 RX6 yX6_follow wsX6_follow) := goodIn_app (goodIn_of _ (by decide +kernel)) ggX7_left_X6_follow
theorem dX7_left_0 : decode cX7_left 0 = .ok (.aload_n 0, 1) := by decide +kernel
theorem dX7_left_1 : decode cX7_left 1 = .ok (.getfield 10, 3) := by decide +kernel
theorem dX7_left_4 : decode cX7_left 4 = .ok (.iload_n 1, 1) := by decide +kernel
theorem dX7_left_5 : decode cX7_left 5 = .ok (.invokevirtual 115, 3) := by decide +kernel
theorem dX7_left_8 : decode cX7_left 8 = .ok (.ifCond .eq 14, 3) := by decide +kernel
theorem dX7_left_11 : decode cX7_left 11 = .ok (.aload_n 0, 1) := by decide +kernel
theorem dX7_left_12 : decode cX7_left 12 = .ok (.getfield 10, 3) := by decide +kernel
theorem dX7_left_15 : decode cX7_left 15 = .ok (.iload_n 2, 1) := by decide +kernel
theorem dX7_left_16 : decode cX7_left 16 = .ok (.invokevirtual 80, 3) := by decide +kernel
theorem dX7_left_19 : decode cX7_left 19 = .ok (.ifCond .ne 5, 3) := by decide +kernel
theorem dX7_left_22 : decode cX7_left 22 = .ok (.iconst (-1), 1) := by decide +kernel
theorem dX7_left_23 : decode cX7_left 23 = .ok (.ireturn, 1) := by decide +kernel
theorem dX7_left_24 : decode cX7_left 24 = .ok (.aload_n 0, 1) := by decide +kernel
theorem dX7_left_25 : decode cX7_left 25 = .ok (.getfield 37, 3) := by decide +kernel
theorem dX7_left_28 : decode cX7_left 28 = .ok (.aload_n 0, 1) := by decide +kernel
theorem dX7_left_29 : decode cX7_left 29 = .ok (.getfield 10, 3) := by decide +kernel
theorem dX7_left_32 : decode cX7_left 32 = .ok (.iload_n 1, 1) := by decide +kernel
theorem dX7_left_33 : decode cX7_left 33 = .ok (.aload_n 0, 1) := by decide +kernel
theorem dX7_left_34 : decode cX7_left 34 = .ok (.getfield 10, 3) := by decide +kernel
theorem dX7_left_37 : decode cX7_left 37 = .ok (.getfield 188, 3) := by decide +kernel
theorem dX7_left_40 : decode cX7_left 40 = .ok (.iload_n 1, 1) := by decide +kernel
theorem dX7_left_41 : decode cX7_left 41 = .ok (.invokevirtual 104, 3) := by decide +kernel
theorem dX7_left_44 : decode cX7_left 44 = .ok (.invokevirtual 194, 3) := by decide +kernel
theorem dX7_left_47 : decode cX7_left 47 = .ok (.aload_n 0, 1) := by decide +kernel
theorem dX7_left_48 : decode cX7_left 48 = .ok (.getfield 37, 3) := by decide +kernel
theorem dX7_left_51 : decode cX7_left 51 = .ok (.getfield 203, 3) := by decide +kernel
theorem dX7_left_54 : decode cX7_left 54 = .ok (.iload_n 2, 1) := by decide +kernel
theorem dX7_left_55 : decode cX7_left 55 = .ok (.invokevirtual 104, 3) := by decide +kernel
theorem dX7_left_58 : decode cX7_left 58 = .ok (.ireturn, 1) := by decide +kernel
set_option maxRecDepth 20000 in
theorem ggX7_solo_X4_hasSolo : GoodIn wsX7_solo wsX4_hasSolo := goodIn_r _ [9, 10, 24, 25, 26, 27, 28, 29, 30, 31, 32, 33, 34, 35, 36] (by decide +kernel) (by decide +kernel)
set_option maxRecDepth 20000 in
theorem gX7_solo_X4_hasSolo : GoodIn wsX7_solo (wsV RX7 141 RX4 yX4_hasSolo wsX4_hasSolo) := goodIn_app (goodIn_of _ (by decide +kernel)) ggX7_solo_X4_hasSolo
set_option maxRecDepth 20000 in
theorem ggX7_solo_X2_at : GoodIn wsX7_solo wsX2_at := goodIn_r _ [15, 16, 37] (by decide +kernel) (by decide +kernel)
set_option maxRecDepth 20000 in
theorem gX7_solo_X2_at : GoodIn wsX7_solo (wsV RX7 104 RX2 yX2_at wsX2_at) := goodIn_app (goodIn_of _ (by decide +kernel)) ggX7_solo_X2_at
theorem dX7_solo_0 : decode cX7_solo 0 = .ok (.aload_n 0, 1) := by decide +kernel
theorem dX7_solo_1 : decode cX7_solo 1 = .ok (.getfield 10, 3) := by decide +kernel
theorem dX7_solo_4 : decode cX7_solo 4 = .ok (.iload_n 1, 1) := by decide +kernel
theorem dX7_solo_5 : decode cX7_solo 5 = .ok (.invokevirtual 141, 3) := by decide +kernel
theorem dX7_solo_8 : decode cX7_solo 8 = .ok (.ifCond .ne 5, 3) := by decide +kernel
theorem dX7_solo_11 : decode cX7_solo 11 = .ok (.iconst (-1), 1) := by decide +kernel
theorem dX7_solo_12 : decode cX7_solo 12 = .ok (.ireturn, 1) := by decide +kernel
theorem dX7_solo_13 : decode cX7_solo 13 = .ok (.iload_n 2, 1) := by decide +kernel
theorem dX7_solo_14 : decode cX7_solo 14 = .ok (.tableswitch 62 0 2 #[26, 38, 50], 26) := by decide +kernel
theorem dX7_solo_40 : decode cX7_solo 40 = .ok (.aload_n 0, 1) := by decide +kernel
theorem dX7_solo_41 : decode cX7_solo 41 = .ok (.getfield 10, 3) := by decide +kernel
theorem dX7_solo_44 : decode cX7_solo 44 = .ok (.getfield 206, 3) := by decide +kernel
theorem dX7_solo_47 : decode cX7_solo 47 = .ok (.iload_n 1, 1) := by decide +kernel
theorem dX7_solo_48 : decode cX7_solo 48 = .ok (.invokevirtual 104, 3) := by decide +kernel
theorem dX7_solo_51 : decode cX7_solo 51 = .ok (.ireturn, 1) := by decide +kernel
theorem dX7_solo_52 : decode cX7_solo 52 = .ok (.aload_n 0, 1) := by decide +kernel
theorem dX7_solo_53 : decode cX7_solo 53 = .ok (.getfield 10, 3) := by decide +kernel
theorem dX7_solo_56 : decode cX7_solo 56 = .ok (.getfield 209, 3) := by decide +kernel
theorem dX7_solo_59 : decode cX7_solo 59 = .ok (.iload_n 1, 1) := by decide +kernel
theorem dX7_solo_60 : decode cX7_solo 60 = .ok (.invokevirtual 104, 3) := by decide +kernel
theorem dX7_solo_63 : decode cX7_solo 63 = .ok (.ireturn, 1) := by decide +kernel
theorem dX7_solo_64 : decode cX7_solo 64 = .ok (.aload_n 0, 1) := by decide +kernel
theorem dX7_solo_65 : decode cX7_solo 65 = .ok (.getfield 10, 3) := by decide +kernel
theorem dX7_solo_68 : decode cX7_solo 68 = .ok (.getfield 212, 3) := by decide +kernel
theorem dX7_solo_71 : decode cX7_solo 71 = .ok (.iload_n 1, 1) := by decide +kernel
theorem dX7_solo_72 : decode cX7_solo 72 = .ok (.invokevirtual 104, 3) := by decide +kernel
theorem dX7_solo_75 : decode cX7_solo 75 = .ok (.ireturn, 1) := by decide +kernel
theorem dX7_solo_76 : decode cX7_solo 76 = .ok (.bipush (-2), 2) := by decide +kernel
theorem dX7_solo_78 : decode cX7_solo 78 = .ok (.ireturn, 1) := by decide +kernel
set_option maxRecDepth 20000 in
theorem ggX7_fault_X7_isWithin : GoodIn wsX7_fault wsX7_isWithin := goodIn_r _ [7] (by decide +kernel) (by decide +kernel)
set_option maxRecDepth 20000 in
theorem gX7_fault_X7_isWithin : GoodIn wsX7_fault (va_wsS RX7 84 yX7_isWithin wsX7_isWithin) := goodIn_app (goodIn_of _ (by decide +kernel)) ggX7_fault_X7_isWithin
set_option maxRecDepth 20000 in
theorem ggX7_fault_X0_follow : GoodIn wsX7_fault wsX0_follow := goodIn_r _ [12, 13, 14, 15, 16, 17, 18, 19, 20, 21, 22, 23, 24, 25, 26, 27, 28, 29, 30, 31, 32, 33, 34, 35, 36, 37, 38, 39, 40, 41, 42, 43, 44, 45, 46, 47, 48, 49, 50, 51, 52, 53, 54, 55, 56, 57, 58, 59, 60, 61, 62, 63, 64, 65, 66, 67, 68, 69, 6, 70, 71, 72, 73, 74, 75, 76, 77, 78, 79, 80, 81, 82, 83, 84, 85, 86, 87, 88, 89, 11, 90, 91, 92, 93, 132, 133, 134, 135, 136, 137, 138, 139, 140, 141, 142, 143, 144, 145, 146, 147, 148, 149, 150, 151, 152] (by decide +kernel) (by decide +kernel)
set_option maxRecDepth 20000 in
theorem gX7_fault_X0_follow : GoodIn wsX7_fault (wsV RX7 181 RX0 yX0_follow wsX0_follow) := goodIn_app (goodIn_of _ (by decide +kernel)) ggX7_fault_X0_follow
set_option maxRecDepth 20000 in
theorem ggX7_fault_X0_tellFault : GoodIn wsX7_fault wsX0_tellFault := goodIn_r _ [97, 18, 98, 99, 100, 11, 101, 13, 15, 14, 102, 59, 60, 50, 61, 62, 63, 27, 28, 23, 29, 25, 26, 103, 104, 105, 106, 107, 72, 73, 74, 75, 76, 77, 108, 109, 110, 111, 58, 112, 113, 114, 115, 116, 117, 118, 119, 120, 121, 69, 6, 70, 122, 123, 124, 135, 136, 137, 138, 139, 140, 141, 142, 143, 144, 145, 146, 147, 132, 133, 134, 152] (by decide +kernel) (by decide +kernel)
set_option maxRecDepth 20000 in
theorem gX7_fault_X0_tellFault : GoodIn wsX7_fault (wsV RX7 215 RX0 yX0_tellFault wsX0_tellFault) := goodIn_app (goodIn_of _ (by decide +kernel)) ggX7_fault_X0_tellFault
theorem dX7_fault_0 : decode cX7_fault 0 = .ok (.iload_n 1, 1) := by decide +kernel
theorem dX7_fault_1 : decode cX7_fault 1 = .ok (.ifCond .lt 12, 3) := by decide +kernel
theorem dX7_fault_4 : decode cX7_fault 4 = .ok (.iload_n 2, 1) := by decide +kernel
theorem dX7_fault_5 : decode cX7_fault 5 = .ok (.iconst 0, 1) := by decide +kernel
theorem dX7_fault_6 : decode cX7_fault 6 = .ok (.iconst 2, 1) := by decide +kernel
theorem dX7_fault_7 : decode cX7_fault 7 = .ok (.invokestatic 84, 3) := by decide +kernel
theorem dX7_fault_10 : decode cX7_fault 10 = .ok (.ifCond .ne 6, 3) := by decide +kernel
theorem dX7_fault_13 : decode cX7_fault 13 = .ok (.bipush (-2), 2) := by decide +kernel
theorem dX7_fault_15 : decode cX7_fault 15 = .ok (.ireturn, 1) := by decide +kernel
theorem dX7_fault_16 : decode cX7_fault 16 = .ok (.aload_n 0, 1) := by decide +kernel
theorem dX7_fault_17 : decode cX7_fault 17 = .ok (.getfield 44, 3) := by decide +kernel
theorem dX7_fault_20 : decode cX7_fault 20 = .ok (.aload_n 0, 1) := by decide +kernel
theorem dX7_fault_21 : decode cX7_fault 21 = .ok (.getfield 10, 3) := by decide +kernel
theorem dX7_fault_24 : decode cX7_fault 24 = .ok (.aload_n 0, 1) := by decide +kernel
theorem dX7_fault_25 : decode cX7_fault 25 = .ok (.getfield 37, 3) := by decide +kernel
theorem dX7_fault_28 : decode cX7_fault 28 = .ok (.invokevirtual 181, 3) := by decide +kernel
theorem dX7_fault_31 : decode cX7_fault 31 = .ok (.aload_n 0, 1) := by decide +kernel
theorem dX7_fault_32 : decode cX7_fault 32 = .ok (.getfield 44, 3) := by decide +kernel
theorem dX7_fault_35 : decode cX7_fault 35 = .ok (.aload_n 0, 1) := by decide +kernel
theorem dX7_fault_36 : decode cX7_fault 36 = .ok (.getfield 10, 3) := by decide +kernel
theorem dX7_fault_39 : decode cX7_fault 39 = .ok (.iload_n 1, 1) := by decide +kernel
theorem dX7_fault_40 : decode cX7_fault 40 = .ok (.iload_n 2, 1) := by decide +kernel
theorem dX7_fault_41 : decode cX7_fault 41 = .ok (.invokevirtual 215, 3) := by decide +kernel
theorem dX7_fault_44 : decode cX7_fault 44 = .ok (.ireturn, 1) := by decide +kernel
set_option maxRecDepth 20000 in
theorem ggX7_silentWithout_X4_hasSinger : GoodIn wsX7_silentWithout wsX4_hasSinger := goodIn_r _ [8, 9, 108, 109, 110, 111, 112, 113, 114, 115, 116, 117, 118, 119, 120] (by decide +kernel) (by decide +kernel)
set_option maxRecDepth 20000 in
theorem gX7_silentWithout_X4_hasSinger : GoodIn wsX7_silentWithout (wsV RX7 115 RX4 yX4_hasSinger wsX4_hasSinger) := goodIn_app (goodIn_of _ (by decide +kernel)) ggX7_silentWithout_X4_hasSinger
set_option maxRecDepth 20000 in
theorem ggX7_silentWithout_X0_follow : GoodIn wsX7_silentWithout wsX0_follow := goodIn_r _ [14, 15, 16, 17, 18, 19, 20, 21, 22, 23, 24, 25, 26, 27, 28, 29, 30, 31, 32, 33, 34, 35, 36, 37, 38, 39, 40, 41, 42, 43, 44, 45, 46, 47, 48, 49, 50, 51, 7, 52, 53, 54, 55, 56, 57, 58, 59, 60, 61, 62, 63, 64, 65, 66, 67, 68, 69, 70, 71, 72, 73, 74, 75, 76, 77, 78, 79, 80, 81, 82, 83, 84, 85, 86, 87, 88, 89, 90, 91, 13, 92, 93, 94, 95, 121, 122, 123, 108, 109, 110, 111, 112, 113, 114, 115, 116, 117, 118, 119, 120, 124, 125, 126, 127, 128] (by decide +kernel) (by decide +kernel)
set_option maxRecDepth 20000 in
theorem gX7_silentWithout_X0_follow : GoodIn wsX7_silentWithout (wsV RX7 181 RX0 yX0_follow wsX0_follow) := goodIn_app (goodIn_of _ (by decide +kernel)) ggX7_silentWithout_X0_follow
set_option maxRecDepth 20000 in
theorem ggX7_silentWithout_X0_countSilentWithout : GoodIn wsX7_silentWithout wsX0_countSilentWithout := goodIn_r _ [99, 20, 15, 100, 60, 61, 7, 62, 63, 64, 29, 30, 25, 31, 27, 28, 93, 71, 94, 108, 109, 110, 111, 112, 113, 114, 115, 116, 117, 118, 119, 120, 121, 122, 123, 128] (by decide +kernel) (by decide +kernel)
set_option maxRecDepth 20000 in
theorem gX7_silentWithout_X0_countSilentWithout : GoodIn wsX7_silentWithout (wsV RX7 219 RX0 yX0_countSilentWithout wsX0_countSilentWithout) := goodIn_app (goodIn_of _ (by decide +kernel)) ggX7_silentWithout_X0_countSilentWithout
theorem dX7_silentWithout_0 : decode cX7_silentWithout 0 = .ok (.aload_n 0, 1) := by decide +kernel
theorem dX7_silentWithout_1 : decode cX7_silentWithout 1 = .ok (.getfield 10, 3) := by decide +kernel
theorem dX7_silentWithout_4 : decode cX7_silentWithout 4 = .ok (.iload_n 1, 1) := by decide +kernel
theorem dX7_silentWithout_5 : decode cX7_silentWithout 5 = .ok (.invokevirtual 115, 3) := by decide +kernel
theorem dX7_silentWithout_8 : decode cX7_silentWithout 8 = .ok (.ifCond .ne 5, 3) := by decide +kernel
theorem dX7_silentWithout_11 : decode cX7_silentWithout 11 = .ok (.iconst (-1), 1) := by decide +kernel
theorem dX7_silentWithout_12 : decode cX7_silentWithout 12 = .ok (.ireturn, 1) := by decide +kernel
theorem dX7_silentWithout_13 : decode cX7_silentWithout 13 = .ok (.aload_n 0, 1) := by decide +kernel
theorem dX7_silentWithout_14 : decode cX7_silentWithout 14 = .ok (.getfield 44, 3) := by decide +kernel
theorem dX7_silentWithout_17 : decode cX7_silentWithout 17 = .ok (.aload_n 0, 1) := by decide +kernel
theorem dX7_silentWithout_18 : decode cX7_silentWithout 18 = .ok (.getfield 10, 3) := by decide +kernel
theorem dX7_silentWithout_21 : decode cX7_silentWithout 21 = .ok (.aload_n 0, 1) := by decide +kernel
theorem dX7_silentWithout_22 : decode cX7_silentWithout 22 = .ok (.getfield 37, 3) := by decide +kernel
theorem dX7_silentWithout_25 : decode cX7_silentWithout 25 = .ok (.invokevirtual 181, 3) := by decide +kernel
theorem dX7_silentWithout_28 : decode cX7_silentWithout 28 = .ok (.aload_n 0, 1) := by decide +kernel
theorem dX7_silentWithout_29 : decode cX7_silentWithout 29 = .ok (.getfield 44, 3) := by decide +kernel
theorem dX7_silentWithout_32 : decode cX7_silentWithout 32 = .ok (.aload_n 0, 1) := by decide +kernel
theorem dX7_silentWithout_33 : decode cX7_silentWithout 33 = .ok (.getfield 10, 3) := by decide +kernel
theorem dX7_silentWithout_36 : decode cX7_silentWithout 36 = .ok (.iload_n 1, 1) := by decide +kernel
theorem dX7_silentWithout_37 : decode cX7_silentWithout 37 = .ok (.invokevirtual 219, 3) := by decide +kernel
theorem dX7_silentWithout_40 : decode cX7_silentWithout 40 = .ok (.ireturn, 1) := by decide +kernel
set_option maxRecDepth 20000 in
theorem ggX7_breathFor_X4_hasSinger : GoodIn wsX7_breathFor wsX4_hasSinger := goodIn_r _ [7, 8, 82, 83, 84, 85, 86, 87, 88, 89, 90, 91, 92, 93, 94] (by decide +kernel) (by decide +kernel)
set_option maxRecDepth 20000 in
theorem gX7_breathFor_X4_hasSinger : GoodIn wsX7_breathFor (wsV RX7 115 RX4 yX4_hasSinger wsX4_hasSinger) := goodIn_app (goodIn_of _ (by decide +kernel)) ggX7_breathFor_X4_hasSinger
set_option maxRecDepth 20000 in
theorem ggX7_breathFor_X6_follow : GoodIn wsX7_breathFor wsX6_follow := goodIn_r _ [13, 14, 15, 16, 17, 18, 19, 20, 21, 22, 23, 24, 25, 26, 27, 28, 29, 30, 31, 32, 33, 6, 34, 35, 36, 37, 38, 39, 40, 41, 42, 43, 44, 45, 46, 47, 48, 49, 50, 51, 52, 53, 54, 55, 56, 57, 58, 59, 60, 61, 62, 63, 64, 65, 66, 67, 68, 69, 70, 82, 83, 84, 85, 86, 87, 88, 89, 90, 91, 92, 93, 94, 95, 96, 97, 98, 99] (by decide +kernel) (by decide +kernel)
set_option maxRecDepth 20000 in
theorem gX7_breathFor_X6_follow : GoodIn wsX7_breathFor (wsV RX7 194 RX6 yX6_follow wsX6_follow) := goodIn_app (goodIn_of _ (by decide +kernel)) ggX7_breathFor_X6_follow
set_option maxRecDepth 20000 in
theorem ggX7_breathFor_X6_countDoing : GoodIn wsX7_breathFor wsX6_countDoing := goodIn_r _ [74, 15, 23, 25, 26, 27, 28, 29, 30, 95, 96, 97, 98, 99] (by decide +kernel) (by decide +kernel)
set_option maxRecDepth 20000 in
theorem gX7_breathFor_X6_countDoing : GoodIn wsX7_breathFor (wsV RX7 223 RX6 yX6_countDoing wsX6_countDoing) := goodIn_app (goodIn_of _ (by decide +kernel)) ggX7_breathFor_X6_countDoing
theorem dX7_breathFor_0 : decode cX7_breathFor 0 = .ok (.aload_n 0, 1) := by decide +kernel
theorem dX7_breathFor_1 : decode cX7_breathFor 1 = .ok (.getfield 10, 3) := by decide +kernel
theorem dX7_breathFor_4 : decode cX7_breathFor 4 = .ok (.iload_n 1, 1) := by decide +kernel
theorem dX7_breathFor_5 : decode cX7_breathFor 5 = .ok (.invokevirtual 115, 3) := by decide +kernel
theorem dX7_breathFor_8 : decode cX7_breathFor 8 = .ok (.ifCond .ne 5, 3) := by decide +kernel
theorem dX7_breathFor_11 : decode cX7_breathFor 11 = .ok (.iconst (-1), 1) := by decide +kernel
theorem dX7_breathFor_12 : decode cX7_breathFor 12 = .ok (.ireturn, 1) := by decide +kernel
theorem dX7_breathFor_13 : decode cX7_breathFor 13 = .ok (.iconst 4, 1) := by decide +kernel
theorem dX7_breathFor_14 : decode cX7_breathFor 14 = .ok (.istore_n 2, 1) := by decide +kernel
theorem dX7_breathFor_15 : decode cX7_breathFor 15 = .ok (.iload_n 2, 1) := by decide +kernel
theorem dX7_breathFor_16 : decode cX7_breathFor 16 = .ok (.bipush 40, 2) := by decide +kernel
theorem dX7_breathFor_18 : decode cX7_breathFor 18 = .ok (.if_icmp .gt 35, 3) := by decide +kernel
theorem dX7_breathFor_21 : decode cX7_breathFor 21 = .ok (.aload_n 0, 1) := by decide +kernel
theorem dX7_breathFor_22 : decode cX7_breathFor 22 = .ok (.getfield 37, 3) := by decide +kernel
theorem dX7_breathFor_25 : decode cX7_breathFor 25 = .ok (.aload_n 0, 1) := by decide +kernel
theorem dX7_breathFor_26 : decode cX7_breathFor 26 = .ok (.getfield 10, 3) := by decide +kernel
theorem dX7_breathFor_29 : decode cX7_breathFor 29 = .ok (.iload_n 1, 1) := by decide +kernel
theorem dX7_breathFor_30 : decode cX7_breathFor 30 = .ok (.iload_n 2, 1) := by decide +kernel
theorem dX7_breathFor_31 : decode cX7_breathFor 31 = .ok (.invokevirtual 194, 3) := by decide +kernel
theorem dX7_breathFor_34 : decode cX7_breathFor 34 = .ok (.aload_n 0, 1) := by decide +kernel
theorem dX7_breathFor_35 : decode cX7_breathFor 35 = .ok (.getfield 37, 3) := by decide +kernel
theorem dX7_breathFor_38 : decode cX7_breathFor 38 = .ok (.iconst 2, 1) := by decide +kernel
theorem dX7_breathFor_39 : decode cX7_breathFor 39 = .ok (.invokevirtual 223, 3) := by decide +kernel
theorem dX7_breathFor_42 : decode cX7_breathFor 42 = .ok (.ifCond .ne 5, 3) := by decide +kernel
theorem dX7_breathFor_45 : decode cX7_breathFor 45 = .ok (.iload_n 2, 1) := by decide +kernel
theorem dX7_breathFor_46 : decode cX7_breathFor 46 = .ok (.ireturn, 1) := by decide +kernel
theorem dX7_breathFor_47 : decode cX7_breathFor 47 = .ok (.iinc 2 1, 3) := by decide +kernel
theorem dX7_breathFor_50 : decode cX7_breathFor 50 = .ok (.goto (-35), 3) := by decide +kernel
theorem dX7_breathFor_53 : decode cX7_breathFor 53 = .ok (.bipush (-5), 2) := by decide +kernel
theorem dX7_breathFor_55 : decode cX7_breathFor 55 = .ok (.ireturn, 1) := by decide +kernel
set_option maxRecDepth 20000 in
theorem ggX7_count_X4_countRests : GoodIn wsX7_count wsX4_countRests := goodIn_r _ [16, 17, 18, 19, 20, 15, 21, 22, 23, 24, 25, 26, 27, 28, 157, 158, 159, 160, 161, 162, 163, 164, 165, 166, 167, 168, 169, 178] (by decide +kernel) (by decide +kernel)
set_option maxRecDepth 20000 in
theorem gX7_count_X4_countRests : GoodIn wsX7_count (wsV RX7 226 RX4 yX4_countRests wsX4_countRests) := goodIn_app (goodIn_of _ (by decide +kernel)) ggX7_count_X4_countRests
set_option maxRecDepth 20000 in
theorem ggX7_count_X4_countSyllables : GoodIn wsX7_count wsX4_countSyllables := goodIn_r _ [32, 17, 33, 34, 35, 15, 36, 22, 18, 19, 20, 21, 23, 24, 25, 26, 27, 28, 157, 158, 159, 160, 161, 162, 163, 164, 165, 166, 167, 168, 169, 178] (by decide +kernel) (by decide +kernel)
set_option maxRecDepth 20000 in
theorem gX7_count_X4_countSyllables : GoodIn wsX7_count (wsV RX7 229 RX4 yX4_countSyllables wsX4_countSyllables) := goodIn_app (goodIn_of _ (by decide +kernel)) ggX7_count_X4_countSyllables
set_option maxRecDepth 20000 in
theorem ggX7_count_X4_countPresent : GoodIn wsX7_count wsX4_countPresent := goodIn_r _ [40, 41, 42, 43, 44, 45, 46, 47, 48, 157, 158, 159, 160, 161, 162, 163, 164, 165, 166, 167, 168, 169] (by decide +kernel) (by decide +kernel)
set_option maxRecDepth 20000 in
theorem gX7_count_X4_countPresent : GoodIn wsX7_count (wsV RX7 127 RX4 yX4_countPresent wsX4_countPresent) := goodIn_app (goodIn_of _ (by decide +kernel)) ggX7_count_X4_countPresent
set_option maxRecDepth 20000 in
theorem ggX7_count_X4_countMarks : GoodIn wsX7_count wsX4_countMarks := goodIn_r _ [52, 17, 53, 23, 24, 25, 26, 27, 28, 42, 43, 44, 45, 46, 47, 48, 157, 158, 159, 160, 161, 162, 163, 164, 165, 166, 167, 168, 169, 178] (by decide +kernel) (by decide +kernel)
set_option maxRecDepth 20000 in
theorem gX7_count_X4_countMarks : GoodIn wsX7_count (wsV RX7 163 RX4 yX4_countMarks wsX4_countMarks) := goodIn_app (goodIn_of _ (by decide +kernel)) ggX7_count_X4_countMarks
set_option maxRecDepth 20000 in
theorem ggX7_count_X0_follow : GoodIn wsX7_count wsX0_follow := goodIn_r _ [58, 59, 60, 61, 62, 63, 64, 65, 66, 67, 68, 26, 69, 28, 70, 24, 25, 27, 71, 72, 73, 74, 75, 76, 77, 78, 79, 80, 81, 82, 83, 84, 85, 86, 87, 88, 89, 90, 15, 91, 92, 93, 94, 95, 96, 97, 18, 19, 20, 21, 22, 23, 98, 99, 100, 101, 41, 102, 103, 104, 105, 106, 107, 108, 109, 110, 111, 112, 113, 114, 115, 53, 116, 117, 118, 119, 120, 121, 122, 57, 123, 124, 125, 126, 179, 180, 181, 157, 158, 159, 160, 161, 162, 163, 164, 165, 166, 167, 168, 169, 182, 183, 184, 185, 178] (by decide +kernel) (by decide +kernel)
set_option maxRecDepth 20000 in
theorem gX7_count_X0_follow : GoodIn wsX7_count (wsV RX7 181 RX0 yX0_follow wsX0_follow) := goodIn_app (goodIn_of _ (by decide +kernel)) ggX7_count_X0_follow
set_option maxRecDepth 20000 in
theorem ggX7_count_X0_countFaults : GoodIn wsX7_count wsX0_countFaults := goodIn_r _ [130, 64, 131, 132, 133, 57, 134, 59, 61, 60, 135, 19, 20, 15, 21, 22, 23, 24, 25, 26, 27, 28, 70, 136, 137, 138, 139, 140, 106, 107, 108, 109, 110, 111, 141, 34, 35, 36, 18, 142, 43, 44, 45, 46, 47, 48, 157, 158, 159, 160, 161, 162, 163, 164, 165, 166, 167, 168, 169, 179, 180, 181, 178] (by decide +kernel) (by decide +kernel)
set_option maxRecDepth 20000 in
theorem gX7_count_X0_countFaults : GoodIn wsX7_count (wsV RX7 232 RX0 yX0_countFaults wsX0_countFaults) := goodIn_app (goodIn_of _ (by decide +kernel)) ggX7_count_X0_countFaults
set_option maxRecDepth 20000 in
theorem ggX7_count_X4_longestSyllable : GoodIn wsX7_count wsX4_longestSyllable := goodIn_r _ [146, 17, 147, 148, 83, 149, 18, 19, 20, 15, 21, 22, 23, 24, 25, 26, 27, 28, 33, 34, 35, 36, 157, 158, 159, 160, 161, 162, 163, 164, 165, 166, 167, 168, 169, 178] (by decide +kernel) (by decide +kernel)
set_option maxRecDepth 20000 in
theorem gX7_count_X4_longestSyllable : GoodIn wsX7_count (wsV RX7 235 RX4 yX4_longestSyllable wsX4_longestSyllable) := goodIn_app (goodIn_of _ (by decide +kernel)) ggX7_count_X4_longestSyllable
theorem dX7_count_0 : decode cX7_count 0 = .ok (.iload_n 1, 1) := by decide +kernel
theorem dX7_count_1 : decode cX7_count 1 = .ok (.tableswitch 231 0 15 #[79, 87, 95, 103, 111, 119, 127, 135, 164, 164, 164, 164, 199, 207, 215, 223], 79) := by decide +kernel
theorem dX7_count_80 : decode cX7_count 80 = .ok (.aload_n 0, 1) := by decide +kernel
theorem dX7_count_81 : decode cX7_count 81 = .ok (.getfield 10, 3) := by decide +kernel
theorem dX7_count_84 : decode cX7_count 84 = .ok (.getfield 77, 3) := by decide +kernel
theorem dX7_count_87 : decode cX7_count 87 = .ok (.ireturn, 1) := by decide +kernel
theorem dX7_count_88 : decode cX7_count 88 = .ok (.aload_n 0, 1) := by decide +kernel
theorem dX7_count_89 : decode cX7_count 89 = .ok (.getfield 10, 3) := by decide +kernel
theorem dX7_count_92 : decode cX7_count 92 = .ok (.invokevirtual 226, 3) := by decide +kernel
theorem dX7_count_95 : decode cX7_count 95 = .ok (.ireturn, 1) := by decide +kernel
theorem dX7_count_96 : decode cX7_count 96 = .ok (.aload_n 0, 1) := by decide +kernel
theorem dX7_count_97 : decode cX7_count 97 = .ok (.getfield 10, 3) := by decide +kernel
theorem dX7_count_100 : decode cX7_count 100 = .ok (.invokevirtual 229, 3) := by decide +kernel
theorem dX7_count_103 : decode cX7_count 103 = .ok (.ireturn, 1) := by decide +kernel
theorem dX7_count_104 : decode cX7_count 104 = .ok (.aload_n 0, 1) := by decide +kernel
theorem dX7_count_105 : decode cX7_count 105 = .ok (.getfield 10, 3) := by decide +kernel
theorem dX7_count_108 : decode cX7_count 108 = .ok (.getfield 108, 3) := by decide +kernel
theorem dX7_count_111 : decode cX7_count 111 = .ok (.ireturn, 1) := by decide +kernel
theorem dX7_count_112 : decode cX7_count 112 = .ok (.aload_n 0, 1) := by decide +kernel
theorem dX7_count_113 : decode cX7_count 113 = .ok (.getfield 10, 3) := by decide +kernel
theorem dX7_count_116 : decode cX7_count 116 = .ok (.invokevirtual 127, 3) := by decide +kernel
theorem dX7_count_119 : decode cX7_count 119 = .ok (.ireturn, 1) := by decide +kernel
theorem dX7_count_120 : decode cX7_count 120 = .ok (.aload_n 0, 1) := by decide +kernel
theorem dX7_count_121 : decode cX7_count 121 = .ok (.getfield 10, 3) := by decide +kernel
theorem dX7_count_124 : decode cX7_count 124 = .ok (.getfield 134, 3) := by decide +kernel
theorem dX7_count_127 : decode cX7_count 127 = .ok (.ireturn, 1) := by decide +kernel
theorem dX7_count_128 : decode cX7_count 128 = .ok (.aload_n 0, 1) := by decide +kernel
theorem dX7_count_129 : decode cX7_count 129 = .ok (.getfield 10, 3) := by decide +kernel
theorem dX7_count_132 : decode cX7_count 132 = .ok (.invokevirtual 163, 3) := by decide +kernel
theorem dX7_count_135 : decode cX7_count 135 = .ok (.ireturn, 1) := by decide +kernel
theorem dX7_count_136 : decode cX7_count 136 = .ok (.aload_n 0, 1) := by decide +kernel
theorem dX7_count_137 : decode cX7_count 137 = .ok (.getfield 44, 3) := by decide +kernel
theorem dX7_count_140 : decode cX7_count 140 = .ok (.aload_n 0, 1) := by decide +kernel
theorem dX7_count_141 : decode cX7_count 141 = .ok (.getfield 10, 3) := by decide +kernel
theorem dX7_count_144 : decode cX7_count 144 = .ok (.aload_n 0, 1) := by decide +kernel
theorem dX7_count_145 : decode cX7_count 145 = .ok (.getfield 37, 3) := by decide +kernel
theorem dX7_count_148 : decode cX7_count 148 = .ok (.invokevirtual 181, 3) := by decide +kernel
theorem dX7_count_151 : decode cX7_count 151 = .ok (.aload_n 0, 1) := by decide +kernel
theorem dX7_count_152 : decode cX7_count 152 = .ok (.getfield 44, 3) := by decide +kernel
theorem dX7_count_155 : decode cX7_count 155 = .ok (.aload_n 0, 1) := by decide +kernel
theorem dX7_count_156 : decode cX7_count 156 = .ok (.getfield 10, 3) := by decide +kernel
theorem dX7_count_159 : decode cX7_count 159 = .ok (.iconst 0, 1) := by decide +kernel
theorem dX7_count_160 : decode cX7_count 160 = .ok (.iconst 3, 1) := by decide +kernel
theorem dX7_count_161 : decode cX7_count 161 = .ok (.invokevirtual 232, 3) := by decide +kernel
theorem dX7_count_164 : decode cX7_count 164 = .ok (.ireturn, 1) := by decide +kernel
theorem dX7_count_165 : decode cX7_count 165 = .ok (.aload_n 0, 1) := by decide +kernel
theorem dX7_count_166 : decode cX7_count 166 = .ok (.getfield 44, 3) := by decide +kernel
theorem dX7_count_169 : decode cX7_count 169 = .ok (.aload_n 0, 1) := by decide +kernel
theorem dX7_count_170 : decode cX7_count 170 = .ok (.getfield 10, 3) := by decide +kernel
theorem dX7_count_173 : decode cX7_count 173 = .ok (.aload_n 0, 1) := by decide +kernel
theorem dX7_count_174 : decode cX7_count 174 = .ok (.getfield 37, 3) := by decide +kernel
theorem dX7_count_177 : decode cX7_count 177 = .ok (.invokevirtual 181, 3) := by decide +kernel
theorem dX7_count_180 : decode cX7_count 180 = .ok (.aload_n 0, 1) := by decide +kernel
theorem dX7_count_181 : decode cX7_count 181 = .ok (.getfield 44, 3) := by decide +kernel
theorem dX7_count_184 : decode cX7_count 184 = .ok (.aload_n 0, 1) := by decide +kernel
theorem dX7_count_185 : decode cX7_count 185 = .ok (.getfield 10, 3) := by decide +kernel
theorem dX7_count_188 : decode cX7_count 188 = .ok (.iload_n 1, 1) := by decide +kernel
theorem dX7_count_189 : decode cX7_count 189 = .ok (.bipush 8, 2) := by decide +kernel
theorem dX7_count_191 : decode cX7_count 191 = .ok (.isub, 1) := by decide +kernel
theorem dX7_count_192 : decode cX7_count 192 = .ok (.iload_n 1, 1) := by decide +kernel
theorem dX7_count_193 : decode cX7_count 193 = .ok (.bipush 8, 2) := by decide +kernel
theorem dX7_count_195 : decode cX7_count 195 = .ok (.isub, 1) := by decide +kernel
theorem dX7_count_196 : decode cX7_count 196 = .ok (.invokevirtual 232, 3) := by decide +kernel
theorem dX7_count_199 : decode cX7_count 199 = .ok (.ireturn, 1) := by decide +kernel
theorem dX7_count_200 : decode cX7_count 200 = .ok (.aload_n 0, 1) := by decide +kernel
theorem dX7_count_201 : decode cX7_count 201 = .ok (.getfield 10, 3) := by decide +kernel
theorem dX7_count_204 : decode cX7_count 204 = .ok (.getfield 157, 3) := by decide +kernel
theorem dX7_count_207 : decode cX7_count 207 = .ok (.ireturn, 1) := by decide +kernel
theorem dX7_count_208 : decode cX7_count 208 = .ok (.aload_n 0, 1) := by decide +kernel
theorem dX7_count_209 : decode cX7_count 209 = .ok (.getfield 10, 3) := by decide +kernel
theorem dX7_count_212 : decode cX7_count 212 = .ok (.invokevirtual 235, 3) := by decide +kernel
theorem dX7_count_215 : decode cX7_count 215 = .ok (.ireturn, 1) := by decide +kernel
theorem dX7_count_216 : decode cX7_count 216 = .ok (.aload_n 0, 1) := by decide +kernel
theorem dX7_count_217 : decode cX7_count 217 = .ok (.getfield 26, 3) := by decide +kernel
theorem dX7_count_220 : decode cX7_count 220 = .ok (.getfield 166, 3) := by decide +kernel
theorem dX7_count_223 : decode cX7_count 223 = .ok (.ireturn, 1) := by decide +kernel
theorem dX7_count_224 : decode cX7_count 224 = .ok (.aload_n 0, 1) := by decide +kernel
theorem dX7_count_225 : decode cX7_count 225 = .ok (.getfield 19, 3) := by decide +kernel
theorem dX7_count_228 : decode cX7_count 228 = .ok (.getfield 59, 3) := by decide +kernel
theorem dX7_count_231 : decode cX7_count 231 = .ok (.ireturn, 1) := by decide +kernel
theorem dX7_count_232 : decode cX7_count 232 = .ok (.bipush (-2), 2) := by decide +kernel
theorem dX7_count_234 : decode cX7_count 234 = .ok (.ireturn, 1) := by decide +kernel
set_option maxRecDepth 20000 in
theorem ggX7_performed_X2_at : GoodIn wsX7_performed wsX2_at := goodIn_r _ [11, 12, 43] (by decide +kernel) (by decide +kernel)
set_option maxRecDepth 20000 in
theorem gX7_performed_X2_at : GoodIn wsX7_performed (wsV RX7 104 RX2 yX2_at wsX2_at) := goodIn_app (goodIn_of _ (by decide +kernel)) ggX7_performed_X2_at
set_option maxRecDepth 20000 in
theorem ggX7_performed_J6_bitCount_0f7a4 : GoodIn wsX7_performed wsJ6_bitCount_0f7a4 := goodIn_r _ [16, 17, 18, 19] (by decide +kernel) (by decide +kernel)
set_option maxRecDepth 20000 in
theorem gX7_performed_J6_bitCount_0f7a4 : GoodIn wsX7_performed (va_wsS RX7 241 yJ6_bitCount_0f7a4 wsJ6_bitCount_0f7a4) := goodIn_app (goodIn_of _ (by decide +kernel)) ggX7_performed_J6_bitCount_0f7a4
theorem dX7_performed_0 : decode cX7_performed 0 = .ok (.aload_n 0, 1) := by decide +kernel
theorem dX7_performed_1 : decode cX7_performed 1 = .ok (.getfield 44, 3) := by decide +kernel
theorem dX7_performed_4 : decode cX7_performed 4 = .ok (.getfield 238, 3) := by decide +kernel
theorem dX7_performed_7 : decode cX7_performed 7 = .ok (.iload_n 1, 1) := by decide +kernel
theorem dX7_performed_8 : decode cX7_performed 8 = .ok (.invokevirtual 104, 3) := by decide +kernel
theorem dX7_performed_11 : decode cX7_performed 11 = .ok (.invokestatic 241, 3) := by decide +kernel
theorem dX7_performed_14 : decode cX7_performed 14 = .ok (.istore_n 3, 1) := by decide +kernel
theorem dX7_performed_15 : decode cX7_performed 15 = .ok (.iload_n 2, 1) := by decide +kernel
theorem dX7_performed_16 : decode cX7_performed 16 = .ok (.tableswitch 82 3 7 #[36, 82, 38, 53, 68], 36) := by decide +kernel
theorem dX7_performed_52 : decode cX7_performed 52 = .ok (.iload_n 3, 1) := by decide +kernel
theorem dX7_performed_53 : decode cX7_performed 53 = .ok (.ireturn, 1) := by decide +kernel
theorem dX7_performed_54 : decode cX7_performed 54 = .ok (.aload_n 0, 1) := by decide +kernel
theorem dX7_performed_55 : decode cX7_performed 55 = .ok (.getfield 44, 3) := by decide +kernel
theorem dX7_performed_58 : decode cX7_performed 58 = .ok (.getfield 246, 3) := by decide +kernel
theorem dX7_performed_61 : decode cX7_performed 61 = .ok (.iload_n 1, 1) := by decide +kernel
theorem dX7_performed_62 : decode cX7_performed 62 = .ok (.invokevirtual 104, 3) := by decide +kernel
theorem dX7_performed_65 : decode cX7_performed 65 = .ok (.invokestatic 241, 3) := by decide +kernel
theorem dX7_performed_68 : decode cX7_performed 68 = .ok (.ireturn, 1) := by decide +kernel
theorem dX7_performed_69 : decode cX7_performed 69 = .ok (.aload_n 0, 1) := by decide +kernel
theorem dX7_performed_70 : decode cX7_performed 70 = .ok (.getfield 44, 3) := by decide +kernel
theorem dX7_performed_73 : decode cX7_performed 73 = .ok (.getfield 249, 3) := by decide +kernel
theorem dX7_performed_76 : decode cX7_performed 76 = .ok (.iload_n 1, 1) := by decide +kernel
theorem dX7_performed_77 : decode cX7_performed 77 = .ok (.invokevirtual 104, 3) := by decide +kernel
theorem dX7_performed_80 : decode cX7_performed 80 = .ok (.invokestatic 241, 3) := by decide +kernel
theorem dX7_performed_83 : decode cX7_performed 83 = .ok (.ireturn, 1) := by decide +kernel
theorem dX7_performed_84 : decode cX7_performed 84 = .ok (.iload_n 3, 1) := by decide +kernel
theorem dX7_performed_85 : decode cX7_performed 85 = .ok (.aload_n 0, 1) := by decide +kernel
theorem dX7_performed_86 : decode cX7_performed 86 = .ok (.getfield 10, 3) := by decide +kernel
theorem dX7_performed_89 : decode cX7_performed 89 = .ok (.getfield 88, 3) := by decide +kernel
theorem dX7_performed_92 : decode cX7_performed 92 = .ok (.iload_n 1, 1) := by decide +kernel
theorem dX7_performed_93 : decode cX7_performed 93 = .ok (.invokevirtual 104, 3) := by decide +kernel
theorem dX7_performed_96 : decode cX7_performed 96 = .ok (.imul, 1) := by decide +kernel
theorem dX7_performed_97 : decode cX7_performed 97 = .ok (.ireturn, 1) := by decide +kernel
theorem dX7_performed_98 : decode cX7_performed 98 = .ok (.bipush (-2), 2) := by decide +kernel
theorem dX7_performed_100 : decode cX7_performed 100 = .ok (.ireturn, 1) := by decide +kernel
set_option maxRecDepth 20000 in
theorem ggX7_performedBy_X6_countDoing : GoodIn wsX7_performedBy wsX6_countDoing := goodIn_r _ [6, 7, 8, 9, 10, 11, 12, 13, 14, 39, 40, 41, 42, 43] (by decide +kernel) (by decide +kernel)
set_option maxRecDepth 20000 in
theorem gX7_performedBy_X6_countDoing : GoodIn wsX7_performedBy (wsV RX7 223 RX6 yX6_countDoing wsX6_countDoing) := goodIn_app (goodIn_of _ (by decide +kernel)) ggX7_performedBy_X6_countDoing
set_option maxRecDepth 20000 in
theorem ggX7_performedBy_X6_leastLeft : GoodIn wsX7_performedBy wsX6_leastLeft := goodIn_r _ [18, 19, 7, 20, 21, 22, 23, 24, 9, 10, 11, 12, 13, 14, 39, 40, 41, 42, 43] (by decide +kernel) (by decide +kernel)
set_option maxRecDepth 20000 in
theorem gX7_performedBy_X6_leastLeft : GoodIn wsX7_performedBy (wsV RX7 252 RX6 yX6_leastLeft wsX6_leastLeft) := goodIn_app (goodIn_of _ (by decide +kernel)) ggX7_performedBy_X6_leastLeft
set_option maxRecDepth 20000 in
theorem ggX7_performedBy_X6_longestSung : GoodIn wsX7_performedBy wsX6_longestSung := goodIn_r _ [28, 7, 8, 29, 30, 23, 31, 9, 10, 11, 12, 13, 14, 39, 40, 41, 42, 43] (by decide +kernel) (by decide +kernel)
set_option maxRecDepth 20000 in
theorem gX7_performedBy_X6_longestSung : GoodIn wsX7_performedBy (wsV RX7 255 RX6 yX6_longestSung wsX6_longestSung) := goodIn_app (goodIn_of _ (by decide +kernel)) ggX7_performedBy_X6_longestSung
theorem dX7_performedBy_0 : decode cX7_performedBy 0 = .ok (.iload_n 1, 1) := by decide +kernel
theorem dX7_performedBy_1 : decode cX7_performedBy 1 = .ok (.tableswitch 65 4 7 #[31, 40, 49, 57], 31) := by decide +kernel
theorem dX7_performedBy_32 : decode cX7_performedBy 32 = .ok (.aload_n 0, 1) := by decide +kernel
theorem dX7_performedBy_33 : decode cX7_performedBy 33 = .ok (.getfield 37, 3) := by decide +kernel
theorem dX7_performedBy_36 : decode cX7_performedBy 36 = .ok (.iconst 0, 1) := by decide +kernel
theorem dX7_performedBy_37 : decode cX7_performedBy 37 = .ok (.invokevirtual 223, 3) := by decide +kernel
theorem dX7_performedBy_40 : decode cX7_performedBy 40 = .ok (.ireturn, 1) := by decide +kernel
theorem dX7_performedBy_41 : decode cX7_performedBy 41 = .ok (.aload_n 0, 1) := by decide +kernel
theorem dX7_performedBy_42 : decode cX7_performedBy 42 = .ok (.getfield 37, 3) := by decide +kernel
theorem dX7_performedBy_45 : decode cX7_performedBy 45 = .ok (.iconst 2, 1) := by decide +kernel
theorem dX7_performedBy_46 : decode cX7_performedBy 46 = .ok (.invokevirtual 223, 3) := by decide +kernel
theorem dX7_performedBy_49 : decode cX7_performedBy 49 = .ok (.ireturn, 1) := by decide +kernel
theorem dX7_performedBy_50 : decode cX7_performedBy 50 = .ok (.aload_n 0, 1) := by decide +kernel
theorem dX7_performedBy_51 : decode cX7_performedBy 51 = .ok (.getfield 37, 3) := by decide +kernel
theorem dX7_performedBy_54 : decode cX7_performedBy 54 = .ok (.invokevirtual 252, 3) := by decide +kernel
theorem dX7_performedBy_57 : decode cX7_performedBy 57 = .ok (.ireturn, 1) := by decide +kernel
theorem dX7_performedBy_58 : decode cX7_performedBy 58 = .ok (.aload_n 0, 1) := by decide +kernel
theorem dX7_performedBy_59 : decode cX7_performedBy 59 = .ok (.getfield 37, 3) := by decide +kernel
theorem dX7_performedBy_62 : decode cX7_performedBy 62 = .ok (.invokevirtual 255, 3) := by decide +kernel
theorem dX7_performedBy_65 : decode cX7_performedBy 65 = .ok (.ireturn, 1) := by decide +kernel
theorem dX7_performedBy_66 : decode cX7_performedBy 66 = .ok (.bipush (-2), 2) := by decide +kernel
theorem dX7_performedBy_68 : decode cX7_performedBy 68 = .ok (.ireturn, 1) := by decide +kernel
theorem dX7_isWithin_0 : decode cX7_isWithin 0 = .ok (.iload_n 0, 1) := by decide +kernel
theorem dX7_isWithin_1 : decode cX7_isWithin 1 = .ok (.iload_n 1, 1) := by decide +kernel
theorem dX7_isWithin_2 : decode cX7_isWithin 2 = .ok (.if_icmp .lt 12, 3) := by decide +kernel
theorem dX7_isWithin_5 : decode cX7_isWithin 5 = .ok (.iload_n 0, 1) := by decide +kernel
theorem dX7_isWithin_6 : decode cX7_isWithin 6 = .ok (.iload_n 2, 1) := by decide +kernel
theorem dX7_isWithin_7 : decode cX7_isWithin 7 = .ok (.if_icmp .gt 7, 3) := by decide +kernel
theorem dX7_isWithin_10 : decode cX7_isWithin 10 = .ok (.iconst 1, 1) := by decide +kernel
theorem dX7_isWithin_11 : decode cX7_isWithin 11 = .ok (.goto 4, 3) := by decide +kernel
theorem dX7_isWithin_14 : decode cX7_isWithin 14 = .ok (.iconst 0, 1) := by decide +kernel
theorem dX7_isWithin_15 : decode cX7_isWithin 15 = .ok (.ireturn, 1) := by decide +kernel
theorem dX7_bit_0 : decode cX7_bit 0 = .ok (.iconst 1, 1) := by decide +kernel
theorem dX7_bit_1 : decode cX7_bit 1 = .ok (.iload_n 0, 1) := by decide +kernel
theorem dX7_bit_2 : decode cX7_bit 2 = .ok (.ishl, 1) := by decide +kernel
theorem dX7_bit_3 : decode cX7_bit 3 = .ok (.ireturn, 1) := by decide +kernel
theorem dX7_contains_0 : decode cX7_contains 0 = .ok (.iload_n 0, 1) := by decide +kernel
theorem dX7_contains_1 : decode cX7_contains 1 = .ok (.iload_n 1, 1) := by decide +kernel
theorem dX7_contains_2 : decode cX7_contains 2 = .ok (.ishr, 1) := by decide +kernel
theorem dX7_contains_3 : decode cX7_contains 3 = .ok (.iconst 1, 1) := by decide +kernel
theorem dX7_contains_4 : decode cX7_contains 4 = .ok (.iand, 1) := by decide +kernel
theorem dX7_contains_5 : decode cX7_contains 5 = .ok (.ifCond .eq 7, 3) := by decide +kernel
theorem dX7_contains_8 : decode cX7_contains 8 = .ok (.iconst 1, 1) := by decide +kernel
theorem dX7_contains_9 : decode cX7_contains 9 = .ok (.goto 4, 3) := by decide +kernel
theorem dX7_contains_12 : decode cX7_contains 12 = .ok (.iconst 0, 1) := by decide +kernel
theorem dX7_contains_13 : decode cX7_contains 13 = .ok (.ireturn, 1) := by decide +kernel
theorem dJ6_bitCount_0f7a4_0 : decode cJ6_bitCount_0f7a4 0 = .ok (.iload_n 0, 1) := by decide +kernel
theorem dJ6_bitCount_0f7a4_1 : decode cJ6_bitCount_0f7a4 1 = .ok (.iload_n 0, 1) := by decide +kernel
theorem dJ6_bitCount_0f7a4_2 : decode cJ6_bitCount_0f7a4 2 = .ok (.iconst 1, 1) := by decide +kernel
theorem dJ6_bitCount_0f7a4_3 : decode cJ6_bitCount_0f7a4 3 = .ok (.iushr, 1) := by decide +kernel
theorem dJ6_bitCount_0f7a4_4 : decode cJ6_bitCount_0f7a4 4 = .ok (.ldc_w 265, 3) := by decide +kernel
theorem dJ6_bitCount_0f7a4_7 : decode cJ6_bitCount_0f7a4 7 = .ok (.iand, 1) := by decide +kernel
theorem dJ6_bitCount_0f7a4_8 : decode cJ6_bitCount_0f7a4 8 = .ok (.isub, 1) := by decide +kernel
theorem dJ6_bitCount_0f7a4_9 : decode cJ6_bitCount_0f7a4 9 = .ok (.istore_n 0, 1) := by decide +kernel
theorem dJ6_bitCount_0f7a4_10 : decode cJ6_bitCount_0f7a4 10 = .ok (.iload_n 0, 1) := by decide +kernel
theorem dJ6_bitCount_0f7a4_11 : decode cJ6_bitCount_0f7a4 11 = .ok (.ldc_w 266, 3) := by decide +kernel
theorem dJ6_bitCount_0f7a4_14 : decode cJ6_bitCount_0f7a4 14 = .ok (.iand, 1) := by decide +kernel
theorem dJ6_bitCount_0f7a4_15 : decode cJ6_bitCount_0f7a4 15 = .ok (.iload_n 0, 1) := by decide +kernel
theorem dJ6_bitCount_0f7a4_16 : decode cJ6_bitCount_0f7a4 16 = .ok (.iconst 2, 1) := by decide +kernel
theorem dJ6_bitCount_0f7a4_17 : decode cJ6_bitCount_0f7a4 17 = .ok (.iushr, 1) := by decide +kernel
theorem dJ6_bitCount_0f7a4_18 : decode cJ6_bitCount_0f7a4 18 = .ok (.ldc_w 266, 3) := by decide +kernel
theorem dJ6_bitCount_0f7a4_21 : decode cJ6_bitCount_0f7a4 21 = .ok (.iand, 1) := by decide +kernel
theorem dJ6_bitCount_0f7a4_22 : decode cJ6_bitCount_0f7a4 22 = .ok (.iadd, 1) := by decide +kernel
theorem dJ6_bitCount_0f7a4_23 : decode cJ6_bitCount_0f7a4 23 = .ok (.istore_n 0, 1) := by decide +kernel
theorem dJ6_bitCount_0f7a4_24 : decode cJ6_bitCount_0f7a4 24 = .ok (.iload_n 0, 1) := by decide +kernel
theorem dJ6_bitCount_0f7a4_25 : decode cJ6_bitCount_0f7a4 25 = .ok (.iload_n 0, 1) := by decide +kernel
theorem dJ6_bitCount_0f7a4_26 : decode cJ6_bitCount_0f7a4 26 = .ok (.iconst 4, 1) := by decide +kernel
theorem dJ6_bitCount_0f7a4_27 : decode cJ6_bitCount_0f7a4 27 = .ok (.iushr, 1) := by decide +kernel
theorem dJ6_bitCount_0f7a4_28 : decode cJ6_bitCount_0f7a4 28 = .ok (.iadd, 1) := by decide +kernel
theorem dJ6_bitCount_0f7a4_29 : decode cJ6_bitCount_0f7a4 29 = .ok (.ldc_w 267, 3) := by decide +kernel
theorem dJ6_bitCount_0f7a4_32 : decode cJ6_bitCount_0f7a4 32 = .ok (.iand, 1) := by decide +kernel
theorem dJ6_bitCount_0f7a4_33 : decode cJ6_bitCount_0f7a4 33 = .ok (.istore_n 0, 1) := by decide +kernel
theorem dJ6_bitCount_0f7a4_34 : decode cJ6_bitCount_0f7a4 34 = .ok (.iload_n 0, 1) := by decide +kernel
theorem dJ6_bitCount_0f7a4_35 : decode cJ6_bitCount_0f7a4 35 = .ok (.iload_n 0, 1) := by decide +kernel
theorem dJ6_bitCount_0f7a4_36 : decode cJ6_bitCount_0f7a4 36 = .ok (.bipush 8, 2) := by decide +kernel
theorem dJ6_bitCount_0f7a4_38 : decode cJ6_bitCount_0f7a4 38 = .ok (.iushr, 1) := by decide +kernel
theorem dJ6_bitCount_0f7a4_39 : decode cJ6_bitCount_0f7a4 39 = .ok (.iadd, 1) := by decide +kernel
theorem dJ6_bitCount_0f7a4_40 : decode cJ6_bitCount_0f7a4 40 = .ok (.istore_n 0, 1) := by decide +kernel
theorem dJ6_bitCount_0f7a4_41 : decode cJ6_bitCount_0f7a4 41 = .ok (.iload_n 0, 1) := by decide +kernel
theorem dJ6_bitCount_0f7a4_42 : decode cJ6_bitCount_0f7a4 42 = .ok (.iload_n 0, 1) := by decide +kernel
theorem dJ6_bitCount_0f7a4_43 : decode cJ6_bitCount_0f7a4 43 = .ok (.bipush 16, 2) := by decide +kernel
theorem dJ6_bitCount_0f7a4_45 : decode cJ6_bitCount_0f7a4 45 = .ok (.iushr, 1) := by decide +kernel
theorem dJ6_bitCount_0f7a4_46 : decode cJ6_bitCount_0f7a4 46 = .ok (.iadd, 1) := by decide +kernel
theorem dJ6_bitCount_0f7a4_47 : decode cJ6_bitCount_0f7a4 47 = .ok (.istore_n 0, 1) := by decide +kernel
theorem dJ6_bitCount_0f7a4_48 : decode cJ6_bitCount_0f7a4 48 = .ok (.iload_n 0, 1) := by decide +kernel
theorem dJ6_bitCount_0f7a4_49 : decode cJ6_bitCount_0f7a4 49 = .ok (.bipush 63, 2) := by decide +kernel
theorem dJ6_bitCount_0f7a4_51 : decode cJ6_bitCount_0f7a4 51 = .ok (.iand, 1) := by decide +kernel
theorem dJ6_bitCount_0f7a4_52 : decode cJ6_bitCount_0f7a4 52 = .ok (.ireturn, 1) := by decide +kernel
theorem dJ9_max_7cf53_0 : decode cJ9_max_7cf53 0 = .ok (.iload_n 0, 1) := by decide +kernel
theorem dJ9_max_7cf53_1 : decode cJ9_max_7cf53 1 = .ok (.iload_n 1, 1) := by decide +kernel
theorem dJ9_max_7cf53_2 : decode cJ9_max_7cf53 2 = .ok (.if_icmp .lt 7, 3) := by decide +kernel
theorem dJ9_max_7cf53_5 : decode cJ9_max_7cf53 5 = .ok (.iload_n 0, 1) := by decide +kernel
theorem dJ9_max_7cf53_6 : decode cJ9_max_7cf53 6 = .ok (.goto 4, 3) := by decide +kernel
theorem dJ9_max_7cf53_9 : decode cJ9_max_7cf53 9 = .ok (.iload_n 1, 1) := by decide +kernel
theorem dJ9_max_7cf53_10 : decode cJ9_max_7cf53 10 = .ok (.ireturn, 1) := by decide +kernel
theorem dJ9_min_7cf53_0 : decode cJ9_min_7cf53 0 = .ok (.iload_n 0, 1) := by decide +kernel
theorem dJ9_min_7cf53_1 : decode cJ9_min_7cf53 1 = .ok (.iload_n 1, 1) := by decide +kernel
theorem dJ9_min_7cf53_2 : decode cJ9_min_7cf53 2 = .ok (.if_icmp .gt 7, 3) := by decide +kernel
theorem dJ9_min_7cf53_5 : decode cJ9_min_7cf53 5 = .ok (.iload_n 0, 1) := by decide +kernel
theorem dJ9_min_7cf53_6 : decode cJ9_min_7cf53 6 = .ok (.goto 4, 3) := by decide +kernel
theorem dJ9_min_7cf53_9 : decode cJ9_min_7cf53 9 = .ok (.iload_n 1, 1) := by decide +kernel
theorem dJ9_min_7cf53_10 : decode cJ9_min_7cf53 10 = .ok (.ireturn, 1) := by decide +kernel
