set_option maxRecDepth 20000 in
theorem ggX0_init_X2_init : GoodIn wsX0_init wsX2_init := goodIn_r _ [12, 13, 2, 3, 14, 15, 16, 17, 18, 19, 20] (by decide +kernel) (by decide +kernel)
set_option maxRecDepth 20000 in
theorem gX0_init_X2_init : GoodIn wsX0_init (wsX2_init) := ggX0_init_X2_init
theorem dX0_init_0 : decode cX0_init 0 = .ok (.aload_n 0, 1) := by decide +kernel
theorem dX0_init_1 : decode cX0_init 1 = .ok (.invokespecial 3, 3) := by decide +kernel
theorem dX0_init_4 : decode cX0_init 4 = .ok (.aload_n 0, 1) := by decide +kernel
theorem dX0_init_5 : decode cX0_init 5 = .ok (.new 9, 3) := by decide +kernel
theorem dX0_init_8 : decode cX0_init 8 = .ok (.dup, 1) := by decide +kernel
theorem dX0_init_9 : decode cX0_init 9 = .ok (.bipush 96, 2) := by decide +kernel
theorem dX0_init_11 : decode cX0_init 11 = .ok (.invokespecial 11, 3) := by decide +kernel
theorem dX0_init_14 : decode cX0_init 14 = .ok (.putfield 14, 3) := by decide +kernel
theorem dX0_init_17 : decode cX0_init 17 = .ok (.aload_n 0, 1) := by decide +kernel
theorem dX0_init_18 : decode cX0_init 18 = .ok (.new 9, 3) := by decide +kernel
theorem dX0_init_21 : decode cX0_init 21 = .ok (.dup, 1) := by decide +kernel
theorem dX0_init_22 : decode cX0_init 22 = .ok (.bipush 96, 2) := by decide +kernel
theorem dX0_init_24 : decode cX0_init 24 = .ok (.invokespecial 11, 3) := by decide +kernel
theorem dX0_init_27 : decode cX0_init 27 = .ok (.putfield 20, 3) := by decide +kernel
theorem dX0_init_30 : decode cX0_init 30 = .ok (.aload_n 0, 1) := by decide +kernel
theorem dX0_init_31 : decode cX0_init 31 = .ok (.new 9, 3) := by decide +kernel
theorem dX0_init_34 : decode cX0_init 34 = .ok (.dup, 1) := by decide +kernel
theorem dX0_init_35 : decode cX0_init 35 = .ok (.bipush 96, 2) := by decide +kernel
theorem dX0_init_37 : decode cX0_init 37 = .ok (.invokespecial 11, 3) := by decide +kernel
theorem dX0_init_40 : decode cX0_init 40 = .ok (.putfield 23, 3) := by decide +kernel
theorem dX0_init_43 : decode cX0_init 43 = .ok (.return_, 1) := by decide +kernel
set_option maxRecDepth 20000 in
theorem ggX0_follow_X2_clear : GoodIn wsX0_follow wsX2_clear := goodIn_r _ [12, 13, 104] (by decide +kernel) (by decide +kernel)
set_option maxRecDepth 20000 in
theorem gX0_follow_X2_clear : GoodIn wsX0_follow (wsV RX0 26 RX2 yX2_clear wsX2_clear) := goodIn_app (goodIn_of _ (by decide +kernel)) ggX0_follow_X2_clear
set_option maxRecDepth 20000 in
theorem ggX0_follow_X2_at : GoodIn wsX0_follow wsX2_at := goodIn_r _ [17, 13, 104] (by decide +kernel) (by decide +kernel)
set_option maxRecDepth 20000 in
theorem gX0_follow_X2_at : GoodIn wsX0_follow (wsV RX0 38 RX2 yX2_at wsX2_at) := goodIn_app (goodIn_of _ (by decide +kernel)) ggX0_follow_X2_at
set_option maxRecDepth 20000 in
theorem ggX0_follow_X6_follow : GoodIn wsX0_follow wsX6_follow := goodIn_r _ [22, 23, 24, 25, 26, 27, 28, 29, 30, 31, 32, 33, 34, 15, 16, 11, 17, 13, 35, 36, 37, 38, 39, 40, 41, 42, 43, 44, 45, 46, 47, 48, 49, 50, 51, 52, 53, 54, 55, 56, 57, 58, 59, 60, 61, 62, 63, 64, 65, 66, 67, 68, 69, 70, 71, 72, 73, 74, 75, 87, 88, 89, 90, 91, 92, 93, 94, 95, 96, 97, 98, 99, 100, 101, 102, 103, 104] (by decide +kernel) (by decide +kernel)
set_option maxRecDepth 20000 in
theorem gX0_follow_X6_follow : GoodIn wsX0_follow (wsV RX0 42 RX6 yX6_follow wsX6_follow) := goodIn_app (goodIn_of _ (by decide +kernel)) ggX0_follow_X6_follow
set_option maxRecDepth 20000 in
theorem ggX0_follow_X0_collect : GoodIn wsX0_follow wsX0_collect := goodIn_r _ [80, 1, 2, 3, 14, 15, 16, 11, 17, 13, 81, 58, 82, 83, 73, 74, 75, 84, 85, 86, 104] (by decide +kernel) (by decide +kernel)
set_option maxRecDepth 20000 in
theorem gX0_follow_X0_collect : GoodIn wsX0_follow (wsV RX0 54 RX0 yX0_collect wsX0_collect) := goodIn_app (goodIn_of _ (by decide +kernel)) ggX0_follow_X0_collect
theorem dX0_follow_0 : decode cX0_follow 0 = .ok (.aload_n 0, 1) := by decide +kernel
theorem dX0_follow_1 : decode cX0_follow 1 = .ok (.getfield 14, 3) := by decide +kernel
theorem dX0_follow_4 : decode cX0_follow 4 = .ok (.invokevirtual 26, 3) := by decide +kernel
theorem dX0_follow_7 : decode cX0_follow 7 = .ok (.aload_n 0, 1) := by decide +kernel
theorem dX0_follow_8 : decode cX0_follow 8 = .ok (.getfield 20, 3) := by decide +kernel
theorem dX0_follow_11 : decode cX0_follow 11 = .ok (.invokevirtual 26, 3) := by decide +kernel
theorem dX0_follow_14 : decode cX0_follow 14 = .ok (.aload_n 0, 1) := by decide +kernel
theorem dX0_follow_15 : decode cX0_follow 15 = .ok (.getfield 23, 3) := by decide +kernel
theorem dX0_follow_18 : decode cX0_follow 18 = .ok (.invokevirtual 26, 3) := by decide +kernel
theorem dX0_follow_21 : decode cX0_follow 21 = .ok (.iconst 0, 1) := by decide +kernel
theorem dX0_follow_22 : decode cX0_follow 22 = .ok (.istore_n 3, 1) := by decide +kernel
theorem dX0_follow_23 : decode cX0_follow 23 = .ok (.iload_n 3, 1) := by decide +kernel
theorem dX0_follow_24 : decode cX0_follow 24 = .ok (.aload_n 1, 1) := by decide +kernel
theorem dX0_follow_25 : decode cX0_follow 25 = .ok (.getfield 29, 3) := by decide +kernel
theorem dX0_follow_28 : decode cX0_follow 28 = .ok (.if_icmp .ge 57, 3) := by decide +kernel
theorem dX0_follow_31 : decode cX0_follow 31 = .ok (.aload_n 2, 1) := by decide +kernel
theorem dX0_follow_32 : decode cX0_follow 32 = .ok (.aload_n 1, 1) := by decide +kernel
theorem dX0_follow_33 : decode cX0_follow 33 = .ok (.iload_n 3, 1) := by decide +kernel
theorem dX0_follow_34 : decode cX0_follow 34 = .ok (.aload_n 1, 1) := by decide +kernel
theorem dX0_follow_35 : decode cX0_follow 35 = .ok (.getfield 35, 3) := by decide +kernel
theorem dX0_follow_38 : decode cX0_follow 38 = .ok (.iload_n 3, 1) := by decide +kernel
theorem dX0_follow_39 : decode cX0_follow 39 = .ok (.invokevirtual 38, 3) := by decide +kernel
theorem dX0_follow_42 : decode cX0_follow 42 = .ok (.invokevirtual 42, 3) := by decide +kernel
theorem dX0_follow_45 : decode cX0_follow 45 = .ok (.iconst 0, 1) := by decide +kernel
theorem dX0_follow_46 : decode cX0_follow 46 = .ok (.istore 4, 2) := by decide +kernel
theorem dX0_follow_48 : decode cX0_follow 48 = .ok (.iload 4, 2) := by decide +kernel
theorem dX0_follow_50 : decode cX0_follow 50 = .ok (.aload_n 1, 1) := by decide +kernel
theorem dX0_follow_51 : decode cX0_follow 51 = .ok (.getfield 48, 3) := by decide +kernel
theorem dX0_follow_54 : decode cX0_follow 54 = .ok (.if_icmp .ge 25, 3) := by decide +kernel
theorem dX0_follow_57 : decode cX0_follow 57 = .ok (.aload_n 0, 1) := by decide +kernel
theorem dX0_follow_58 : decode cX0_follow 58 = .ok (.iload_n 3, 1) := by decide +kernel
theorem dX0_follow_59 : decode cX0_follow 59 = .ok (.iload 4, 2) := by decide +kernel
theorem dX0_follow_61 : decode cX0_follow 61 = .ok (.aload_n 2, 1) := by decide +kernel
theorem dX0_follow_62 : decode cX0_follow 62 = .ok (.getfield 51, 3) := by decide +kernel
theorem dX0_follow_65 : decode cX0_follow 65 = .ok (.iload 4, 2) := by decide +kernel
theorem dX0_follow_67 : decode cX0_follow 67 = .ok (.invokevirtual 38, 3) := by decide +kernel
theorem dX0_follow_70 : decode cX0_follow 70 = .ok (.invokevirtual 54, 3) := by decide +kernel
theorem dX0_follow_73 : decode cX0_follow 73 = .ok (.iinc 4 1, 3) := by decide +kernel
theorem dX0_follow_76 : decode cX0_follow 76 = .ok (.goto (-28), 3) := by decide +kernel
theorem dX0_follow_79 : decode cX0_follow 79 = .ok (.iinc 3 1, 3) := by decide +kernel
theorem dX0_follow_82 : decode cX0_follow 82 = .ok (.goto (-59), 3) := by decide +kernel
theorem dX0_follow_85 : decode cX0_follow 85 = .ok (.return_, 1) := by decide +kernel
set_option maxRecDepth 20000 in
theorem ggX0_collect_X2_at : GoodIn wsX0_collect wsX2_at := goodIn_r _ [8, 9, 20] (by decide +kernel) (by decide +kernel)
set_option maxRecDepth 20000 in
theorem gX0_collect_X2_at : GoodIn wsX0_collect (wsV RX0 38 RX2 yX2_at wsX2_at) := goodIn_app (goodIn_of _ (by decide +kernel)) ggX0_collect_X2_at
set_option maxRecDepth 20000 in
theorem ggX0_collect_X7_bit : GoodIn wsX0_collect wsX7_bit := goodIn_r _ [12] (by decide +kernel) (by decide +kernel)
set_option maxRecDepth 20000 in
theorem gX0_collect_X7_bit_n58 : GoodIn wsX0_collect (wsX7_bit) := ggX0_collect_X7_bit
set_option maxRecDepth 20000 in
theorem ggX0_collect_X2_put : GoodIn wsX0_collect wsX2_put := goodIn_r _ [16, 9, 20] (by decide +kernel) (by decide +kernel)
set_option maxRecDepth 20000 in
theorem gX0_collect_X2_put : GoodIn wsX0_collect (wsV RX0 61 RX2 yX2_put wsX2_put) := goodIn_app (goodIn_of _ (by decide +kernel)) ggX0_collect_X2_put
theorem dX0_collect_0 : decode cX0_collect 0 = .ok (.iload_n 3, 1) := by decide +kernel
theorem dX0_collect_1 : decode cX0_collect 1 = .ok (.tableswitch 99 0 2 #[27, 51, 75], 27) := by decide +kernel
theorem dX0_collect_28 : decode cX0_collect 28 = .ok (.aload_n 0, 1) := by decide +kernel
theorem dX0_collect_29 : decode cX0_collect 29 = .ok (.getfield 14, 3) := by decide +kernel
theorem dX0_collect_32 : decode cX0_collect 32 = .ok (.iload_n 2, 1) := by decide +kernel
theorem dX0_collect_33 : decode cX0_collect 33 = .ok (.aload_n 0, 1) := by decide +kernel
theorem dX0_collect_34 : decode cX0_collect 34 = .ok (.getfield 14, 3) := by decide +kernel
theorem dX0_collect_37 : decode cX0_collect 37 = .ok (.iload_n 2, 1) := by decide +kernel
theorem dX0_collect_38 : decode cX0_collect 38 = .ok (.invokevirtual 38, 3) := by decide +kernel
theorem dX0_collect_41 : decode cX0_collect 41 = .ok (.iload_n 1, 1) := by decide +kernel
theorem dX0_collect_42 : decode cX0_collect 42 = .ok (.invokestatic 58, 3) := by decide +kernel
theorem dX0_collect_45 : decode cX0_collect 45 = .ok (.ior, 1) := by decide +kernel
theorem dX0_collect_46 : decode cX0_collect 46 = .ok (.invokevirtual 61, 3) := by decide +kernel
theorem dX0_collect_49 : decode cX0_collect 49 = .ok (.goto 51, 3) := by decide +kernel
theorem dX0_collect_52 : decode cX0_collect 52 = .ok (.aload_n 0, 1) := by decide +kernel
theorem dX0_collect_53 : decode cX0_collect 53 = .ok (.getfield 20, 3) := by decide +kernel
theorem dX0_collect_56 : decode cX0_collect 56 = .ok (.iload_n 2, 1) := by decide +kernel
theorem dX0_collect_57 : decode cX0_collect 57 = .ok (.aload_n 0, 1) := by decide +kernel
theorem dX0_collect_58 : decode cX0_collect 58 = .ok (.getfield 20, 3) := by decide +kernel
theorem dX0_collect_61 : decode cX0_collect 61 = .ok (.iload_n 2, 1) := by decide +kernel
theorem dX0_collect_62 : decode cX0_collect 62 = .ok (.invokevirtual 38, 3) := by decide +kernel
theorem dX0_collect_65 : decode cX0_collect 65 = .ok (.iload_n 1, 1) := by decide +kernel
theorem dX0_collect_66 : decode cX0_collect 66 = .ok (.invokestatic 58, 3) := by decide +kernel
theorem dX0_collect_69 : decode cX0_collect 69 = .ok (.ior, 1) := by decide +kernel
theorem dX0_collect_70 : decode cX0_collect 70 = .ok (.invokevirtual 61, 3) := by decide +kernel
theorem dX0_collect_73 : decode cX0_collect 73 = .ok (.goto 27, 3) := by decide +kernel
theorem dX0_collect_76 : decode cX0_collect 76 = .ok (.aload_n 0, 1) := by decide +kernel
theorem dX0_collect_77 : decode cX0_collect 77 = .ok (.getfield 23, 3) := by decide +kernel
theorem dX0_collect_80 : decode cX0_collect 80 = .ok (.iload_n 2, 1) := by decide +kernel
theorem dX0_collect_81 : decode cX0_collect 81 = .ok (.aload_n 0, 1) := by decide +kernel
theorem dX0_collect_82 : decode cX0_collect 82 = .ok (.getfield 23, 3) := by decide +kernel
theorem dX0_collect_85 : decode cX0_collect 85 = .ok (.iload_n 2, 1) := by decide +kernel
theorem dX0_collect_86 : decode cX0_collect 86 = .ok (.invokevirtual 38, 3) := by decide +kernel
theorem dX0_collect_89 : decode cX0_collect 89 = .ok (.iload_n 1, 1) := by decide +kernel
theorem dX0_collect_90 : decode cX0_collect 90 = .ok (.invokestatic 58, 3) := by decide +kernel
theorem dX0_collect_93 : decode cX0_collect 93 = .ok (.ior, 1) := by decide +kernel
theorem dX0_collect_94 : decode cX0_collect 94 = .ok (.invokevirtual 61, 3) := by decide +kernel
theorem dX0_collect_97 : decode cX0_collect 97 = .ok (.goto 3, 3) := by decide +kernel
theorem dX0_collect_100 : decode cX0_collect 100 = .ok (.return_, 1) := by decide +kernel
set_option maxRecDepth 20000 in
theorem ggX0_countSilentWithout_X4_isRest : GoodIn wsX0_countSilentWithout wsX4_isRest := goodIn_r _ [7, 8, 9, 10, 11, 12, 13, 14, 19, 20, 21, 22, 23, 24, 25, 26, 27, 28, 29, 30, 31, 35] (by decide +kernel) (by decide +kernel)
set_option maxRecDepth 20000 in
theorem gX0_countSilentWithout_X4_isRest : GoodIn wsX0_countSilentWithout (wsV RX0 65 RX4 yX4_isRest wsX4_isRest) := goodIn_app (goodIn_of _ (by decide +kernel)) ggX0_countSilentWithout_X4_isRest
set_option maxRecDepth 20000 in
theorem ggX0_countSilentWithout_X2_at : GoodIn wsX0_countSilentWithout wsX2_at := goodIn_r _ [13, 14, 35] (by decide +kernel) (by decide +kernel)
set_option maxRecDepth 20000 in
theorem gX0_countSilentWithout_X2_at : GoodIn wsX0_countSilentWithout (wsV RX0 38 RX2 yX2_at wsX2_at) := goodIn_app (goodIn_of _ (by decide +kernel)) ggX0_countSilentWithout_X2_at
set_option maxRecDepth 20000 in
theorem ggX0_countSilentWithout_X7_bit : GoodIn wsX0_countSilentWithout wsX7_bit := goodIn_r _ [18] (by decide +kernel) (by decide +kernel)
set_option maxRecDepth 20000 in
theorem gX0_countSilentWithout_X7_bit_n58 : GoodIn wsX0_countSilentWithout (wsX7_bit) := ggX0_countSilentWithout_X7_bit
theorem dX0_countSilentWithout_0 : decode cX0_countSilentWithout 0 = .ok (.iconst 0, 1) := by decide +kernel
theorem dX0_countSilentWithout_1 : decode cX0_countSilentWithout 1 = .ok (.istore_n 3, 1) := by decide +kernel
theorem dX0_countSilentWithout_2 : decode cX0_countSilentWithout 2 = .ok (.iconst 0, 1) := by decide +kernel
theorem dX0_countSilentWithout_3 : decode cX0_countSilentWithout 3 = .ok (.istore 4, 2) := by decide +kernel
theorem dX0_countSilentWithout_5 : decode cX0_countSilentWithout 5 = .ok (.iload 4, 2) := by decide +kernel
theorem dX0_countSilentWithout_7 : decode cX0_countSilentWithout 7 = .ok (.aload_n 1, 1) := by decide +kernel
theorem dX0_countSilentWithout_8 : decode cX0_countSilentWithout 8 = .ok (.getfield 48, 3) := by decide +kernel
theorem dX0_countSilentWithout_11 : decode cX0_countSilentWithout 11 = .ok (.if_icmp .ge 40, 3) := by decide +kernel
theorem dX0_countSilentWithout_14 : decode cX0_countSilentWithout 14 = .ok (.aload_n 1, 1) := by decide +kernel
theorem dX0_countSilentWithout_15 : decode cX0_countSilentWithout 15 = .ok (.iload 4, 2) := by decide +kernel
theorem dX0_countSilentWithout_17 : decode cX0_countSilentWithout 17 = .ok (.invokevirtual 65, 3) := by decide +kernel
theorem dX0_countSilentWithout_20 : decode cX0_countSilentWithout 20 = .ok (.ifCond .ne 25, 3) := by decide +kernel
theorem dX0_countSilentWithout_23 : decode cX0_countSilentWithout 23 = .ok (.aload_n 0, 1) := by decide +kernel
theorem dX0_countSilentWithout_24 : decode cX0_countSilentWithout 24 = .ok (.getfield 14, 3) := by decide +kernel
theorem dX0_countSilentWithout_27 : decode cX0_countSilentWithout 27 = .ok (.iload 4, 2) := by decide +kernel
theorem dX0_countSilentWithout_29 : decode cX0_countSilentWithout 29 = .ok (.invokevirtual 38, 3) := by decide +kernel
theorem dX0_countSilentWithout_32 : decode cX0_countSilentWithout 32 = .ok (.iload_n 2, 1) := by decide +kernel
theorem dX0_countSilentWithout_33 : decode cX0_countSilentWithout 33 = .ok (.invokestatic 58, 3) := by decide +kernel
theorem dX0_countSilentWithout_36 : decode cX0_countSilentWithout 36 = .ok (.iconst (-1), 1) := by decide +kernel
theorem dX0_countSilentWithout_37 : decode cX0_countSilentWithout 37 = .ok (.ixor, 1) := by decide +kernel
theorem dX0_countSilentWithout_38 : decode cX0_countSilentWithout 38 = .ok (.iand, 1) := by decide +kernel
theorem dX0_countSilentWithout_39 : decode cX0_countSilentWithout 39 = .ok (.ifCond .ne 6, 3) := by decide +kernel
theorem dX0_countSilentWithout_42 : decode cX0_countSilentWithout 42 = .ok (.iinc 3 1, 3) := by decide +kernel
theorem dX0_countSilentWithout_45 : decode cX0_countSilentWithout 45 = .ok (.iinc 4 1, 3) := by decide +kernel
theorem dX0_countSilentWithout_48 : decode cX0_countSilentWithout 48 = .ok (.goto (-43), 3) := by decide +kernel
theorem dX0_countSilentWithout_51 : decode cX0_countSilentWithout 51 = .ok (.iload_n 3, 1) := by decide +kernel
theorem dX0_countSilentWithout_52 : decode cX0_countSilentWithout 52 = .ok (.ireturn, 1) := by decide +kernel
set_option maxRecDepth 20000 in
theorem ggX0_countFaults_X0_faultsAt : GoodIn wsX0_countFaults wsX0_faultsAt := goodIn_r _ [6, 7, 8, 9, 10, 11, 12, 13, 14, 15, 16, 17, 18, 19, 20, 21, 22, 23, 24, 25, 5, 26, 27, 28, 29, 30, 31, 32, 33, 34, 35, 36, 37, 38, 39, 40, 41, 42, 43, 44, 45, 59, 60, 61, 46, 47, 48, 49, 50, 51, 52, 53, 54, 55, 56, 57, 58, 62] (by decide +kernel) (by decide +kernel)
set_option maxRecDepth 20000 in
theorem gX0_countFaults_X0_faultsAt : GoodIn wsX0_countFaults (wsV RX0 69 RX0 yX0_faultsAt wsX0_faultsAt) := goodIn_app (goodIn_of _ (by decide +kernel)) ggX0_countFaults_X0_faultsAt
set_option maxRecDepth 20000 in
theorem ggX0_countFaults_J6_bitCount_0f7a4 : GoodIn wsX0_countFaults wsJ6_bitCount_0f7a4 := goodIn_r _ [42, 43, 44, 45] (by decide +kernel) (by decide +kernel)
set_option maxRecDepth 20000 in
theorem gX0_countFaults_J6_bitCount_0f7a4 : GoodIn wsX0_countFaults (va_wsS RX0 73 yJ6_bitCount_0f7a4 wsJ6_bitCount_0f7a4) := goodIn_app (goodIn_of _ (by decide +kernel)) ggX0_countFaults_J6_bitCount_0f7a4
theorem dX0_countFaults_0 : decode cX0_countFaults 0 = .ok (.iconst 0, 1) := by decide +kernel
theorem dX0_countFaults_1 : decode cX0_countFaults 1 = .ok (.istore 4, 2) := by decide +kernel
theorem dX0_countFaults_3 : decode cX0_countFaults 3 = .ok (.iconst 0, 1) := by decide +kernel
theorem dX0_countFaults_4 : decode cX0_countFaults 4 = .ok (.istore 5, 2) := by decide +kernel
theorem dX0_countFaults_6 : decode cX0_countFaults 6 = .ok (.iload 5, 2) := by decide +kernel
theorem dX0_countFaults_8 : decode cX0_countFaults 8 = .ok (.aload_n 1, 1) := by decide +kernel
theorem dX0_countFaults_9 : decode cX0_countFaults 9 = .ok (.getfield 48, 3) := by decide +kernel
theorem dX0_countFaults_12 : decode cX0_countFaults 12 = .ok (.if_icmp .ge 41, 3) := by decide +kernel
theorem dX0_countFaults_15 : decode cX0_countFaults 15 = .ok (.iload_n 2, 1) := by decide +kernel
theorem dX0_countFaults_16 : decode cX0_countFaults 16 = .ok (.istore 6, 2) := by decide +kernel
theorem dX0_countFaults_18 : decode cX0_countFaults 18 = .ok (.iload 6, 2) := by decide +kernel
theorem dX0_countFaults_20 : decode cX0_countFaults 20 = .ok (.iload_n 3, 1) := by decide +kernel
theorem dX0_countFaults_21 : decode cX0_countFaults 21 = .ok (.if_icmp .gt 26, 3) := by decide +kernel
theorem dX0_countFaults_24 : decode cX0_countFaults 24 = .ok (.iload 4, 2) := by decide +kernel
theorem dX0_countFaults_26 : decode cX0_countFaults 26 = .ok (.aload_n 0, 1) := by decide +kernel
theorem dX0_countFaults_27 : decode cX0_countFaults 27 = .ok (.aload_n 1, 1) := by decide +kernel
theorem dX0_countFaults_28 : decode cX0_countFaults 28 = .ok (.iload 5, 2) := by decide +kernel
theorem dX0_countFaults_30 : decode cX0_countFaults 30 = .ok (.iload 6, 2) := by decide +kernel
theorem dX0_countFaults_32 : decode cX0_countFaults 32 = .ok (.invokevirtual 69, 3) := by decide +kernel
theorem dX0_countFaults_35 : decode cX0_countFaults 35 = .ok (.invokestatic 73, 3) := by decide +kernel
theorem dX0_countFaults_38 : decode cX0_countFaults 38 = .ok (.iadd, 1) := by decide +kernel
theorem dX0_countFaults_39 : decode cX0_countFaults 39 = .ok (.istore 4, 2) := by decide +kernel
theorem dX0_countFaults_41 : decode cX0_countFaults 41 = .ok (.iinc 6 1, 3) := by decide +kernel
theorem dX0_countFaults_44 : decode cX0_countFaults 44 = .ok (.goto (-26), 3) := by decide +kernel
theorem dX0_countFaults_47 : decode cX0_countFaults 47 = .ok (.iinc 5 1, 3) := by decide +kernel
theorem dX0_countFaults_50 : decode cX0_countFaults 50 = .ok (.goto (-44), 3) := by decide +kernel
theorem dX0_countFaults_53 : decode cX0_countFaults 53 = .ok (.iload 4, 2) := by decide +kernel
theorem dX0_countFaults_55 : decode cX0_countFaults 55 = .ok (.ireturn, 1) := by decide +kernel
set_option maxRecDepth 20000 in
theorem ggX0_tellFault_X0_faultsAt : GoodIn wsX0_tellFault wsX0_faultsAt := goodIn_r _ [6, 7, 8, 9, 10, 11, 12, 13, 14, 15, 16, 17, 18, 19, 20, 21, 22, 23, 24, 25, 5, 26, 27, 28, 29, 30, 31, 32, 33, 34, 35, 36, 37, 38, 39, 40, 41, 42, 43, 44, 45, 68, 69, 70, 55, 56, 57, 58, 59, 60, 61, 62, 63, 64, 65, 66, 67, 71] (by decide +kernel) (by decide +kernel)
set_option maxRecDepth 20000 in
theorem gX0_tellFault_X0_faultsAt : GoodIn wsX0_tellFault (wsV RX0 69 RX0 yX0_faultsAt wsX0_faultsAt) := goodIn_app (goodIn_of _ (by decide +kernel)) ggX0_tellFault_X0_faultsAt
set_option maxRecDepth 20000 in
theorem ggX0_tellFault_J6_bitCount_0f7a4 : GoodIn wsX0_tellFault wsJ6_bitCount_0f7a4 := goodIn_r _ [42, 43, 44, 45] (by decide +kernel) (by decide +kernel)
set_option maxRecDepth 20000 in
theorem gX0_tellFault_J6_bitCount_0f7a4 : GoodIn wsX0_tellFault (va_wsS RX0 73 yJ6_bitCount_0f7a4 wsJ6_bitCount_0f7a4) := goodIn_app (goodIn_of _ (by decide +kernel)) ggX0_tellFault_J6_bitCount_0f7a4
set_option maxRecDepth 20000 in
theorem ggX0_tellFault_X0_memberAt : GoodIn wsX0_tellFault wsX0_memberAt := goodIn_r _ [48, 49, 50, 51] (by decide +kernel) (by decide +kernel)
set_option maxRecDepth 20000 in
theorem gX0_tellFault_X0_memberAt : GoodIn wsX0_tellFault (va_wsS RX0 78 yX0_memberAt wsX0_memberAt) := goodIn_app (goodIn_of _ (by decide +kernel)) ggX0_tellFault_X0_memberAt
set_option maxRecDepth 20000 in
theorem ggX0_tellFault_X0_tellOne : GoodIn wsX0_tellFault wsX0_tellOne := goodIn_r _ [54] (by decide +kernel) (by decide +kernel)
set_option maxRecDepth 20000 in
theorem gX0_tellFault_X0_tellOne : GoodIn wsX0_tellFault (va_wsS RX0 82 yX0_tellOne wsX0_tellOne) := goodIn_app (goodIn_of _ (by decide +kernel)) ggX0_tellFault_X0_tellOne
theorem dX0_tellFault_0 : decode cX0_tellFault 0 = .ok (.iload_n 2, 1) := by decide +kernel
theorem dX0_tellFault_1 : decode cX0_tellFault 1 = .ok (.istore 4, 2) := by decide +kernel
theorem dX0_tellFault_3 : decode cX0_tellFault 3 = .ok (.iconst 0, 1) := by decide +kernel
theorem dX0_tellFault_4 : decode cX0_tellFault 4 = .ok (.istore 5, 2) := by decide +kernel
theorem dX0_tellFault_6 : decode cX0_tellFault 6 = .ok (.iload 5, 2) := by decide +kernel
theorem dX0_tellFault_8 : decode cX0_tellFault 8 = .ok (.aload_n 1, 1) := by decide +kernel
theorem dX0_tellFault_9 : decode cX0_tellFault 9 = .ok (.getfield 48, 3) := by decide +kernel
theorem dX0_tellFault_12 : decode cX0_tellFault 12 = .ok (.if_icmp .ge 72, 3) := by decide +kernel
theorem dX0_tellFault_15 : decode cX0_tellFault 15 = .ok (.iconst 0, 1) := by decide +kernel
theorem dX0_tellFault_16 : decode cX0_tellFault 16 = .ok (.istore 6, 2) := by decide +kernel
theorem dX0_tellFault_18 : decode cX0_tellFault 18 = .ok (.iload 6, 2) := by decide +kernel
theorem dX0_tellFault_20 : decode cX0_tellFault 20 = .ok (.iconst 3, 1) := by decide +kernel
theorem dX0_tellFault_21 : decode cX0_tellFault 21 = .ok (.if_icmp .gt 57, 3) := by decide +kernel
theorem dX0_tellFault_24 : decode cX0_tellFault 24 = .ok (.aload_n 0, 1) := by decide +kernel
theorem dX0_tellFault_25 : decode cX0_tellFault 25 = .ok (.aload_n 1, 1) := by decide +kernel
theorem dX0_tellFault_26 : decode cX0_tellFault 26 = .ok (.iload 5, 2) := by decide +kernel
theorem dX0_tellFault_28 : decode cX0_tellFault 28 = .ok (.iload 6, 2) := by decide +kernel
theorem dX0_tellFault_30 : decode cX0_tellFault 30 = .ok (.invokevirtual 69, 3) := by decide +kernel
theorem dX0_tellFault_33 : decode cX0_tellFault 33 = .ok (.istore 7, 2) := by decide +kernel
theorem dX0_tellFault_35 : decode cX0_tellFault 35 = .ok (.iload 7, 2) := by decide +kernel
theorem dX0_tellFault_37 : decode cX0_tellFault 37 = .ok (.invokestatic 73, 3) := by decide +kernel
theorem dX0_tellFault_40 : decode cX0_tellFault 40 = .ok (.istore 8, 2) := by decide +kernel
theorem dX0_tellFault_42 : decode cX0_tellFault 42 = .ok (.iload 4, 2) := by decide +kernel
theorem dX0_tellFault_44 : decode cX0_tellFault 44 = .ok (.iload 8, 2) := by decide +kernel
theorem dX0_tellFault_46 : decode cX0_tellFault 46 = .ok (.if_icmp .ge 19, 3) := by decide +kernel
theorem dX0_tellFault_49 : decode cX0_tellFault 49 = .ok (.iload 6, 2) := by decide +kernel
theorem dX0_tellFault_51 : decode cX0_tellFault 51 = .ok (.iload 5, 2) := by decide +kernel
theorem dX0_tellFault_53 : decode cX0_tellFault 53 = .ok (.iload 7, 2) := by decide +kernel
theorem dX0_tellFault_55 : decode cX0_tellFault 55 = .ok (.iload 4, 2) := by decide +kernel
theorem dX0_tellFault_57 : decode cX0_tellFault 57 = .ok (.invokestatic 78, 3) := by decide +kernel
theorem dX0_tellFault_60 : decode cX0_tellFault 60 = .ok (.iload_n 3, 1) := by decide +kernel
theorem dX0_tellFault_61 : decode cX0_tellFault 61 = .ok (.invokestatic 82, 3) := by decide +kernel
theorem dX0_tellFault_64 : decode cX0_tellFault 64 = .ok (.ireturn, 1) := by decide +kernel
theorem dX0_tellFault_65 : decode cX0_tellFault 65 = .ok (.iload 4, 2) := by decide +kernel
theorem dX0_tellFault_67 : decode cX0_tellFault 67 = .ok (.iload 8, 2) := by decide +kernel
theorem dX0_tellFault_69 : decode cX0_tellFault 69 = .ok (.isub, 1) := by decide +kernel
theorem dX0_tellFault_70 : decode cX0_tellFault 70 = .ok (.istore 4, 2) := by decide +kernel
theorem dX0_tellFault_72 : decode cX0_tellFault 72 = .ok (.iinc 6 1, 3) := by decide +kernel
theorem dX0_tellFault_75 : decode cX0_tellFault 75 = .ok (.goto (-57), 3) := by decide +kernel
theorem dX0_tellFault_78 : decode cX0_tellFault 78 = .ok (.iinc 5 1, 3) := by decide +kernel
theorem dX0_tellFault_81 : decode cX0_tellFault 81 = .ok (.goto (-75), 3) := by decide +kernel
theorem dX0_tellFault_84 : decode cX0_tellFault 84 = .ok (.bipush (-5), 2) := by decide +kernel
theorem dX0_tellFault_86 : decode cX0_tellFault 86 = .ok (.ireturn, 1) := by decide +kernel
theorem dX0_tellOne_0 : decode cX0_tellOne 0 = .ok (.iload_n 3, 1) := by decide +kernel
theorem dX0_tellOne_1 : decode cX0_tellOne 1 = .ok (.lookupswitch 31 #[(0, 27), (1, 29)], 27) := by decide +kernel
theorem dX0_tellOne_28 : decode cX0_tellOne 28 = .ok (.iload_n 0, 1) := by decide +kernel
theorem dX0_tellOne_29 : decode cX0_tellOne 29 = .ok (.ireturn, 1) := by decide +kernel
theorem dX0_tellOne_30 : decode cX0_tellOne 30 = .ok (.iload_n 1, 1) := by decide +kernel
theorem dX0_tellOne_31 : decode cX0_tellOne 31 = .ok (.ireturn, 1) := by decide +kernel
theorem dX0_tellOne_32 : decode cX0_tellOne 32 = .ok (.iload_n 0, 1) := by decide +kernel
theorem dX0_tellOne_33 : decode cX0_tellOne 33 = .ok (.ifCond .ne 8, 3) := by decide +kernel
theorem dX0_tellOne_36 : decode cX0_tellOne 36 = .ok (.bipush (-5), 2) := by decide +kernel
theorem dX0_tellOne_38 : decode cX0_tellOne 38 = .ok (.goto 4, 3) := by decide +kernel
theorem dX0_tellOne_41 : decode cX0_tellOne 41 = .ok (.iload_n 2, 1) := by decide +kernel
theorem dX0_tellOne_42 : decode cX0_tellOne 42 = .ok (.ireturn, 1) := by decide +kernel
set_option maxRecDepth 20000 in
theorem ggX0_faultsAt_X4_isRest : GoodIn wsX0_faultsAt wsX4_isRest := goodIn_r _ [8, 9, 10, 11, 12, 13, 14, 15, 44, 45, 46, 47, 48, 49, 50, 51, 52, 53, 54, 55, 56, 57] (by decide +kernel) (by decide +kernel)
set_option maxRecDepth 20000 in
theorem gX0_faultsAt_X4_isRest : GoodIn wsX0_faultsAt (wsV RX0 65 RX4 yX4_isRest wsX4_isRest) := goodIn_app (goodIn_of _ (by decide +kernel)) ggX0_faultsAt_X4_isRest
set_option maxRecDepth 20000 in
theorem ggX0_faultsAt_X2_at : GoodIn wsX0_faultsAt wsX2_at := goodIn_r _ [14, 15, 57] (by decide +kernel) (by decide +kernel)
set_option maxRecDepth 20000 in
theorem gX0_faultsAt_X2_at : GoodIn wsX0_faultsAt (wsV RX0 38 RX2 yX2_at wsX2_at) := goodIn_app (goodIn_of _ (by decide +kernel)) ggX0_faultsAt_X2_at
set_option maxRecDepth 20000 in
theorem ggX0_faultsAt_X0_isThinInside : GoodIn wsX0_faultsAt wsX0_isThinInside := goodIn_r _ [21, 1, 22, 23, 24, 7, 25, 26, 27, 28, 10, 11, 12, 13, 14, 15, 29, 30, 31, 32, 9, 33, 5, 6, 8, 16, 34, 35, 36, 37, 38, 39, 40, 41, 42, 43, 44, 45, 46, 47, 48, 49, 50, 51, 52, 53, 54, 55, 56, 57] (by decide +kernel) (by decide +kernel)
set_option maxRecDepth 20000 in
theorem gX0_faultsAt_X0_isThinInside : GoodIn wsX0_faultsAt (wsV RX0 86 RX0 yX0_isThinInside wsX0_isThinInside) := goodIn_app (goodIn_of _ (by decide +kernel)) ggX0_faultsAt_X0_isThinInside
set_option maxRecDepth 20000 in
theorem ggX0_faultsAt_X4_soloAt : GoodIn wsX0_faultsAt wsX4_soloAt := goodIn_r _ [25, 26, 27, 28, 10, 11, 12, 13, 14, 15, 44, 45, 46, 47, 48, 49, 50, 51, 52, 53, 54, 55, 56, 57] (by decide +kernel) (by decide +kernel)
set_option maxRecDepth 20000 in
theorem gX0_faultsAt_X4_soloAt : GoodIn wsX0_faultsAt (wsV RX0 90 RX4 yX4_soloAt wsX4_soloAt) := goodIn_app (goodIn_of _ (by decide +kernel)) ggX0_faultsAt_X4_soloAt
theorem dX0_faultsAt_0 : decode cX0_faultsAt 0 = .ok (.iload_n 3, 1) := by decide +kernel
theorem dX0_faultsAt_1 : decode cX0_faultsAt 1 = .ok (.tableswitch 110 0 3 #[31, 56, 65, 87], 31) := by decide +kernel
theorem dX0_faultsAt_32 : decode cX0_faultsAt 32 = .ok (.aload_n 1, 1) := by decide +kernel
theorem dX0_faultsAt_33 : decode cX0_faultsAt 33 = .ok (.iload_n 2, 1) := by decide +kernel
theorem dX0_faultsAt_34 : decode cX0_faultsAt 34 = .ok (.invokevirtual 65, 3) := by decide +kernel
theorem dX0_faultsAt_37 : decode cX0_faultsAt 37 = .ok (.ifCond .ne 18, 3) := by decide +kernel
theorem dX0_faultsAt_40 : decode cX0_faultsAt 40 = .ok (.aload_n 0, 1) := by decide +kernel
theorem dX0_faultsAt_41 : decode cX0_faultsAt 41 = .ok (.getfield 14, 3) := by decide +kernel
theorem dX0_faultsAt_44 : decode cX0_faultsAt 44 = .ok (.iload_n 2, 1) := by decide +kernel
theorem dX0_faultsAt_45 : decode cX0_faultsAt 45 = .ok (.invokevirtual 38, 3) := by decide +kernel
theorem dX0_faultsAt_48 : decode cX0_faultsAt 48 = .ok (.ifCond .ne 7, 3) := by decide +kernel
theorem dX0_faultsAt_51 : decode cX0_faultsAt 51 = .ok (.iconst 1, 1) := by decide +kernel
theorem dX0_faultsAt_52 : decode cX0_faultsAt 52 = .ok (.goto 4, 3) := by decide +kernel
theorem dX0_faultsAt_55 : decode cX0_faultsAt 55 = .ok (.iconst 0, 1) := by decide +kernel
theorem dX0_faultsAt_56 : decode cX0_faultsAt 56 = .ok (.ireturn, 1) := by decide +kernel
theorem dX0_faultsAt_57 : decode cX0_faultsAt 57 = .ok (.aload_n 0, 1) := by decide +kernel
theorem dX0_faultsAt_58 : decode cX0_faultsAt 58 = .ok (.getfield 23, 3) := by decide +kernel
theorem dX0_faultsAt_61 : decode cX0_faultsAt 61 = .ok (.iload_n 2, 1) := by decide +kernel
theorem dX0_faultsAt_62 : decode cX0_faultsAt 62 = .ok (.invokevirtual 38, 3) := by decide +kernel
theorem dX0_faultsAt_65 : decode cX0_faultsAt 65 = .ok (.ireturn, 1) := by decide +kernel
theorem dX0_faultsAt_66 : decode cX0_faultsAt 66 = .ok (.aload_n 0, 1) := by decide +kernel
theorem dX0_faultsAt_67 : decode cX0_faultsAt 67 = .ok (.aload_n 1, 1) := by decide +kernel
theorem dX0_faultsAt_68 : decode cX0_faultsAt 68 = .ok (.iload_n 2, 1) := by decide +kernel
theorem dX0_faultsAt_69 : decode cX0_faultsAt 69 = .ok (.invokevirtual 86, 3) := by decide +kernel
theorem dX0_faultsAt_72 : decode cX0_faultsAt 72 = .ok (.ifCond .eq 14, 3) := by decide +kernel
theorem dX0_faultsAt_75 : decode cX0_faultsAt 75 = .ok (.aload_n 0, 1) := by decide +kernel
theorem dX0_faultsAt_76 : decode cX0_faultsAt 76 = .ok (.getfield 20, 3) := by decide +kernel
theorem dX0_faultsAt_79 : decode cX0_faultsAt 79 = .ok (.iload_n 2, 1) := by decide +kernel
theorem dX0_faultsAt_80 : decode cX0_faultsAt 80 = .ok (.invokevirtual 38, 3) := by decide +kernel
theorem dX0_faultsAt_83 : decode cX0_faultsAt 83 = .ok (.goto 4, 3) := by decide +kernel
theorem dX0_faultsAt_86 : decode cX0_faultsAt 86 = .ok (.iconst 0, 1) := by decide +kernel
theorem dX0_faultsAt_87 : decode cX0_faultsAt 87 = .ok (.ireturn, 1) := by decide +kernel
theorem dX0_faultsAt_88 : decode cX0_faultsAt 88 = .ok (.aload_n 1, 1) := by decide +kernel
theorem dX0_faultsAt_89 : decode cX0_faultsAt 89 = .ok (.iload_n 2, 1) := by decide +kernel
theorem dX0_faultsAt_90 : decode cX0_faultsAt 90 = .ok (.invokevirtual 90, 3) := by decide +kernel
theorem dX0_faultsAt_93 : decode cX0_faultsAt 93 = .ok (.bipush (-5), 2) := by decide +kernel
theorem dX0_faultsAt_95 : decode cX0_faultsAt 95 = .ok (.if_icmp .eq 14, 3) := by decide +kernel
theorem dX0_faultsAt_98 : decode cX0_faultsAt 98 = .ok (.aload_n 0, 1) := by decide +kernel
theorem dX0_faultsAt_99 : decode cX0_faultsAt 99 = .ok (.getfield 20, 3) := by decide +kernel
theorem dX0_faultsAt_102 : decode cX0_faultsAt 102 = .ok (.iload_n 2, 1) := by decide +kernel
theorem dX0_faultsAt_103 : decode cX0_faultsAt 103 = .ok (.invokevirtual 38, 3) := by decide +kernel
theorem dX0_faultsAt_106 : decode cX0_faultsAt 106 = .ok (.goto 4, 3) := by decide +kernel
theorem dX0_faultsAt_109 : decode cX0_faultsAt 109 = .ok (.iconst 0, 1) := by decide +kernel
theorem dX0_faultsAt_110 : decode cX0_faultsAt 110 = .ok (.ireturn, 1) := by decide +kernel
theorem dX0_faultsAt_111 : decode cX0_faultsAt 111 = .ok (.iconst 0, 1) := by decide +kernel
theorem dX0_faultsAt_112 : decode cX0_faultsAt 112 = .ok (.ireturn, 1) := by decide +kernel
set_option maxRecDepth 20000 in
theorem ggX0_isThinInside_X4_soloAt : GoodIn wsX0_isThinInside wsX4_soloAt := goodIn_r _ [6, 7, 8, 9, 10, 11, 12, 13, 14, 15, 36, 37, 38, 39, 40, 41, 42, 43, 44, 45, 46, 47, 48, 49] (by decide +kernel) (by decide +kernel)
set_option maxRecDepth 20000 in
theorem gX0_isThinInside_X4_soloAt : GoodIn wsX0_isThinInside (wsV RX0 90 RX4 yX4_soloAt wsX4_soloAt) := goodIn_app (goodIn_of _ (by decide +kernel)) ggX0_isThinInside_X4_soloAt
set_option maxRecDepth 20000 in
theorem ggX0_isThinInside_X4_firstOfSyllable : GoodIn wsX0_isThinInside wsX4_firstOfSyllable := goodIn_r _ [19, 20, 21, 22, 23, 5, 24, 10, 11, 12, 13, 14, 15, 36, 37, 38, 39, 40, 41, 42, 43, 44, 45, 46, 47, 48, 49] (by decide +kernel) (by decide +kernel)
set_option maxRecDepth 20000 in
theorem gX0_isThinInside_X4_firstOfSyllable : GoodIn wsX0_isThinInside (wsV RX0 93 RX4 yX4_firstOfSyllable wsX4_firstOfSyllable) := goodIn_app (goodIn_of _ (by decide +kernel)) ggX0_isThinInside_X4_firstOfSyllable
set_option maxRecDepth 20000 in
theorem ggX0_isThinInside_X2_at : GoodIn wsX0_isThinInside wsX2_at := goodIn_r _ [14, 15, 49] (by decide +kernel) (by decide +kernel)
set_option maxRecDepth 20000 in
theorem gX0_isThinInside_X2_at : GoodIn wsX0_isThinInside (wsV RX0 38 RX2 yX2_at wsX2_at) := goodIn_app (goodIn_of _ (by decide +kernel)) ggX0_isThinInside_X2_at
set_option maxRecDepth 20000 in
theorem ggX0_isThinInside_J6_bitCount_0f7a4 : GoodIn wsX0_isThinInside wsJ6_bitCount_0f7a4 := goodIn_r _ [29, 30, 31, 32] (by decide +kernel) (by decide +kernel)
set_option maxRecDepth 20000 in
theorem gX0_isThinInside_J6_bitCount_0f7a4 : GoodIn wsX0_isThinInside (va_wsS RX0 73 yJ6_bitCount_0f7a4 wsJ6_bitCount_0f7a4) := goodIn_app (goodIn_of _ (by decide +kernel)) ggX0_isThinInside_J6_bitCount_0f7a4
theorem dX0_isThinInside_0 : decode cX0_isThinInside 0 = .ok (.aload_n 1, 1) := by decide +kernel
theorem dX0_isThinInside_1 : decode cX0_isThinInside 1 = .ok (.iload_n 2, 1) := by decide +kernel
theorem dX0_isThinInside_2 : decode cX0_isThinInside 2 = .ok (.invokevirtual 90, 3) := by decide +kernel
theorem dX0_isThinInside_5 : decode cX0_isThinInside 5 = .ok (.bipush (-5), 2) := by decide +kernel
theorem dX0_isThinInside_7 : decode cX0_isThinInside 7 = .ok (.if_icmp .ne 31, 3) := by decide +kernel
theorem dX0_isThinInside_10 : decode cX0_isThinInside 10 = .ok (.aload_n 1, 1) := by decide +kernel
theorem dX0_isThinInside_11 : decode cX0_isThinInside 11 = .ok (.iload_n 2, 1) := by decide +kernel
theorem dX0_isThinInside_12 : decode cX0_isThinInside 12 = .ok (.invokevirtual 93, 3) := by decide +kernel
theorem dX0_isThinInside_15 : decode cX0_isThinInside 15 = .ok (.iload_n 2, 1) := by decide +kernel
theorem dX0_isThinInside_16 : decode cX0_isThinInside 16 = .ok (.if_icmp .eq 22, 3) := by decide +kernel
theorem dX0_isThinInside_19 : decode cX0_isThinInside 19 = .ok (.aload_n 0, 1) := by decide +kernel
theorem dX0_isThinInside_20 : decode cX0_isThinInside 20 = .ok (.getfield 14, 3) := by decide +kernel
theorem dX0_isThinInside_23 : decode cX0_isThinInside 23 = .ok (.iload_n 2, 1) := by decide +kernel
theorem dX0_isThinInside_24 : decode cX0_isThinInside 24 = .ok (.invokevirtual 38, 3) := by decide +kernel
theorem dX0_isThinInside_27 : decode cX0_isThinInside 27 = .ok (.invokestatic 73, 3) := by decide +kernel
theorem dX0_isThinInside_30 : decode cX0_isThinInside 30 = .ok (.iconst 2, 1) := by decide +kernel
theorem dX0_isThinInside_31 : decode cX0_isThinInside 31 = .ok (.if_icmp .ge 7, 3) := by decide +kernel
theorem dX0_isThinInside_34 : decode cX0_isThinInside 34 = .ok (.iconst 1, 1) := by decide +kernel
theorem dX0_isThinInside_35 : decode cX0_isThinInside 35 = .ok (.goto 4, 3) := by decide +kernel
theorem dX0_isThinInside_38 : decode cX0_isThinInside 38 = .ok (.iconst 0, 1) := by decide +kernel
theorem dX0_isThinInside_39 : decode cX0_isThinInside 39 = .ok (.ireturn, 1) := by decide +kernel
set_option maxRecDepth 20000 in
theorem ggX0_memberAt_X7_contains : GoodIn wsX0_memberAt wsX7_contains := goodIn_r _ [3] (by decide +kernel) (by decide +kernel)
set_option maxRecDepth 20000 in
theorem gX0_memberAt_X7_contains_n96 : GoodIn wsX0_memberAt (wsX7_contains) := ggX0_memberAt_X7_contains
theorem dX0_memberAt_0 : decode cX0_memberAt 0 = .ok (.iconst 0, 1) := by decide +kernel
theorem dX0_memberAt_1 : decode cX0_memberAt 1 = .ok (.istore_n 2, 1) := by decide +kernel
theorem dX0_memberAt_2 : decode cX0_memberAt 2 = .ok (.iconst 0, 1) := by decide +kernel
theorem dX0_memberAt_3 : decode cX0_memberAt 3 = .ok (.istore_n 3, 1) := by decide +kernel
theorem dX0_memberAt_4 : decode cX0_memberAt 4 = .ok (.iload_n 3, 1) := by decide +kernel
theorem dX0_memberAt_5 : decode cX0_memberAt 5 = .ok (.bipush 12, 2) := by decide +kernel
theorem dX0_memberAt_7 : decode cX0_memberAt 7 = .ok (.if_icmp .ge 27, 3) := by decide +kernel
theorem dX0_memberAt_10 : decode cX0_memberAt 10 = .ok (.iload_n 0, 1) := by decide +kernel
theorem dX0_memberAt_11 : decode cX0_memberAt 11 = .ok (.iload_n 3, 1) := by decide +kernel
theorem dX0_memberAt_12 : decode cX0_memberAt 12 = .ok (.invokestatic 96, 3) := by decide +kernel
theorem dX0_memberAt_15 : decode cX0_memberAt 15 = .ok (.ifCond .eq 13, 3) := by decide +kernel
theorem dX0_memberAt_18 : decode cX0_memberAt 18 = .ok (.iload_n 2, 1) := by decide +kernel
theorem dX0_memberAt_19 : decode cX0_memberAt 19 = .ok (.iload_n 1, 1) := by decide +kernel
theorem dX0_memberAt_20 : decode cX0_memberAt 20 = .ok (.if_icmp .ne 5, 3) := by decide +kernel
theorem dX0_memberAt_23 : decode cX0_memberAt 23 = .ok (.iload_n 3, 1) := by decide +kernel
theorem dX0_memberAt_24 : decode cX0_memberAt 24 = .ok (.ireturn, 1) := by decide +kernel
theorem dX0_memberAt_25 : decode cX0_memberAt 25 = .ok (.iinc 2 1, 3) := by decide +kernel
theorem dX0_memberAt_28 : decode cX0_memberAt 28 = .ok (.iinc 3 1, 3) := by decide +kernel
theorem dX0_memberAt_31 : decode cX0_memberAt 31 = .ok (.goto (-27), 3) := by decide +kernel
theorem dX0_memberAt_34 : decode cX0_memberAt 34 = .ok (.bipush (-5), 2) := by decide +kernel
theorem dX0_memberAt_36 : decode cX0_memberAt 36 = .ok (.ireturn, 1) := by decide +kernel
theorem dX1_init_0 : decode cX1_init 0 = .ok (.aload_n 0, 1) := by decide +kernel
theorem dX1_init_1 : decode cX1_init 1 = .ok (.invokespecial 3, 3) := by decide +kernel
theorem dX1_init_4 : decode cX1_init 4 = .ok (.aload_n 0, 1) := by decide +kernel
theorem dX1_init_5 : decode cX1_init 5 = .ok (.iconst 5, 1) := by decide +kernel
theorem dX1_init_6 : decode cX1_init 6 = .ok (.anewarray 9, 3) := by decide +kernel
theorem dX1_init_9 : decode cX1_init 9 = .ok (.putfield 11, 3) := by decide +kernel
theorem dX1_init_12 : decode cX1_init 12 = .ok (.return_, 1) := by decide +kernel
set_option maxRecDepth 20000 in
theorem ggX1_record_X1_forgetOldest : GoodIn wsX1_record wsX1_forgetOldest := goodIn_r _ [10, 2, 1, 55, 56] (by decide +kernel) (by decide +kernel)
set_option maxRecDepth 20000 in
theorem gX1_record_X1_forgetOldest : GoodIn wsX1_record (wsV RX1 21 RX1 yX1_forgetOldest wsX1_forgetOldest) := goodIn_app (goodIn_of _ (by decide +kernel)) ggX1_record_X1_forgetOldest
set_option maxRecDepth 20000 in
theorem ggX1_record_X4_init : GoodIn wsX1_record wsX4_init := goodIn_r _ [13, 14, 15, 16, 17, 18, 19, 20, 21, 22, 23, 24, 25, 26, 27, 28, 29, 30, 31, 32, 33, 34, 35, 36, 37, 38, 70, 57, 58, 59, 60, 61, 62, 63, 64, 65, 66, 67, 68, 69] (by decide +kernel) (by decide +kernel)
set_option maxRecDepth 20000 in
theorem gX1_record_X4_init : GoodIn wsX1_record (wsX4_init) := ggX1_record_X4_init
set_option maxRecDepth 20000 in
theorem ggX1_record_X4_copyFrom : GoodIn wsX1_record wsX4_copyFrom := goodIn_r _ [42, 43, 44, 45, 46, 28, 20, 21, 22, 23, 24, 25, 26, 27, 47, 48, 49, 19, 50, 38, 51, 52, 53, 54, 57, 58, 59, 60, 61, 62, 63, 64, 65, 66, 67, 68, 69, 70] (by decide +kernel) (by decide +kernel)
set_option maxRecDepth 20000 in
theorem gX1_record_X4_copyFrom : GoodIn wsX1_record (wsV RX1 25 RX4 yX4_copyFrom wsX4_copyFrom) := goodIn_app (goodIn_of _ (by decide +kernel)) ggX1_record_X4_copyFrom
theorem dX1_record_0 : decode cX1_record 0 = .ok (.aload_n 0, 1) := by decide +kernel
theorem dX1_record_1 : decode cX1_record 1 = .ok (.getfield 17, 3) := by decide +kernel
theorem dX1_record_4 : decode cX1_record 4 = .ok (.aload_n 0, 1) := by decide +kernel
theorem dX1_record_5 : decode cX1_record 5 = .ok (.getfield 11, 3) := by decide +kernel
theorem dX1_record_8 : decode cX1_record 8 = .ok (.arraylength, 1) := by decide +kernel
theorem dX1_record_9 : decode cX1_record 9 = .ok (.if_icmp .lt 7, 3) := by decide +kernel
theorem dX1_record_12 : decode cX1_record 12 = .ok (.aload_n 0, 1) := by decide +kernel
theorem dX1_record_13 : decode cX1_record 13 = .ok (.invokevirtual 21, 3) := by decide +kernel
theorem dX1_record_16 : decode cX1_record 16 = .ok (.aload_n 0, 1) := by decide +kernel
theorem dX1_record_17 : decode cX1_record 17 = .ok (.getfield 17, 3) := by decide +kernel
theorem dX1_record_20 : decode cX1_record 20 = .ok (.ifCond .lt 15, 3) := by decide +kernel
theorem dX1_record_23 : decode cX1_record 23 = .ok (.aload_n 0, 1) := by decide +kernel
theorem dX1_record_24 : decode cX1_record 24 = .ok (.getfield 17, 3) := by decide +kernel
theorem dX1_record_27 : decode cX1_record 27 = .ok (.aload_n 0, 1) := by decide +kernel
theorem dX1_record_28 : decode cX1_record 28 = .ok (.getfield 11, 3) := by decide +kernel
theorem dX1_record_31 : decode cX1_record 31 = .ok (.arraylength, 1) := by decide +kernel
theorem dX1_record_32 : decode cX1_record 32 = .ok (.if_icmp .lt 4, 3) := by decide +kernel
theorem dX1_record_35 : decode cX1_record 35 = .ok (.return_, 1) := by decide +kernel
theorem dX1_record_36 : decode cX1_record 36 = .ok (.aload_n 0, 1) := by decide +kernel
theorem dX1_record_37 : decode cX1_record 37 = .ok (.getfield 11, 3) := by decide +kernel
theorem dX1_record_40 : decode cX1_record 40 = .ok (.aload_n 0, 1) := by decide +kernel
theorem dX1_record_41 : decode cX1_record 41 = .ok (.getfield 17, 3) := by decide +kernel
theorem dX1_record_44 : decode cX1_record 44 = .ok (.aaload, 1) := by decide +kernel
theorem dX1_record_45 : decode cX1_record 45 = .ok (.astore_n 2, 1) := by decide +kernel
theorem dX1_record_46 : decode cX1_record 46 = .ok (.aload_n 2, 1) := by decide +kernel
theorem dX1_record_47 : decode cX1_record 47 = .ok (.ifnonnull 21, 3) := by decide +kernel
theorem dX1_record_50 : decode cX1_record 50 = .ok (.new 9, 3) := by decide +kernel
theorem dX1_record_53 : decode cX1_record 53 = .ok (.dup, 1) := by decide +kernel
theorem dX1_record_54 : decode cX1_record 54 = .ok (.invokespecial 24, 3) := by decide +kernel
theorem dX1_record_57 : decode cX1_record 57 = .ok (.astore_n 2, 1) := by decide +kernel
theorem dX1_record_58 : decode cX1_record 58 = .ok (.aload_n 0, 1) := by decide +kernel
theorem dX1_record_59 : decode cX1_record 59 = .ok (.getfield 11, 3) := by decide +kernel
theorem dX1_record_62 : decode cX1_record 62 = .ok (.aload_n 0, 1) := by decide +kernel
theorem dX1_record_63 : decode cX1_record 63 = .ok (.getfield 17, 3) := by decide +kernel
theorem dX1_record_66 : decode cX1_record 66 = .ok (.aload_n 2, 1) := by decide +kernel
theorem dX1_record_67 : decode cX1_record 67 = .ok (.aastore, 1) := by decide +kernel
theorem dX1_record_68 : decode cX1_record 68 = .ok (.aload_n 2, 1) := by decide +kernel
theorem dX1_record_69 : decode cX1_record 69 = .ok (.aload_n 1, 1) := by decide +kernel
theorem dX1_record_70 : decode cX1_record 70 = .ok (.invokevirtual 25, 3) := by decide +kernel
theorem dX1_record_73 : decode cX1_record 73 = .ok (.aload_n 0, 1) := by decide +kernel
theorem dX1_record_74 : decode cX1_record 74 = .ok (.dup, 1) := by decide +kernel
theorem dX1_record_75 : decode cX1_record 75 = .ok (.getfield 17, 3) := by decide +kernel
theorem dX1_record_78 : decode cX1_record 78 = .ok (.iconst 1, 1) := by decide +kernel
theorem dX1_record_79 : decode cX1_record 79 = .ok (.iadd, 1) := by decide +kernel
theorem dX1_record_80 : decode cX1_record 80 = .ok (.putfield 17, 3) := by decide +kernel
theorem dX1_record_83 : decode cX1_record 83 = .ok (.return_, 1) := by decide +kernel
set_option maxRecDepth 20000 in
theorem ggX1_takeBack_X4_copyFrom : GoodIn wsX1_takeBack wsX4_copyFrom := goodIn_r _ [7, 8, 9, 10, 11, 12, 13, 14, 15, 16, 17, 18, 19, 20, 21, 22, 23, 24, 25, 26, 27, 28, 29, 30, 33, 34, 35, 36, 37, 38, 39, 40, 41, 42, 43, 44, 45, 46] (by decide +kernel) (by decide +kernel)
set_option maxRecDepth 20000 in
theorem gX1_takeBack_X4_copyFrom : GoodIn wsX1_takeBack (wsV RX1 25 RX4 yX4_copyFrom wsX4_copyFrom) := goodIn_app (goodIn_of _ (by decide +kernel)) ggX1_takeBack_X4_copyFrom
theorem dX1_takeBack_0 : decode cX1_takeBack 0 = .ok (.aload_n 0, 1) := by decide +kernel
theorem dX1_takeBack_1 : decode cX1_takeBack 1 = .ok (.getfield 17, 3) := by decide +kernel
theorem dX1_takeBack_4 : decode cX1_takeBack 4 = .ok (.iconst 1, 1) := by decide +kernel
theorem dX1_takeBack_5 : decode cX1_takeBack 5 = .ok (.isub, 1) := by decide +kernel
theorem dX1_takeBack_6 : decode cX1_takeBack 6 = .ok (.istore_n 2, 1) := by decide +kernel
theorem dX1_takeBack_7 : decode cX1_takeBack 7 = .ok (.iload_n 2, 1) := by decide +kernel
theorem dX1_takeBack_8 : decode cX1_takeBack 8 = .ok (.ifCond .lt 12, 3) := by decide +kernel
theorem dX1_takeBack_11 : decode cX1_takeBack 11 = .ok (.iload_n 2, 1) := by decide +kernel
theorem dX1_takeBack_12 : decode cX1_takeBack 12 = .ok (.aload_n 0, 1) := by decide +kernel
theorem dX1_takeBack_13 : decode cX1_takeBack 13 = .ok (.getfield 11, 3) := by decide +kernel
theorem dX1_takeBack_16 : decode cX1_takeBack 16 = .ok (.arraylength, 1) := by decide +kernel
theorem dX1_takeBack_17 : decode cX1_takeBack 17 = .ok (.if_icmp .lt 4, 3) := by decide +kernel
theorem dX1_takeBack_20 : decode cX1_takeBack 20 = .ok (.return_, 1) := by decide +kernel
theorem dX1_takeBack_21 : decode cX1_takeBack 21 = .ok (.aload_n 0, 1) := by decide +kernel
theorem dX1_takeBack_22 : decode cX1_takeBack 22 = .ok (.getfield 11, 3) := by decide +kernel
theorem dX1_takeBack_25 : decode cX1_takeBack 25 = .ok (.iload_n 2, 1) := by decide +kernel
theorem dX1_takeBack_26 : decode cX1_takeBack 26 = .ok (.aaload, 1) := by decide +kernel
theorem dX1_takeBack_27 : decode cX1_takeBack 27 = .ok (.astore_n 3, 1) := by decide +kernel
theorem dX1_takeBack_28 : decode cX1_takeBack 28 = .ok (.aload_n 3, 1) := by decide +kernel
theorem dX1_takeBack_29 : decode cX1_takeBack 29 = .ok (.ifnonnull 4, 3) := by decide +kernel
theorem dX1_takeBack_32 : decode cX1_takeBack 32 = .ok (.return_, 1) := by decide +kernel
theorem dX1_takeBack_33 : decode cX1_takeBack 33 = .ok (.aload_n 1, 1) := by decide +kernel
theorem dX1_takeBack_34 : decode cX1_takeBack 34 = .ok (.aload_n 3, 1) := by decide +kernel
theorem dX1_takeBack_35 : decode cX1_takeBack 35 = .ok (.invokevirtual 25, 3) := by decide +kernel
theorem dX1_takeBack_38 : decode cX1_takeBack 38 = .ok (.aload_n 0, 1) := by decide +kernel
theorem dX1_takeBack_39 : decode cX1_takeBack 39 = .ok (.iload_n 2, 1) := by decide +kernel
theorem dX1_takeBack_40 : decode cX1_takeBack 40 = .ok (.putfield 17, 3) := by decide +kernel
theorem dX1_takeBack_43 : decode cX1_takeBack 43 = .ok (.return_, 1) := by decide +kernel
theorem dX1_forgetOldest_0 : decode cX1_forgetOldest 0 = .ok (.iconst 1, 1) := by decide +kernel
theorem dX1_forgetOldest_1 : decode cX1_forgetOldest 1 = .ok (.istore_n 1, 1) := by decide +kernel
theorem dX1_forgetOldest_2 : decode cX1_forgetOldest 2 = .ok (.iload_n 1, 1) := by decide +kernel
theorem dX1_forgetOldest_3 : decode cX1_forgetOldest 3 = .ok (.aload_n 0, 1) := by decide +kernel
theorem dX1_forgetOldest_4 : decode cX1_forgetOldest 4 = .ok (.getfield 11, 3) := by decide +kernel
theorem dX1_forgetOldest_7 : decode cX1_forgetOldest 7 = .ok (.arraylength, 1) := by decide +kernel
theorem dX1_forgetOldest_8 : decode cX1_forgetOldest 8 = .ok (.if_icmp .ge 39, 3) := by decide +kernel
theorem dX1_forgetOldest_11 : decode cX1_forgetOldest 11 = .ok (.aload_n 0, 1) := by decide +kernel
theorem dX1_forgetOldest_12 : decode cX1_forgetOldest 12 = .ok (.getfield 11, 3) := by decide +kernel
theorem dX1_forgetOldest_15 : decode cX1_forgetOldest 15 = .ok (.iload_n 1, 1) := by decide +kernel
theorem dX1_forgetOldest_16 : decode cX1_forgetOldest 16 = .ok (.iconst 1, 1) := by decide +kernel
theorem dX1_forgetOldest_17 : decode cX1_forgetOldest 17 = .ok (.isub, 1) := by decide +kernel
theorem dX1_forgetOldest_18 : decode cX1_forgetOldest 18 = .ok (.aaload, 1) := by decide +kernel
theorem dX1_forgetOldest_19 : decode cX1_forgetOldest 19 = .ok (.astore_n 2, 1) := by decide +kernel
theorem dX1_forgetOldest_20 : decode cX1_forgetOldest 20 = .ok (.aload_n 0, 1) := by decide +kernel
theorem dX1_forgetOldest_21 : decode cX1_forgetOldest 21 = .ok (.getfield 11, 3) := by decide +kernel
theorem dX1_forgetOldest_24 : decode cX1_forgetOldest 24 = .ok (.iload_n 1, 1) := by decide +kernel
theorem dX1_forgetOldest_25 : decode cX1_forgetOldest 25 = .ok (.iconst 1, 1) := by decide +kernel
theorem dX1_forgetOldest_26 : decode cX1_forgetOldest 26 = .ok (.isub, 1) := by decide +kernel
theorem dX1_forgetOldest_27 : decode cX1_forgetOldest 27 = .ok (.aload_n 0, 1) := by decide +kernel
theorem dX1_forgetOldest_28 : decode cX1_forgetOldest 28 = .ok (.getfield 11, 3) := by decide +kernel
theorem dX1_forgetOldest_31 : decode cX1_forgetOldest 31 = .ok (.iload_n 1, 1) := by decide +kernel
theorem dX1_forgetOldest_32 : decode cX1_forgetOldest 32 = .ok (.aaload, 1) := by decide +kernel
theorem dX1_forgetOldest_33 : decode cX1_forgetOldest 33 = .ok (.aastore, 1) := by decide +kernel
theorem dX1_forgetOldest_34 : decode cX1_forgetOldest 34 = .ok (.aload_n 0, 1) := by decide +kernel
theorem dX1_forgetOldest_35 : decode cX1_forgetOldest 35 = .ok (.getfield 11, 3) := by decide +kernel
theorem dX1_forgetOldest_38 : decode cX1_forgetOldest 38 = .ok (.iload_n 1, 1) := by decide +kernel
theorem dX1_forgetOldest_39 : decode cX1_forgetOldest 39 = .ok (.aload_n 2, 1) := by decide +kernel
theorem dX1_forgetOldest_40 : decode cX1_forgetOldest 40 = .ok (.aastore, 1) := by decide +kernel
theorem dX1_forgetOldest_41 : decode cX1_forgetOldest 41 = .ok (.iinc 1 1, 3) := by decide +kernel
theorem dX1_forgetOldest_44 : decode cX1_forgetOldest 44 = .ok (.goto (-42), 3) := by decide +kernel
theorem dX1_forgetOldest_47 : decode cX1_forgetOldest 47 = .ok (.aload_n 0, 1) := by decide +kernel
theorem dX1_forgetOldest_48 : decode cX1_forgetOldest 48 = .ok (.dup, 1) := by decide +kernel
theorem dX1_forgetOldest_49 : decode cX1_forgetOldest 49 = .ok (.getfield 17, 3) := by decide +kernel
theorem dX1_forgetOldest_52 : decode cX1_forgetOldest 52 = .ok (.iconst 1, 1) := by decide +kernel
theorem dX1_forgetOldest_53 : decode cX1_forgetOldest 53 = .ok (.isub, 1) := by decide +kernel
theorem dX1_forgetOldest_54 : decode cX1_forgetOldest 54 = .ok (.putfield 17, 3) := by decide +kernel
theorem dX1_forgetOldest_57 : decode cX1_forgetOldest 57 = .ok (.return_, 1) := by decide +kernel
theorem dX2_init_0 : decode cX2_init 0 = .ok (.aload_n 0, 1) := by decide +kernel
theorem dX2_init_1 : decode cX2_init 1 = .ok (.invokespecial 1, 3) := by decide +kernel
theorem dX2_init_4 : decode cX2_init 4 = .ok (.aload_n 0, 1) := by decide +kernel
theorem dX2_init_5 : decode cX2_init 5 = .ok (.iconst 0, 1) := by decide +kernel
theorem dX2_init_6 : decode cX2_init 6 = .ok (.iload_n 1, 1) := by decide +kernel
theorem dX2_init_7 : decode cX2_init 7 = .ok (.invokestatic 7, 3) := by decide +kernel
theorem dX2_init_10 : decode cX2_init 10 = .ok (.newarray .int, 2) := by decide +kernel
theorem dX2_init_12 : decode cX2_init 12 = .ok (.putfield 13, 3) := by decide +kernel
theorem dX2_init_15 : decode cX2_init 15 = .ok (.return_, 1) := by decide +kernel
theorem dX2_at_0 : decode cX2_at 0 = .ok (.iload_n 1, 1) := by decide +kernel
theorem dX2_at_1 : decode cX2_at 1 = .ok (.ifCond .lt 21, 3) := by decide +kernel
theorem dX2_at_4 : decode cX2_at 4 = .ok (.iload_n 1, 1) := by decide +kernel
theorem dX2_at_5 : decode cX2_at 5 = .ok (.aload_n 0, 1) := by decide +kernel
theorem dX2_at_6 : decode cX2_at 6 = .ok (.getfield 13, 3) := by decide +kernel
theorem dX2_at_9 : decode cX2_at 9 = .ok (.arraylength, 1) := by decide +kernel
theorem dX2_at_10 : decode cX2_at 10 = .ok (.if_icmp .ge 12, 3) := by decide +kernel
theorem dX2_at_13 : decode cX2_at 13 = .ok (.aload_n 0, 1) := by decide +kernel
theorem dX2_at_14 : decode cX2_at 14 = .ok (.getfield 13, 3) := by decide +kernel
theorem dX2_at_17 : decode cX2_at 17 = .ok (.iload_n 1, 1) := by decide +kernel
theorem dX2_at_18 : decode cX2_at 18 = .ok (.iaload, 1) := by decide +kernel
theorem dX2_at_19 : decode cX2_at 19 = .ok (.goto 4, 3) := by decide +kernel
theorem dX2_at_22 : decode cX2_at 22 = .ok (.iconst 0, 1) := by decide +kernel
theorem dX2_at_23 : decode cX2_at 23 = .ok (.ireturn, 1) := by decide +kernel
theorem dX2_put_0 : decode cX2_put 0 = .ok (.iload_n 1, 1) := by decide +kernel
theorem dX2_put_1 : decode cX2_put 1 = .ok (.ifCond .lt 19, 3) := by decide +kernel
theorem dX2_put_4 : decode cX2_put 4 = .ok (.iload_n 1, 1) := by decide +kernel
theorem dX2_put_5 : decode cX2_put 5 = .ok (.aload_n 0, 1) := by decide +kernel
theorem dX2_put_6 : decode cX2_put 6 = .ok (.getfield 13, 3) := by decide +kernel
theorem dX2_put_9 : decode cX2_put 9 = .ok (.arraylength, 1) := by decide +kernel
theorem dX2_put_10 : decode cX2_put 10 = .ok (.if_icmp .ge 10, 3) := by decide +kernel
theorem dX2_put_13 : decode cX2_put 13 = .ok (.aload_n 0, 1) := by decide +kernel
theorem dX2_put_14 : decode cX2_put 14 = .ok (.getfield 13, 3) := by decide +kernel
theorem dX2_put_17 : decode cX2_put 17 = .ok (.iload_n 1, 1) := by decide +kernel
theorem dX2_put_18 : decode cX2_put 18 = .ok (.iload_n 2, 1) := by decide +kernel
theorem dX2_put_19 : decode cX2_put 19 = .ok (.iastore, 1) := by decide +kernel
theorem dX2_put_20 : decode cX2_put 20 = .ok (.return_, 1) := by decide +kernel
theorem dX2_clear_0 : decode cX2_clear 0 = .ok (.iconst 0, 1) := by decide +kernel
theorem dX2_clear_1 : decode cX2_clear 1 = .ok (.istore_n 1, 1) := by decide +kernel
theorem dX2_clear_2 : decode cX2_clear 2 = .ok (.iload_n 1, 1) := by decide +kernel
theorem dX2_clear_3 : decode cX2_clear 3 = .ok (.aload_n 0, 1) := by decide +kernel
theorem dX2_clear_4 : decode cX2_clear 4 = .ok (.getfield 13, 3) := by decide +kernel
theorem dX2_clear_7 : decode cX2_clear 7 = .ok (.arraylength, 1) := by decide +kernel
theorem dX2_clear_8 : decode cX2_clear 8 = .ok (.if_icmp .ge 16, 3) := by decide +kernel
theorem dX2_clear_11 : decode cX2_clear 11 = .ok (.aload_n 0, 1) := by decide +kernel
theorem dX2_clear_12 : decode cX2_clear 12 = .ok (.getfield 13, 3) := by decide +kernel
theorem dX2_clear_15 : decode cX2_clear 15 = .ok (.iload_n 1, 1) := by decide +kernel
theorem dX2_clear_16 : decode cX2_clear 16 = .ok (.iconst 0, 1) := by decide +kernel
theorem dX2_clear_17 : decode cX2_clear 17 = .ok (.iastore, 1) := by decide +kernel
theorem dX2_clear_18 : decode cX2_clear 18 = .ok (.iinc 1 1, 3) := by decide +kernel
theorem dX2_clear_21 : decode cX2_clear 21 = .ok (.goto (-19), 3) := by decide +kernel
theorem dX2_clear_24 : decode cX2_clear 24 = .ok (.return_, 1) := by decide +kernel
set_option maxRecDepth 20000 in
theorem ggX2_copyFrom_X2_at : GoodIn wsX2_copyFrom wsX2_at := goodIn_r _ [6, 1, 7] (by decide +kernel) (by decide +kernel)
set_option maxRecDepth 20000 in
theorem gX2_copyFrom_X2_at : GoodIn wsX2_copyFrom (wsV RX2 19 RX2 yX2_at wsX2_at) := goodIn_app (goodIn_of _ (by decide +kernel)) ggX2_copyFrom_X2_at
theorem dX2_copyFrom_0 : decode cX2_copyFrom 0 = .ok (.iconst 0, 1) := by decide +kernel
theorem dX2_copyFrom_1 : decode cX2_copyFrom 1 = .ok (.istore_n 2, 1) := by decide +kernel
theorem dX2_copyFrom_2 : decode cX2_copyFrom 2 = .ok (.iload_n 2, 1) := by decide +kernel
theorem dX2_copyFrom_3 : decode cX2_copyFrom 3 = .ok (.aload_n 0, 1) := by decide +kernel
theorem dX2_copyFrom_4 : decode cX2_copyFrom 4 = .ok (.getfield 13, 3) := by decide +kernel
theorem dX2_copyFrom_7 : decode cX2_copyFrom 7 = .ok (.arraylength, 1) := by decide +kernel
theorem dX2_copyFrom_8 : decode cX2_copyFrom 8 = .ok (.if_icmp .ge 20, 3) := by decide +kernel
theorem dX2_copyFrom_11 : decode cX2_copyFrom 11 = .ok (.aload_n 0, 1) := by decide +kernel
theorem dX2_copyFrom_12 : decode cX2_copyFrom 12 = .ok (.getfield 13, 3) := by decide +kernel
theorem dX2_copyFrom_15 : decode cX2_copyFrom 15 = .ok (.iload_n 2, 1) := by decide +kernel
theorem dX2_copyFrom_16 : decode cX2_copyFrom 16 = .ok (.aload_n 1, 1) := by decide +kernel
theorem dX2_copyFrom_17 : decode cX2_copyFrom 17 = .ok (.iload_n 2, 1) := by decide +kernel
theorem dX2_copyFrom_18 : decode cX2_copyFrom 18 = .ok (.invokevirtual 19, 3) := by decide +kernel
theorem dX2_copyFrom_21 : decode cX2_copyFrom 21 = .ok (.iastore, 1) := by decide +kernel
theorem dX2_copyFrom_22 : decode cX2_copyFrom 22 = .ok (.iinc 2 1, 3) := by decide +kernel
theorem dX2_copyFrom_25 : decode cX2_copyFrom 25 = .ok (.goto (-23), 3) := by decide +kernel
theorem dX2_copyFrom_28 : decode cX2_copyFrom 28 = .ok (.return_, 1) := by decide +kernel
set_option maxRecDepth 20000 in
theorem ggX3_init_X2_init : GoodIn wsX3_init wsX2_init := goodIn_r _ [10, 11, 2, 3, 12, 13, 14, 15, 16, 17, 18] (by decide +kernel) (by decide +kernel)
set_option maxRecDepth 20000 in
theorem gX3_init_X2_init : GoodIn wsX3_init (wsX2_init) := ggX3_init_X2_init
theorem dX3_init_0 : decode cX3_init 0 = .ok (.aload_n 0, 1) := by decide +kernel
theorem dX3_init_1 : decode cX3_init 1 = .ok (.invokespecial 3, 3) := by decide +kernel
theorem dX3_init_4 : decode cX3_init 4 = .ok (.aload_n 0, 1) := by decide +kernel
theorem dX3_init_5 : decode cX3_init 5 = .ok (.new 9, 3) := by decide +kernel
theorem dX3_init_8 : decode cX3_init 8 = .ok (.dup, 1) := by decide +kernel
theorem dX3_init_9 : decode cX3_init 9 = .ok (.bipush 60, 2) := by decide +kernel
theorem dX3_init_11 : decode cX3_init 11 = .ok (.invokespecial 11, 3) := by decide +kernel
theorem dX3_init_14 : decode cX3_init 14 = .ok (.putfield 14, 3) := by decide +kernel
theorem dX3_init_17 : decode cX3_init 17 = .ok (.return_, 1) := by decide +kernel
set_option maxRecDepth 20000 in
theorem ggX3_append_X2_put : GoodIn wsX3_append wsX2_put := goodIn_r _ [7, 8, 15] (by decide +kernel) (by decide +kernel)
set_option maxRecDepth 20000 in
theorem gX3_append_X2_put : GoodIn wsX3_append (wsV RX3 24 RX2 yX2_put wsX2_put) := goodIn_app (goodIn_of _ (by decide +kernel)) ggX3_append_X2_put
theorem dX3_append_0 : decode cX3_append 0 = .ok (.aload_n 0, 1) := by decide +kernel
theorem dX3_append_1 : decode cX3_append 1 = .ok (.getfield 20, 3) := by decide +kernel
theorem dX3_append_4 : decode cX3_append 4 = .ok (.bipush 60, 2) := by decide +kernel
theorem dX3_append_6 : decode cX3_append 6 = .ok (.if_icmp .lt 5, 3) := by decide +kernel
theorem dX3_append_9 : decode cX3_append 9 = .ok (.iconst 0, 1) := by decide +kernel
theorem dX3_append_10 : decode cX3_append 10 = .ok (.ireturn, 1) := by decide +kernel
theorem dX3_append_11 : decode cX3_append 11 = .ok (.aload_n 0, 1) := by decide +kernel
theorem dX3_append_12 : decode cX3_append 12 = .ok (.getfield 14, 3) := by decide +kernel
theorem dX3_append_15 : decode cX3_append 15 = .ok (.aload_n 0, 1) := by decide +kernel
theorem dX3_append_16 : decode cX3_append 16 = .ok (.getfield 20, 3) := by decide +kernel
theorem dX3_append_19 : decode cX3_append 19 = .ok (.iload_n 1, 1) := by decide +kernel
theorem dX3_append_20 : decode cX3_append 20 = .ok (.invokevirtual 24, 3) := by decide +kernel
theorem dX3_append_23 : decode cX3_append 23 = .ok (.aload_n 0, 1) := by decide +kernel
theorem dX3_append_24 : decode cX3_append 24 = .ok (.dup, 1) := by decide +kernel
theorem dX3_append_25 : decode cX3_append 25 = .ok (.getfield 20, 3) := by decide +kernel
theorem dX3_append_28 : decode cX3_append 28 = .ok (.iconst 1, 1) := by decide +kernel
theorem dX3_append_29 : decode cX3_append 29 = .ok (.iadd, 1) := by decide +kernel
theorem dX3_append_30 : decode cX3_append 30 = .ok (.putfield 20, 3) := by decide +kernel
theorem dX3_append_33 : decode cX3_append 33 = .ok (.iconst 1, 1) := by decide +kernel
theorem dX3_append_34 : decode cX3_append 34 = .ok (.ireturn, 1) := by decide +kernel
set_option maxRecDepth 20000 in
theorem ggX3_findFault_X3_readItem : GoodIn wsX3_findFault wsX3_readItem := goodIn_r _ [8, 2, 9, 10, 3, 11, 12, 13, 7, 14, 1, 15, 16, 17, 18, 19, 20, 21, 22, 23, 24, 25, 26, 27, 28, 29, 30, 31, 32, 33, 34, 35, 36, 37, 38, 39, 40, 41, 42] (by decide +kernel) (by decide +kernel)
set_option maxRecDepth 20000 in
theorem gX3_findFault_X3_readItem : GoodIn wsX3_findFault (wsV RX3 31 RX3 yX3_readItem wsX3_readItem) := goodIn_app (goodIn_of _ (by decide +kernel)) ggX3_findFault_X3_readItem
theorem dX3_findFault_0 : decode cX3_findFault 0 = .ok (.aload_n 0, 1) := by decide +kernel
theorem dX3_findFault_1 : decode cX3_findFault 1 = .ok (.getfield 20, 3) := by decide +kernel
theorem dX3_findFault_4 : decode cX3_findFault 4 = .ok (.ifCond .ne 5, 3) := by decide +kernel
theorem dX3_findFault_7 : decode cX3_findFault 7 = .ok (.iconst 0, 1) := by decide +kernel
theorem dX3_findFault_8 : decode cX3_findFault 8 = .ok (.ireturn, 1) := by decide +kernel
theorem dX3_findFault_9 : decode cX3_findFault 9 = .ok (.iconst (-1), 1) := by decide +kernel
theorem dX3_findFault_10 : decode cX3_findFault 10 = .ok (.istore_n 1, 1) := by decide +kernel
theorem dX3_findFault_11 : decode cX3_findFault 11 = .ok (.iconst 0, 1) := by decide +kernel
theorem dX3_findFault_12 : decode cX3_findFault 12 = .ok (.istore_n 2, 1) := by decide +kernel
theorem dX3_findFault_13 : decode cX3_findFault 13 = .ok (.aload_n 0, 1) := by decide +kernel
theorem dX3_findFault_14 : decode cX3_findFault 14 = .ok (.iconst 0, 1) := by decide +kernel
theorem dX3_findFault_15 : decode cX3_findFault 15 = .ok (.putfield 28, 3) := by decide +kernel
theorem dX3_findFault_18 : decode cX3_findFault 18 = .ok (.iconst 0, 1) := by decide +kernel
theorem dX3_findFault_19 : decode cX3_findFault 19 = .ok (.istore_n 3, 1) := by decide +kernel
theorem dX3_findFault_20 : decode cX3_findFault 20 = .ok (.iload_n 3, 1) := by decide +kernel
theorem dX3_findFault_21 : decode cX3_findFault 21 = .ok (.bipush 60, 2) := by decide +kernel
theorem dX3_findFault_23 : decode cX3_findFault 23 = .ok (.if_icmp .ge 58, 3) := by decide +kernel
theorem dX3_findFault_26 : decode cX3_findFault 26 = .ok (.aload_n 0, 1) := by decide +kernel
theorem dX3_findFault_27 : decode cX3_findFault 27 = .ok (.getfield 28, 3) := by decide +kernel
theorem dX3_findFault_30 : decode cX3_findFault 30 = .ok (.aload_n 0, 1) := by decide +kernel
theorem dX3_findFault_31 : decode cX3_findFault 31 = .ok (.getfield 20, 3) := by decide +kernel
theorem dX3_findFault_34 : decode cX3_findFault 34 = .ok (.if_icmp .ge 47, 3) := by decide +kernel
theorem dX3_findFault_37 : decode cX3_findFault 37 = .ok (.aload_n 0, 1) := by decide +kernel
theorem dX3_findFault_38 : decode cX3_findFault 38 = .ok (.getfield 28, 3) := by decide +kernel
theorem dX3_findFault_41 : decode cX3_findFault 41 = .ok (.istore 4, 2) := by decide +kernel
theorem dX3_findFault_43 : decode cX3_findFault 43 = .ok (.aload_n 0, 1) := by decide +kernel
theorem dX3_findFault_44 : decode cX3_findFault 44 = .ok (.invokevirtual 31, 3) := by decide +kernel
theorem dX3_findFault_47 : decode cX3_findFault 47 = .ok (.ifCond .ne 8, 3) := by decide +kernel
theorem dX3_findFault_50 : decode cX3_findFault 50 = .ok (.aload_n 0, 1) := by decide +kernel
theorem dX3_findFault_51 : decode cX3_findFault 51 = .ok (.getfield 28, 3) := by decide +kernel
theorem dX3_findFault_54 : decode cX3_findFault 54 = .ok (.ireturn, 1) := by decide +kernel
theorem dX3_findFault_55 : decode cX3_findFault 55 = .ok (.iload_n 2, 1) := by decide +kernel
theorem dX3_findFault_56 : decode cX3_findFault 56 = .ok (.aload_n 0, 1) := by decide +kernel
theorem dX3_findFault_57 : decode cX3_findFault 57 = .ok (.getfield 35, 3) := by decide +kernel
theorem dX3_findFault_60 : decode cX3_findFault 60 = .ok (.iadd, 1) := by decide +kernel
theorem dX3_findFault_61 : decode cX3_findFault 61 = .ok (.istore_n 2, 1) := by decide +kernel
theorem dX3_findFault_62 : decode cX3_findFault 62 = .ok (.iload_n 2, 1) := by decide +kernel
theorem dX3_findFault_63 : decode cX3_findFault 63 = .ok (.bipush 96, 2) := by decide +kernel
theorem dX3_findFault_65 : decode cX3_findFault 65 = .ok (.if_icmp .le 10, 3) := by decide +kernel
theorem dX3_findFault_68 : decode cX3_findFault 68 = .ok (.iload_n 1, 1) := by decide +kernel
theorem dX3_findFault_69 : decode cX3_findFault 69 = .ok (.ifCond .ge 6, 3) := by decide +kernel
theorem dX3_findFault_72 : decode cX3_findFault 72 = .ok (.iload 4, 2) := by decide +kernel
theorem dX3_findFault_74 : decode cX3_findFault 74 = .ok (.istore_n 1, 1) := by decide +kernel
theorem dX3_findFault_75 : decode cX3_findFault 75 = .ok (.iinc 3 1, 3) := by decide +kernel
theorem dX3_findFault_78 : decode cX3_findFault 78 = .ok (.goto (-58), 3) := by decide +kernel
theorem dX3_findFault_81 : decode cX3_findFault 81 = .ok (.iload_n 1, 1) := by decide +kernel
theorem dX3_findFault_82 : decode cX3_findFault 82 = .ok (.ireturn, 1) := by decide +kernel
set_option maxRecDepth 20000 in
theorem ggX3_writeTo_X3_readItem : GoodIn wsX3_writeTo wsX3_readItem := goodIn_r _ [10, 1, 3, 4, 5, 11, 12, 13, 9, 14, 2, 15, 16, 17, 18, 19, 20, 21, 22, 23, 24, 25, 26, 27, 28, 29, 30, 31, 32, 33, 34, 35, 48, 49, 50, 51, 52, 53, 54] (by decide +kernel) (by decide +kernel)
set_option maxRecDepth 20000 in
theorem gX3_writeTo_X3_readItem : GoodIn wsX3_writeTo (wsV RX3 31 RX3 yX3_readItem wsX3_readItem) := goodIn_app (goodIn_of _ (by decide +kernel)) ggX3_writeTo_X3_readItem
set_option maxRecDepth 20000 in
theorem ggX3_writeTo_X4_appendBeats : GoodIn wsX3_writeTo wsX4_appendBeats := goodIn_r _ [40, 41, 42, 43, 44, 45, 46, 19, 47, 21, 55, 56, 57, 58, 59, 60, 61, 62, 63, 64, 65, 66, 67, 54] (by decide +kernel) (by decide +kernel)
set_option maxRecDepth 20000 in
theorem gX3_writeTo_X4_appendBeats : GoodIn wsX3_writeTo (wsV RX3 44 RX4 yX4_appendBeats wsX4_appendBeats) := goodIn_app (goodIn_of _ (by decide +kernel)) ggX3_writeTo_X4_appendBeats
theorem dX3_writeTo_0 : decode cX3_writeTo 0 = .ok (.aload_n 0, 1) := by decide +kernel
theorem dX3_writeTo_1 : decode cX3_writeTo 1 = .ok (.iconst 0, 1) := by decide +kernel
theorem dX3_writeTo_2 : decode cX3_writeTo 2 = .ok (.putfield 28, 3) := by decide +kernel
theorem dX3_writeTo_5 : decode cX3_writeTo 5 = .ok (.iconst 0, 1) := by decide +kernel
theorem dX3_writeTo_6 : decode cX3_writeTo 6 = .ok (.istore_n 2, 1) := by decide +kernel
theorem dX3_writeTo_7 : decode cX3_writeTo 7 = .ok (.iload_n 2, 1) := by decide +kernel
theorem dX3_writeTo_8 : decode cX3_writeTo 8 = .ok (.bipush 60, 2) := by decide +kernel
theorem dX3_writeTo_10 : decode cX3_writeTo 10 = .ok (.if_icmp .ge 44, 3) := by decide +kernel
theorem dX3_writeTo_13 : decode cX3_writeTo 13 = .ok (.aload_n 0, 1) := by decide +kernel
theorem dX3_writeTo_14 : decode cX3_writeTo 14 = .ok (.getfield 28, 3) := by decide +kernel
theorem dX3_writeTo_17 : decode cX3_writeTo 17 = .ok (.aload_n 0, 1) := by decide +kernel
theorem dX3_writeTo_18 : decode cX3_writeTo 18 = .ok (.getfield 20, 3) := by decide +kernel
theorem dX3_writeTo_21 : decode cX3_writeTo 21 = .ok (.if_icmp .ge 33, 3) := by decide +kernel
theorem dX3_writeTo_24 : decode cX3_writeTo 24 = .ok (.aload_n 0, 1) := by decide +kernel
theorem dX3_writeTo_25 : decode cX3_writeTo 25 = .ok (.invokevirtual 31, 3) := by decide +kernel
theorem dX3_writeTo_28 : decode cX3_writeTo 28 = .ok (.ifCond .ne 4, 3) := by decide +kernel
theorem dX3_writeTo_31 : decode cX3_writeTo 31 = .ok (.return_, 1) := by decide +kernel
theorem dX3_writeTo_32 : decode cX3_writeTo 32 = .ok (.aload_n 1, 1) := by decide +kernel
theorem dX3_writeTo_33 : decode cX3_writeTo 33 = .ok (.aload_n 0, 1) := by decide +kernel
theorem dX3_writeTo_34 : decode cX3_writeTo 34 = .ok (.getfield 38, 3) := by decide +kernel
theorem dX3_writeTo_37 : decode cX3_writeTo 37 = .ok (.aload_n 0, 1) := by decide +kernel
theorem dX3_writeTo_38 : decode cX3_writeTo 38 = .ok (.getfield 41, 3) := by decide +kernel
theorem dX3_writeTo_41 : decode cX3_writeTo 41 = .ok (.aload_n 0, 1) := by decide +kernel
theorem dX3_writeTo_42 : decode cX3_writeTo 42 = .ok (.getfield 35, 3) := by decide +kernel
theorem dX3_writeTo_45 : decode cX3_writeTo 45 = .ok (.invokevirtual 44, 3) := by decide +kernel
theorem dX3_writeTo_48 : decode cX3_writeTo 48 = .ok (.iinc 2 1, 3) := by decide +kernel
theorem dX3_writeTo_51 : decode cX3_writeTo 51 = .ok (.goto (-44), 3) := by decide +kernel
theorem dX3_writeTo_54 : decode cX3_writeTo 54 = .ok (.return_, 1) := by decide +kernel
set_option maxRecDepth 20000 in
theorem ggX3_readItem_X3_signAt : GoodIn wsX3_readItem wsX3_signAt := goodIn_r _ [9, 10, 11, 12, 13, 14, 15, 16, 17, 32, 33, 34, 35, 36, 37, 38] (by decide +kernel) (by decide +kernel)
set_option maxRecDepth 20000 in
theorem gX3_readItem_X3_signAt : GoodIn wsX3_readItem (wsV RX3 50 RX3 yX3_signAt wsX3_signAt) := goodIn_app (goodIn_of _ (by decide +kernel)) ggX3_readItem_X3_signAt
set_option maxRecDepth 20000 in
theorem ggX3_readItem_X3_sortOf : GoodIn wsX3_readItem wsX3_sortOf := goodIn_r _ [20] (by decide +kernel) (by decide +kernel)
set_option maxRecDepth 20000 in
theorem gX3_readItem_X3_sortOf : GoodIn wsX3_readItem (va_wsS RX3 54 yX3_sortOf wsX3_sortOf) := goodIn_app (goodIn_of _ (by decide +kernel)) ggX3_readItem_X3_sortOf
set_option maxRecDepth 20000 in
theorem ggX3_readItem_X3_digitAt : GoodIn wsX3_readItem wsX3_digitAt := goodIn_r _ [24, 5, 6, 7, 8, 9, 10, 11, 12, 13, 14, 15, 16, 17, 25, 26, 27, 32, 33, 34, 35, 36, 37, 38] (by decide +kernel) (by decide +kernel)
set_option maxRecDepth 20000 in
theorem gX3_readItem_X3_digitAt : GoodIn wsX3_readItem (wsV RX3 57 RX3 yX3_digitAt wsX3_digitAt) := goodIn_app (goodIn_of _ (by decide +kernel)) ggX3_readItem_X3_digitAt
set_option maxRecDepth 20000 in
theorem ggX3_readItem_X7_isWithin : GoodIn wsX3_readItem wsX7_isWithin := goodIn_r _ [27] (by decide +kernel) (by decide +kernel)
set_option maxRecDepth 20000 in
theorem gX3_readItem_X7_isWithin_n60 : GoodIn wsX3_readItem (wsX7_isWithin) := ggX3_readItem_X7_isWithin
set_option maxRecDepth 20000 in
theorem ggX3_readItem_X3_readTimes : GoodIn wsX3_readItem wsX3_readTimes := goodIn_r _ [31, 1, 4, 21, 22, 23, 8, 24, 5, 6, 7, 9, 10, 11, 12, 13, 14, 15, 16, 17, 25, 26, 27, 32, 33, 34, 35, 36, 37, 38] (by decide +kernel) (by decide +kernel)
set_option maxRecDepth 20000 in
theorem gX3_readItem_X3_readTimes : GoodIn wsX3_readItem (wsV RX3 64 RX3 yX3_readTimes wsX3_readTimes) := goodIn_app (goodIn_of _ (by decide +kernel)) ggX3_readItem_X3_readTimes
theorem dX3_readItem_0 : decode cX3_readItem 0 = .ok (.aload_n 0, 1) := by decide +kernel
theorem dX3_readItem_1 : decode cX3_readItem 1 = .ok (.aload_n 0, 1) := by decide +kernel
theorem dX3_readItem_2 : decode cX3_readItem 2 = .ok (.aload_n 0, 1) := by decide +kernel
theorem dX3_readItem_3 : decode cX3_readItem 3 = .ok (.getfield 28, 3) := by decide +kernel
theorem dX3_readItem_6 : decode cX3_readItem 6 = .ok (.invokevirtual 50, 3) := by decide +kernel
theorem dX3_readItem_9 : decode cX3_readItem 9 = .ok (.invokestatic 54, 3) := by decide +kernel
theorem dX3_readItem_12 : decode cX3_readItem 12 = .ok (.putfield 38, 3) := by decide +kernel
theorem dX3_readItem_15 : decode cX3_readItem 15 = .ok (.aload_n 0, 1) := by decide +kernel
theorem dX3_readItem_16 : decode cX3_readItem 16 = .ok (.getfield 38, 3) := by decide +kernel
theorem dX3_readItem_19 : decode cX3_readItem 19 = .ok (.ifCond .ge 5, 3) := by decide +kernel
theorem dX3_readItem_22 : decode cX3_readItem 22 = .ok (.iconst 0, 1) := by decide +kernel
theorem dX3_readItem_23 : decode cX3_readItem 23 = .ok (.ireturn, 1) := by decide +kernel
theorem dX3_readItem_24 : decode cX3_readItem 24 = .ok (.aload_n 0, 1) := by decide +kernel
theorem dX3_readItem_25 : decode cX3_readItem 25 = .ok (.dup, 1) := by decide +kernel
theorem dX3_readItem_26 : decode cX3_readItem 26 = .ok (.getfield 28, 3) := by decide +kernel
theorem dX3_readItem_29 : decode cX3_readItem 29 = .ok (.iconst 1, 1) := by decide +kernel
theorem dX3_readItem_30 : decode cX3_readItem 30 = .ok (.iadd, 1) := by decide +kernel
theorem dX3_readItem_31 : decode cX3_readItem 31 = .ok (.putfield 28, 3) := by decide +kernel
theorem dX3_readItem_34 : decode cX3_readItem 34 = .ok (.aload_n 0, 1) := by decide +kernel
theorem dX3_readItem_35 : decode cX3_readItem 35 = .ok (.iconst 2, 1) := by decide +kernel
theorem dX3_readItem_36 : decode cX3_readItem 36 = .ok (.putfield 41, 3) := by decide +kernel
theorem dX3_readItem_39 : decode cX3_readItem 39 = .ok (.aload_n 0, 1) := by decide +kernel
theorem dX3_readItem_40 : decode cX3_readItem 40 = .ok (.aload_n 0, 1) := by decide +kernel
theorem dX3_readItem_41 : decode cX3_readItem 41 = .ok (.getfield 28, 3) := by decide +kernel
theorem dX3_readItem_44 : decode cX3_readItem 44 = .ok (.invokevirtual 57, 3) := by decide +kernel
theorem dX3_readItem_47 : decode cX3_readItem 47 = .ok (.istore_n 1, 1) := by decide +kernel
theorem dX3_readItem_48 : decode cX3_readItem 48 = .ok (.aload_n 0, 1) := by decide +kernel
theorem dX3_readItem_49 : decode cX3_readItem 49 = .ok (.getfield 38, 3) := by decide +kernel
theorem dX3_readItem_52 : decode cX3_readItem 52 = .ok (.ifCond .eq 27, 3) := by decide +kernel
theorem dX3_readItem_55 : decode cX3_readItem 55 = .ok (.iload_n 1, 1) := by decide +kernel
theorem dX3_readItem_56 : decode cX3_readItem 56 = .ok (.iconst 1, 1) := by decide +kernel
theorem dX3_readItem_57 : decode cX3_readItem 57 = .ok (.iconst 5, 1) := by decide +kernel
theorem dX3_readItem_58 : decode cX3_readItem 58 = .ok (.invokestatic 60, 3) := by decide +kernel
theorem dX3_readItem_61 : decode cX3_readItem 61 = .ok (.ifCond .eq 18, 3) := by decide +kernel
theorem dX3_readItem_64 : decode cX3_readItem 64 = .ok (.aload_n 0, 1) := by decide +kernel
theorem dX3_readItem_65 : decode cX3_readItem 65 = .ok (.iload_n 1, 1) := by decide +kernel
theorem dX3_readItem_66 : decode cX3_readItem 66 = .ok (.putfield 41, 3) := by decide +kernel
theorem dX3_readItem_69 : decode cX3_readItem 69 = .ok (.aload_n 0, 1) := by decide +kernel
theorem dX3_readItem_70 : decode cX3_readItem 70 = .ok (.dup, 1) := by decide +kernel
theorem dX3_readItem_71 : decode cX3_readItem 71 = .ok (.getfield 28, 3) := by decide +kernel
theorem dX3_readItem_74 : decode cX3_readItem 74 = .ok (.iconst 1, 1) := by decide +kernel
theorem dX3_readItem_75 : decode cX3_readItem 75 = .ok (.iadd, 1) := by decide +kernel
theorem dX3_readItem_76 : decode cX3_readItem 76 = .ok (.putfield 28, 3) := by decide +kernel
theorem dX3_readItem_79 : decode cX3_readItem 79 = .ok (.aload_n 0, 1) := by decide +kernel
theorem dX3_readItem_80 : decode cX3_readItem 80 = .ok (.iconst 1, 1) := by decide +kernel
theorem dX3_readItem_81 : decode cX3_readItem 81 = .ok (.putfield 35, 3) := by decide +kernel
theorem dX3_readItem_84 : decode cX3_readItem 84 = .ok (.aload_n 0, 1) := by decide +kernel
theorem dX3_readItem_85 : decode cX3_readItem 85 = .ok (.aload_n 0, 1) := by decide +kernel
theorem dX3_readItem_86 : decode cX3_readItem 86 = .ok (.getfield 28, 3) := by decide +kernel
theorem dX3_readItem_89 : decode cX3_readItem 89 = .ok (.invokevirtual 50, 3) := by decide +kernel
theorem dX3_readItem_92 : decode cX3_readItem 92 = .ok (.bipush 120, 2) := by decide +kernel
theorem dX3_readItem_94 : decode cX3_readItem 94 = .ok (.if_icmp .eq 5, 3) := by decide +kernel
theorem dX3_readItem_97 : decode cX3_readItem 97 = .ok (.iconst 1, 1) := by decide +kernel
theorem dX3_readItem_98 : decode cX3_readItem 98 = .ok (.ireturn, 1) := by decide +kernel
theorem dX3_readItem_99 : decode cX3_readItem 99 = .ok (.aload_n 0, 1) := by decide +kernel
theorem dX3_readItem_100 : decode cX3_readItem 100 = .ok (.dup, 1) := by decide +kernel
theorem dX3_readItem_101 : decode cX3_readItem 101 = .ok (.getfield 28, 3) := by decide +kernel
theorem dX3_readItem_104 : decode cX3_readItem 104 = .ok (.iconst 1, 1) := by decide +kernel
theorem dX3_readItem_105 : decode cX3_readItem 105 = .ok (.iadd, 1) := by decide +kernel
theorem dX3_readItem_106 : decode cX3_readItem 106 = .ok (.putfield 28, 3) := by decide +kernel
theorem dX3_readItem_109 : decode cX3_readItem 109 = .ok (.aload_n 0, 1) := by decide +kernel
theorem dX3_readItem_110 : decode cX3_readItem 110 = .ok (.invokevirtual 64, 3) := by decide +kernel
theorem dX3_readItem_113 : decode cX3_readItem 113 = .ok (.ireturn, 1) := by decide +kernel
set_option maxRecDepth 20000 in
theorem ggX3_readTimes_X3_digitAt : GoodIn wsX3_readTimes wsX3_digitAt := goodIn_r _ [7, 8, 9, 10, 6, 11, 12, 13, 14, 15, 16, 17, 18, 19, 20, 21, 22, 23, 24, 25, 26, 27, 28, 29] (by decide +kernel) (by decide +kernel)
set_option maxRecDepth 20000 in
theorem gX3_readTimes_X3_digitAt : GoodIn wsX3_readTimes (wsV RX3 57 RX3 yX3_digitAt wsX3_digitAt) := goodIn_app (goodIn_of _ (by decide +kernel)) ggX3_readTimes_X3_digitAt
theorem dX3_readTimes_0 : decode cX3_readTimes 0 = .ok (.aload_n 0, 1) := by decide +kernel
theorem dX3_readTimes_1 : decode cX3_readTimes 1 = .ok (.aload_n 0, 1) := by decide +kernel
theorem dX3_readTimes_2 : decode cX3_readTimes 2 = .ok (.getfield 28, 3) := by decide +kernel
theorem dX3_readTimes_5 : decode cX3_readTimes 5 = .ok (.invokevirtual 57, 3) := by decide +kernel
theorem dX3_readTimes_8 : decode cX3_readTimes 8 = .ok (.istore_n 1, 1) := by decide +kernel
theorem dX3_readTimes_9 : decode cX3_readTimes 9 = .ok (.iload_n 1, 1) := by decide +kernel
theorem dX3_readTimes_10 : decode cX3_readTimes 10 = .ok (.iconst 1, 1) := by decide +kernel
theorem dX3_readTimes_11 : decode cX3_readTimes 11 = .ok (.if_icmp .ge 5, 3) := by decide +kernel
theorem dX3_readTimes_14 : decode cX3_readTimes 14 = .ok (.iconst 0, 1) := by decide +kernel
theorem dX3_readTimes_15 : decode cX3_readTimes 15 = .ok (.ireturn, 1) := by decide +kernel
theorem dX3_readTimes_16 : decode cX3_readTimes 16 = .ok (.aload_n 0, 1) := by decide +kernel
theorem dX3_readTimes_17 : decode cX3_readTimes 17 = .ok (.iload_n 1, 1) := by decide +kernel
theorem dX3_readTimes_18 : decode cX3_readTimes 18 = .ok (.putfield 35, 3) := by decide +kernel
theorem dX3_readTimes_21 : decode cX3_readTimes 21 = .ok (.aload_n 0, 1) := by decide +kernel
theorem dX3_readTimes_22 : decode cX3_readTimes 22 = .ok (.dup, 1) := by decide +kernel
theorem dX3_readTimes_23 : decode cX3_readTimes 23 = .ok (.getfield 28, 3) := by decide +kernel
theorem dX3_readTimes_26 : decode cX3_readTimes 26 = .ok (.iconst 1, 1) := by decide +kernel
theorem dX3_readTimes_27 : decode cX3_readTimes 27 = .ok (.iadd, 1) := by decide +kernel
theorem dX3_readTimes_28 : decode cX3_readTimes 28 = .ok (.putfield 28, 3) := by decide +kernel
theorem dX3_readTimes_31 : decode cX3_readTimes 31 = .ok (.aload_n 0, 1) := by decide +kernel
theorem dX3_readTimes_32 : decode cX3_readTimes 32 = .ok (.aload_n 0, 1) := by decide +kernel
theorem dX3_readTimes_33 : decode cX3_readTimes 33 = .ok (.getfield 28, 3) := by decide +kernel
theorem dX3_readTimes_36 : decode cX3_readTimes 36 = .ok (.invokevirtual 57, 3) := by decide +kernel
theorem dX3_readTimes_39 : decode cX3_readTimes 39 = .ok (.istore_n 2, 1) := by decide +kernel
theorem dX3_readTimes_40 : decode cX3_readTimes 40 = .ok (.iload_n 2, 1) := by decide +kernel
theorem dX3_readTimes_41 : decode cX3_readTimes 41 = .ok (.ifCond .ge 14, 3) := by decide +kernel
theorem dX3_readTimes_44 : decode cX3_readTimes 44 = .ok (.iload_n 1, 1) := by decide +kernel
theorem dX3_readTimes_45 : decode cX3_readTimes 45 = .ok (.iconst 1, 1) := by decide +kernel
theorem dX3_readTimes_46 : decode cX3_readTimes 46 = .ok (.if_icmp .eq 7, 3) := by decide +kernel
theorem dX3_readTimes_49 : decode cX3_readTimes 49 = .ok (.iconst 1, 1) := by decide +kernel
theorem dX3_readTimes_50 : decode cX3_readTimes 50 = .ok (.goto 4, 3) := by decide +kernel
theorem dX3_readTimes_53 : decode cX3_readTimes 53 = .ok (.iconst 0, 1) := by decide +kernel
theorem dX3_readTimes_54 : decode cX3_readTimes 54 = .ok (.ireturn, 1) := by decide +kernel
theorem dX3_readTimes_55 : decode cX3_readTimes 55 = .ok (.aload_n 0, 1) := by decide +kernel
theorem dX3_readTimes_56 : decode cX3_readTimes 56 = .ok (.iload_n 1, 1) := by decide +kernel
theorem dX3_readTimes_57 : decode cX3_readTimes 57 = .ok (.bipush 10, 2) := by decide +kernel
theorem dX3_readTimes_59 : decode cX3_readTimes 59 = .ok (.imul, 1) := by decide +kernel
theorem dX3_readTimes_60 : decode cX3_readTimes 60 = .ok (.iload_n 2, 1) := by decide +kernel
theorem dX3_readTimes_61 : decode cX3_readTimes 61 = .ok (.iadd, 1) := by decide +kernel
theorem dX3_readTimes_62 : decode cX3_readTimes 62 = .ok (.putfield 35, 3) := by decide +kernel
theorem dX3_readTimes_65 : decode cX3_readTimes 65 = .ok (.aload_n 0, 1) := by decide +kernel
theorem dX3_readTimes_66 : decode cX3_readTimes 66 = .ok (.getfield 35, 3) := by decide +kernel
theorem dX3_readTimes_69 : decode cX3_readTimes 69 = .ok (.bipush 96, 2) := by decide +kernel
theorem dX3_readTimes_71 : decode cX3_readTimes 71 = .ok (.if_icmp .le 5, 3) := by decide +kernel
theorem dX3_readTimes_74 : decode cX3_readTimes 74 = .ok (.iconst 0, 1) := by decide +kernel
theorem dX3_readTimes_75 : decode cX3_readTimes 75 = .ok (.ireturn, 1) := by decide +kernel
theorem dX3_readTimes_76 : decode cX3_readTimes 76 = .ok (.aload_n 0, 1) := by decide +kernel
theorem dX3_readTimes_77 : decode cX3_readTimes 77 = .ok (.dup, 1) := by decide +kernel
theorem dX3_readTimes_78 : decode cX3_readTimes 78 = .ok (.getfield 28, 3) := by decide +kernel
theorem dX3_readTimes_81 : decode cX3_readTimes 81 = .ok (.iconst 1, 1) := by decide +kernel
theorem dX3_readTimes_82 : decode cX3_readTimes 82 = .ok (.iadd, 1) := by decide +kernel
theorem dX3_readTimes_83 : decode cX3_readTimes 83 = .ok (.putfield 28, 3) := by decide +kernel
theorem dX3_readTimes_86 : decode cX3_readTimes 86 = .ok (.iconst 1, 1) := by decide +kernel
theorem dX3_readTimes_87 : decode cX3_readTimes 87 = .ok (.ireturn, 1) := by decide +kernel
set_option maxRecDepth 20000 in
theorem ggX3_signAt_X2_at : GoodIn wsX3_signAt wsX2_at := goodIn_r _ [7, 8, 15] (by decide +kernel) (by decide +kernel)
set_option maxRecDepth 20000 in
theorem gX3_signAt_X2_at : GoodIn wsX3_signAt (wsV RX3 67 RX2 yX2_at wsX2_at) := goodIn_app (goodIn_of _ (by decide +kernel)) ggX3_signAt_X2_at
theorem dX3_signAt_0 : decode cX3_signAt 0 = .ok (.iload_n 1, 1) := by decide +kernel
theorem dX3_signAt_1 : decode cX3_signAt 1 = .ok (.aload_n 0, 1) := by decide +kernel
theorem dX3_signAt_2 : decode cX3_signAt 2 = .ok (.getfield 20, 3) := by decide +kernel
theorem dX3_signAt_5 : decode cX3_signAt 5 = .ok (.if_icmp .ge 14, 3) := by decide +kernel
theorem dX3_signAt_8 : decode cX3_signAt 8 = .ok (.aload_n 0, 1) := by decide +kernel
theorem dX3_signAt_9 : decode cX3_signAt 9 = .ok (.getfield 14, 3) := by decide +kernel
theorem dX3_signAt_12 : decode cX3_signAt 12 = .ok (.iload_n 1, 1) := by decide +kernel
theorem dX3_signAt_13 : decode cX3_signAt 13 = .ok (.invokevirtual 67, 3) := by decide +kernel
theorem dX3_signAt_16 : decode cX3_signAt 16 = .ok (.goto 4, 3) := by decide +kernel
theorem dX3_signAt_19 : decode cX3_signAt 19 = .ok (.iconst (-1), 1) := by decide +kernel
theorem dX3_signAt_20 : decode cX3_signAt 20 = .ok (.ireturn, 1) := by decide +kernel
set_option maxRecDepth 20000 in
theorem ggX3_digitAt_X3_signAt : GoodIn wsX3_digitAt wsX3_signAt := goodIn_r _ [5, 6, 7, 8, 9, 10, 11, 12, 13, 17, 18, 19, 20, 21, 22, 23] (by decide +kernel) (by decide +kernel)
set_option maxRecDepth 20000 in
theorem gX3_digitAt_X3_signAt : GoodIn wsX3_digitAt (wsV RX3 50 RX3 yX3_signAt wsX3_signAt) := goodIn_app (goodIn_of _ (by decide +kernel)) ggX3_digitAt_X3_signAt
set_option maxRecDepth 20000 in
theorem ggX3_digitAt_X7_isWithin : GoodIn wsX3_digitAt wsX7_isWithin := goodIn_r _ [16] (by decide +kernel) (by decide +kernel)
set_option maxRecDepth 20000 in
theorem gX3_digitAt_X7_isWithin_n60 : GoodIn wsX3_digitAt (wsX7_isWithin) := ggX3_digitAt_X7_isWithin
theorem dX3_digitAt_0 : decode cX3_digitAt 0 = .ok (.aload_n 0, 1) := by decide +kernel
theorem dX3_digitAt_1 : decode cX3_digitAt 1 = .ok (.iload_n 1, 1) := by decide +kernel
theorem dX3_digitAt_2 : decode cX3_digitAt 2 = .ok (.invokevirtual 50, 3) := by decide +kernel
theorem dX3_digitAt_5 : decode cX3_digitAt 5 = .ok (.istore_n 2, 1) := by decide +kernel
theorem dX3_digitAt_6 : decode cX3_digitAt 6 = .ok (.iload_n 2, 1) := by decide +kernel
theorem dX3_digitAt_7 : decode cX3_digitAt 7 = .ok (.bipush 48, 2) := by decide +kernel
theorem dX3_digitAt_9 : decode cX3_digitAt 9 = .ok (.bipush 57, 2) := by decide +kernel
theorem dX3_digitAt_11 : decode cX3_digitAt 11 = .ok (.invokestatic 60, 3) := by decide +kernel
theorem dX3_digitAt_14 : decode cX3_digitAt 14 = .ok (.ifCond .eq 10, 3) := by decide +kernel
theorem dX3_digitAt_17 : decode cX3_digitAt 17 = .ok (.iload_n 2, 1) := by decide +kernel
theorem dX3_digitAt_18 : decode cX3_digitAt 18 = .ok (.bipush 48, 2) := by decide +kernel
theorem dX3_digitAt_20 : decode cX3_digitAt 20 = .ok (.isub, 1) := by decide +kernel
theorem dX3_digitAt_21 : decode cX3_digitAt 21 = .ok (.goto 4, 3) := by decide +kernel
theorem dX3_digitAt_24 : decode cX3_digitAt 24 = .ok (.iconst (-1), 1) := by decide +kernel
theorem dX3_digitAt_25 : decode cX3_digitAt 25 = .ok (.ireturn, 1) := by decide +kernel
theorem dX3_sortOf_0 : decode cX3_sortOf 0 = .ok (.iload_n 0, 1) := by decide +kernel
theorem dX3_sortOf_1 : decode cX3_sortOf 1 = .ok (.lookupswitch 41 #[(45, 37), (46, 35), (111, 39)], 35) := by decide +kernel
theorem dX3_sortOf_36 : decode cX3_sortOf 36 = .ok (.iconst 0, 1) := by decide +kernel
theorem dX3_sortOf_37 : decode cX3_sortOf 37 = .ok (.ireturn, 1) := by decide +kernel
theorem dX3_sortOf_38 : decode cX3_sortOf 38 = .ok (.iconst 1, 1) := by decide +kernel
theorem dX3_sortOf_39 : decode cX3_sortOf 39 = .ok (.ireturn, 1) := by decide +kernel
theorem dX3_sortOf_40 : decode cX3_sortOf 40 = .ok (.iconst 2, 1) := by decide +kernel
theorem dX3_sortOf_41 : decode cX3_sortOf 41 = .ok (.ireturn, 1) := by decide +kernel
theorem dX3_sortOf_42 : decode cX3_sortOf 42 = .ok (.iconst (-1), 1) := by decide +kernel
theorem dX3_sortOf_43 : decode cX3_sortOf 43 = .ok (.ireturn, 1) := by decide +kernel
set_option maxRecDepth 20000 in
theorem ggX4_init_X2_init : GoodIn wsX4_init wsX2_init := goodIn_r _ [18, 19, 2, 3, 20, 21, 22, 23, 24, 25, 26] (by decide +kernel) (by decide +kernel)
set_option maxRecDepth 20000 in
theorem gX4_init_X2_init : GoodIn wsX4_init (wsX2_init) := ggX4_init_X2_init
theorem dX4_init_0 : decode cX4_init 0 = .ok (.aload_n 0, 1) := by decide +kernel
theorem dX4_init_1 : decode cX4_init 1 = .ok (.invokespecial 3, 3) := by decide +kernel
theorem dX4_init_4 : decode cX4_init 4 = .ok (.aload_n 0, 1) := by decide +kernel
theorem dX4_init_5 : decode cX4_init 5 = .ok (.new 9, 3) := by decide +kernel
theorem dX4_init_8 : decode cX4_init 8 = .ok (.dup, 1) := by decide +kernel
theorem dX4_init_9 : decode cX4_init 9 = .ok (.bipush 96, 2) := by decide +kernel
theorem dX4_init_11 : decode cX4_init 11 = .ok (.invokespecial 11, 3) := by decide +kernel
theorem dX4_init_14 : decode cX4_init 14 = .ok (.putfield 14, 3) := by decide +kernel
theorem dX4_init_17 : decode cX4_init 17 = .ok (.aload_n 0, 1) := by decide +kernel
theorem dX4_init_18 : decode cX4_init 18 = .ok (.new 9, 3) := by decide +kernel
theorem dX4_init_21 : decode cX4_init 21 = .ok (.dup, 1) := by decide +kernel
theorem dX4_init_22 : decode cX4_init 22 = .ok (.bipush 96, 2) := by decide +kernel
theorem dX4_init_24 : decode cX4_init 24 = .ok (.invokespecial 11, 3) := by decide +kernel
theorem dX4_init_27 : decode cX4_init 27 = .ok (.putfield 20, 3) := by decide +kernel
theorem dX4_init_30 : decode cX4_init 30 = .ok (.aload_n 0, 1) := by decide +kernel
theorem dX4_init_31 : decode cX4_init 31 = .ok (.new 9, 3) := by decide +kernel
theorem dX4_init_34 : decode cX4_init 34 = .ok (.dup, 1) := by decide +kernel
theorem dX4_init_35 : decode cX4_init 35 = .ok (.bipush 96, 2) := by decide +kernel
theorem dX4_init_37 : decode cX4_init 37 = .ok (.invokespecial 11, 3) := by decide +kernel
theorem dX4_init_40 : decode cX4_init 40 = .ok (.putfield 23, 3) := by decide +kernel
theorem dX4_init_43 : decode cX4_init 43 = .ok (.aload_n 0, 1) := by decide +kernel
theorem dX4_init_44 : decode cX4_init 44 = .ok (.new 9, 3) := by decide +kernel
theorem dX4_init_47 : decode cX4_init 47 = .ok (.dup, 1) := by decide +kernel
theorem dX4_init_48 : decode cX4_init 48 = .ok (.bipush 12, 2) := by decide +kernel
theorem dX4_init_50 : decode cX4_init 50 = .ok (.invokespecial 11, 3) := by decide +kernel
theorem dX4_init_53 : decode cX4_init 53 = .ok (.putfield 26, 3) := by decide +kernel
theorem dX4_init_56 : decode cX4_init 56 = .ok (.aload_n 0, 1) := by decide +kernel
theorem dX4_init_57 : decode cX4_init 57 = .ok (.new 9, 3) := by decide +kernel
theorem dX4_init_60 : decode cX4_init 60 = .ok (.dup, 1) := by decide +kernel
theorem dX4_init_61 : decode cX4_init 61 = .ok (.bipush 12, 2) := by decide +kernel
theorem dX4_init_63 : decode cX4_init 63 = .ok (.invokespecial 11, 3) := by decide +kernel
theorem dX4_init_66 : decode cX4_init 66 = .ok (.putfield 29, 3) := by decide +kernel
theorem dX4_init_69 : decode cX4_init 69 = .ok (.aload_n 0, 1) := by decide +kernel
theorem dX4_init_70 : decode cX4_init 70 = .ok (.new 9, 3) := by decide +kernel
theorem dX4_init_73 : decode cX4_init 73 = .ok (.dup, 1) := by decide +kernel
theorem dX4_init_74 : decode cX4_init 74 = .ok (.bipush 8, 2) := by decide +kernel
theorem dX4_init_76 : decode cX4_init 76 = .ok (.invokespecial 11, 3) := by decide +kernel
theorem dX4_init_79 : decode cX4_init 79 = .ok (.putfield 32, 3) := by decide +kernel
theorem dX4_init_82 : decode cX4_init 82 = .ok (.aload_n 0, 1) := by decide +kernel
theorem dX4_init_83 : decode cX4_init 83 = .ok (.new 9, 3) := by decide +kernel
theorem dX4_init_86 : decode cX4_init 86 = .ok (.dup, 1) := by decide +kernel
theorem dX4_init_87 : decode cX4_init 87 = .ok (.bipush 8, 2) := by decide +kernel
theorem dX4_init_89 : decode cX4_init 89 = .ok (.invokespecial 11, 3) := by decide +kernel
theorem dX4_init_92 : decode cX4_init 92 = .ok (.putfield 35, 3) := by decide +kernel
theorem dX4_init_95 : decode cX4_init 95 = .ok (.aload_n 0, 1) := by decide +kernel
theorem dX4_init_96 : decode cX4_init 96 = .ok (.new 9, 3) := by decide +kernel
theorem dX4_init_99 : decode cX4_init 99 = .ok (.dup, 1) := by decide +kernel
theorem dX4_init_100 : decode cX4_init 100 = .ok (.bipush 8, 2) := by decide +kernel
theorem dX4_init_102 : decode cX4_init 102 = .ok (.invokespecial 11, 3) := by decide +kernel
theorem dX4_init_105 : decode cX4_init 105 = .ok (.putfield 38, 3) := by decide +kernel
theorem dX4_init_108 : decode cX4_init 108 = .ok (.aload_n 0, 1) := by decide +kernel
theorem dX4_init_109 : decode cX4_init 109 = .ok (.iconst 2, 1) := by decide +kernel
theorem dX4_init_110 : decode cX4_init 110 = .ok (.putfield 41, 3) := by decide +kernel
theorem dX4_init_113 : decode cX4_init 113 = .ok (.return_, 1) := by decide +kernel
set_option maxRecDepth 20000 in
theorem ggX4_copyFrom_X2_copyFrom : GoodIn wsX4_copyFrom wsX2_copyFrom := goodIn_r _ [18, 19, 20, 21, 22, 17, 23, 37] (by decide +kernel) (by decide +kernel)
set_option maxRecDepth 20000 in
theorem gX4_copyFrom_X2_copyFrom : GoodIn wsX4_copyFrom (wsV RX4 57 RX2 yX2_copyFrom wsX2_copyFrom) := goodIn_app (goodIn_of _ (by decide +kernel)) ggX4_copyFrom_X2_copyFrom
theorem dX4_copyFrom_0 : decode cX4_copyFrom 0 = .ok (.aload_n 0, 1) := by decide +kernel
theorem dX4_copyFrom_1 : decode cX4_copyFrom 1 = .ok (.aload_n 1, 1) := by decide +kernel
theorem dX4_copyFrom_2 : decode cX4_copyFrom 2 = .ok (.getfield 45, 3) := by decide +kernel
theorem dX4_copyFrom_5 : decode cX4_copyFrom 5 = .ok (.putfield 45, 3) := by decide +kernel
theorem dX4_copyFrom_8 : decode cX4_copyFrom 8 = .ok (.aload_n 0, 1) := by decide +kernel
theorem dX4_copyFrom_9 : decode cX4_copyFrom 9 = .ok (.aload_n 1, 1) := by decide +kernel
theorem dX4_copyFrom_10 : decode cX4_copyFrom 10 = .ok (.getfield 48, 3) := by decide +kernel
theorem dX4_copyFrom_13 : decode cX4_copyFrom 13 = .ok (.putfield 48, 3) := by decide +kernel
theorem dX4_copyFrom_16 : decode cX4_copyFrom 16 = .ok (.aload_n 0, 1) := by decide +kernel
theorem dX4_copyFrom_17 : decode cX4_copyFrom 17 = .ok (.aload_n 1, 1) := by decide +kernel
theorem dX4_copyFrom_18 : decode cX4_copyFrom 18 = .ok (.getfield 51, 3) := by decide +kernel
theorem dX4_copyFrom_21 : decode cX4_copyFrom 21 = .ok (.putfield 51, 3) := by decide +kernel
theorem dX4_copyFrom_24 : decode cX4_copyFrom 24 = .ok (.aload_n 0, 1) := by decide +kernel
theorem dX4_copyFrom_25 : decode cX4_copyFrom 25 = .ok (.aload_n 1, 1) := by decide +kernel
theorem dX4_copyFrom_26 : decode cX4_copyFrom 26 = .ok (.getfield 54, 3) := by decide +kernel
theorem dX4_copyFrom_29 : decode cX4_copyFrom 29 = .ok (.putfield 54, 3) := by decide +kernel
theorem dX4_copyFrom_32 : decode cX4_copyFrom 32 = .ok (.aload_n 0, 1) := by decide +kernel
theorem dX4_copyFrom_33 : decode cX4_copyFrom 33 = .ok (.aload_n 1, 1) := by decide +kernel
theorem dX4_copyFrom_34 : decode cX4_copyFrom 34 = .ok (.getfield 41, 3) := by decide +kernel
theorem dX4_copyFrom_37 : decode cX4_copyFrom 37 = .ok (.putfield 41, 3) := by decide +kernel
theorem dX4_copyFrom_40 : decode cX4_copyFrom 40 = .ok (.aload_n 0, 1) := by decide +kernel
theorem dX4_copyFrom_41 : decode cX4_copyFrom 41 = .ok (.getfield 14, 3) := by decide +kernel
theorem dX4_copyFrom_44 : decode cX4_copyFrom 44 = .ok (.aload_n 1, 1) := by decide +kernel
theorem dX4_copyFrom_45 : decode cX4_copyFrom 45 = .ok (.getfield 14, 3) := by decide +kernel
theorem dX4_copyFrom_48 : decode cX4_copyFrom 48 = .ok (.invokevirtual 57, 3) := by decide +kernel
theorem dX4_copyFrom_51 : decode cX4_copyFrom 51 = .ok (.aload_n 0, 1) := by decide +kernel
theorem dX4_copyFrom_52 : decode cX4_copyFrom 52 = .ok (.getfield 20, 3) := by decide +kernel
theorem dX4_copyFrom_55 : decode cX4_copyFrom 55 = .ok (.aload_n 1, 1) := by decide +kernel
theorem dX4_copyFrom_56 : decode cX4_copyFrom 56 = .ok (.getfield 20, 3) := by decide +kernel
theorem dX4_copyFrom_59 : decode cX4_copyFrom 59 = .ok (.invokevirtual 57, 3) := by decide +kernel
theorem dX4_copyFrom_62 : decode cX4_copyFrom 62 = .ok (.aload_n 0, 1) := by decide +kernel
theorem dX4_copyFrom_63 : decode cX4_copyFrom 63 = .ok (.getfield 23, 3) := by decide +kernel
theorem dX4_copyFrom_66 : decode cX4_copyFrom 66 = .ok (.aload_n 1, 1) := by decide +kernel
theorem dX4_copyFrom_67 : decode cX4_copyFrom 67 = .ok (.getfield 23, 3) := by decide +kernel
theorem dX4_copyFrom_70 : decode cX4_copyFrom 70 = .ok (.invokevirtual 57, 3) := by decide +kernel
theorem dX4_copyFrom_73 : decode cX4_copyFrom 73 = .ok (.aload_n 0, 1) := by decide +kernel
theorem dX4_copyFrom_74 : decode cX4_copyFrom 74 = .ok (.getfield 26, 3) := by decide +kernel
theorem dX4_copyFrom_77 : decode cX4_copyFrom 77 = .ok (.aload_n 1, 1) := by decide +kernel
theorem dX4_copyFrom_78 : decode cX4_copyFrom 78 = .ok (.getfield 26, 3) := by decide +kernel
theorem dX4_copyFrom_81 : decode cX4_copyFrom 81 = .ok (.invokevirtual 57, 3) := by decide +kernel
theorem dX4_copyFrom_84 : decode cX4_copyFrom 84 = .ok (.aload_n 0, 1) := by decide +kernel
theorem dX4_copyFrom_85 : decode cX4_copyFrom 85 = .ok (.getfield 29, 3) := by decide +kernel
theorem dX4_copyFrom_88 : decode cX4_copyFrom 88 = .ok (.aload_n 1, 1) := by decide +kernel
theorem dX4_copyFrom_89 : decode cX4_copyFrom 89 = .ok (.getfield 29, 3) := by decide +kernel
theorem dX4_copyFrom_92 : decode cX4_copyFrom 92 = .ok (.invokevirtual 57, 3) := by decide +kernel
theorem dX4_copyFrom_95 : decode cX4_copyFrom 95 = .ok (.aload_n 0, 1) := by decide +kernel
theorem dX4_copyFrom_96 : decode cX4_copyFrom 96 = .ok (.getfield 32, 3) := by decide +kernel
theorem dX4_copyFrom_99 : decode cX4_copyFrom 99 = .ok (.aload_n 1, 1) := by decide +kernel
theorem dX4_copyFrom_100 : decode cX4_copyFrom 100 = .ok (.getfield 32, 3) := by decide +kernel
theorem dX4_copyFrom_103 : decode cX4_copyFrom 103 = .ok (.invokevirtual 57, 3) := by decide +kernel
theorem dX4_copyFrom_106 : decode cX4_copyFrom 106 = .ok (.aload_n 0, 1) := by decide +kernel
theorem dX4_copyFrom_107 : decode cX4_copyFrom 107 = .ok (.getfield 35, 3) := by decide +kernel
theorem dX4_copyFrom_110 : decode cX4_copyFrom 110 = .ok (.aload_n 1, 1) := by decide +kernel
theorem dX4_copyFrom_111 : decode cX4_copyFrom 111 = .ok (.getfield 35, 3) := by decide +kernel
theorem dX4_copyFrom_114 : decode cX4_copyFrom 114 = .ok (.invokevirtual 57, 3) := by decide +kernel
theorem dX4_copyFrom_117 : decode cX4_copyFrom 117 = .ok (.aload_n 0, 1) := by decide +kernel
theorem dX4_copyFrom_118 : decode cX4_copyFrom 118 = .ok (.getfield 38, 3) := by decide +kernel
theorem dX4_copyFrom_121 : decode cX4_copyFrom 121 = .ok (.aload_n 1, 1) := by decide +kernel
theorem dX4_copyFrom_122 : decode cX4_copyFrom 122 = .ok (.getfield 38, 3) := by decide +kernel
theorem dX4_copyFrom_125 : decode cX4_copyFrom 125 = .ok (.invokevirtual 57, 3) := by decide +kernel
theorem dX4_copyFrom_128 : decode cX4_copyFrom 128 = .ok (.return_, 1) := by decide +kernel
theorem dX4_hasBeat_0 : decode cX4_hasBeat 0 = .ok (.iload_n 1, 1) := by decide +kernel
theorem dX4_hasBeat_1 : decode cX4_hasBeat 1 = .ok (.ifCond .lt 15, 3) := by decide +kernel
theorem dX4_hasBeat_4 : decode cX4_hasBeat 4 = .ok (.iload_n 1, 1) := by decide +kernel
theorem dX4_hasBeat_5 : decode cX4_hasBeat 5 = .ok (.aload_n 0, 1) := by decide +kernel
theorem dX4_hasBeat_6 : decode cX4_hasBeat 6 = .ok (.getfield 45, 3) := by decide +kernel
theorem dX4_hasBeat_9 : decode cX4_hasBeat 9 = .ok (.if_icmp .ge 7, 3) := by decide +kernel
theorem dX4_hasBeat_12 : decode cX4_hasBeat 12 = .ok (.iconst 1, 1) := by decide +kernel
theorem dX4_hasBeat_13 : decode cX4_hasBeat 13 = .ok (.goto 4, 3) := by decide +kernel
theorem dX4_hasBeat_16 : decode cX4_hasBeat 16 = .ok (.iconst 0, 1) := by decide +kernel
theorem dX4_hasBeat_17 : decode cX4_hasBeat 17 = .ok (.ireturn, 1) := by decide +kernel
theorem dX4_hasSinger_0 : decode cX4_hasSinger 0 = .ok (.iload_n 1, 1) := by decide +kernel
theorem dX4_hasSinger_1 : decode cX4_hasSinger 1 = .ok (.ifCond .lt 15, 3) := by decide +kernel
theorem dX4_hasSinger_4 : decode cX4_hasSinger 4 = .ok (.iload_n 1, 1) := by decide +kernel
theorem dX4_hasSinger_5 : decode cX4_hasSinger 5 = .ok (.aload_n 0, 1) := by decide +kernel
theorem dX4_hasSinger_6 : decode cX4_hasSinger 6 = .ok (.getfield 48, 3) := by decide +kernel
theorem dX4_hasSinger_9 : decode cX4_hasSinger 9 = .ok (.if_icmp .ge 7, 3) := by decide +kernel
theorem dX4_hasSinger_12 : decode cX4_hasSinger 12 = .ok (.iconst 1, 1) := by decide +kernel
theorem dX4_hasSinger_13 : decode cX4_hasSinger 13 = .ok (.goto 4, 3) := by decide +kernel
theorem dX4_hasSinger_16 : decode cX4_hasSinger 16 = .ok (.iconst 0, 1) := by decide +kernel
theorem dX4_hasSinger_17 : decode cX4_hasSinger 17 = .ok (.ireturn, 1) := by decide +kernel
theorem dX4_hasSolo_0 : decode cX4_hasSolo 0 = .ok (.iload_n 1, 1) := by decide +kernel
theorem dX4_hasSolo_1 : decode cX4_hasSolo 1 = .ok (.ifCond .lt 15, 3) := by decide +kernel
theorem dX4_hasSolo_4 : decode cX4_hasSolo 4 = .ok (.iload_n 1, 1) := by decide +kernel
theorem dX4_hasSolo_5 : decode cX4_hasSolo 5 = .ok (.aload_n 0, 1) := by decide +kernel
theorem dX4_hasSolo_6 : decode cX4_hasSolo 6 = .ok (.getfield 54, 3) := by decide +kernel
theorem dX4_hasSolo_9 : decode cX4_hasSolo 9 = .ok (.if_icmp .ge 7, 3) := by decide +kernel
theorem dX4_hasSolo_12 : decode cX4_hasSolo 12 = .ok (.iconst 1, 1) := by decide +kernel
theorem dX4_hasSolo_13 : decode cX4_hasSolo 13 = .ok (.goto 4, 3) := by decide +kernel
theorem dX4_hasSolo_16 : decode cX4_hasSolo 16 = .ok (.iconst 0, 1) := by decide +kernel
theorem dX4_hasSolo_17 : decode cX4_hasSolo 17 = .ok (.ireturn, 1) := by decide +kernel
set_option maxRecDepth 20000 in
theorem ggX4_clearScore_X2_clear : GoodIn wsX4_clearScore wsX2_clear := goodIn_r _ [8, 9, 23] (by decide +kernel) (by decide +kernel)
set_option maxRecDepth 20000 in
theorem gX4_clearScore_X2_clear : GoodIn wsX4_clearScore (wsV RX4 61 RX2 yX2_clear wsX2_clear) := goodIn_app (goodIn_of _ (by decide +kernel)) ggX4_clearScore_X2_clear
theorem dX4_clearScore_0 : decode cX4_clearScore 0 = .ok (.aload_n 0, 1) := by decide +kernel
theorem dX4_clearScore_1 : decode cX4_clearScore 1 = .ok (.iconst 0, 1) := by decide +kernel
theorem dX4_clearScore_2 : decode cX4_clearScore 2 = .ok (.putfield 45, 3) := by decide +kernel
theorem dX4_clearScore_5 : decode cX4_clearScore 5 = .ok (.aload_n 0, 1) := by decide +kernel
theorem dX4_clearScore_6 : decode cX4_clearScore 6 = .ok (.iconst 0, 1) := by decide +kernel
theorem dX4_clearScore_7 : decode cX4_clearScore 7 = .ok (.putfield 54, 3) := by decide +kernel
theorem dX4_clearScore_10 : decode cX4_clearScore 10 = .ok (.aload_n 0, 1) := by decide +kernel
theorem dX4_clearScore_11 : decode cX4_clearScore 11 = .ok (.getfield 23, 3) := by decide +kernel
theorem dX4_clearScore_14 : decode cX4_clearScore 14 = .ok (.invokevirtual 61, 3) := by decide +kernel
theorem dX4_clearScore_17 : decode cX4_clearScore 17 = .ok (.return_, 1) := by decide +kernel
set_option maxRecDepth 20000 in
theorem ggX4_appendBeats_X2_put : GoodIn wsX4_appendBeats wsX2_put := goodIn_r _ [8, 9, 23] (by decide +kernel) (by decide +kernel)
set_option maxRecDepth 20000 in
theorem gX4_appendBeats_X2_put : GoodIn wsX4_appendBeats (wsV RX4 64 RX2 yX2_put wsX2_put) := goodIn_app (goodIn_of _ (by decide +kernel)) ggX4_appendBeats_X2_put
theorem dX4_appendBeats_0 : decode cX4_appendBeats 0 = .ok (.iconst 0, 1) := by decide +kernel
theorem dX4_appendBeats_1 : decode cX4_appendBeats 1 = .ok (.istore 4, 2) := by decide +kernel
theorem dX4_appendBeats_3 : decode cX4_appendBeats 3 = .ok (.iload 4, 2) := by decide +kernel
theorem dX4_appendBeats_5 : decode cX4_appendBeats 5 = .ok (.iload_n 3, 1) := by decide +kernel
theorem dX4_appendBeats_6 : decode cX4_appendBeats 6 = .ok (.if_icmp .ge 52, 3) := by decide +kernel
theorem dX4_appendBeats_9 : decode cX4_appendBeats 9 = .ok (.aload_n 0, 1) := by decide +kernel
theorem dX4_appendBeats_10 : decode cX4_appendBeats 10 = .ok (.getfield 45, 3) := by decide +kernel
theorem dX4_appendBeats_13 : decode cX4_appendBeats 13 = .ok (.bipush 96, 2) := by decide +kernel
theorem dX4_appendBeats_15 : decode cX4_appendBeats 15 = .ok (.if_icmp .ge 43, 3) := by decide +kernel
theorem dX4_appendBeats_18 : decode cX4_appendBeats 18 = .ok (.aload_n 0, 1) := by decide +kernel
theorem dX4_appendBeats_19 : decode cX4_appendBeats 19 = .ok (.getfield 14, 3) := by decide +kernel
theorem dX4_appendBeats_22 : decode cX4_appendBeats 22 = .ok (.aload_n 0, 1) := by decide +kernel
theorem dX4_appendBeats_23 : decode cX4_appendBeats 23 = .ok (.getfield 45, 3) := by decide +kernel
theorem dX4_appendBeats_26 : decode cX4_appendBeats 26 = .ok (.iload_n 1, 1) := by decide +kernel
theorem dX4_appendBeats_27 : decode cX4_appendBeats 27 = .ok (.invokevirtual 64, 3) := by decide +kernel
theorem dX4_appendBeats_30 : decode cX4_appendBeats 30 = .ok (.aload_n 0, 1) := by decide +kernel
theorem dX4_appendBeats_31 : decode cX4_appendBeats 31 = .ok (.getfield 20, 3) := by decide +kernel
theorem dX4_appendBeats_34 : decode cX4_appendBeats 34 = .ok (.aload_n 0, 1) := by decide +kernel
theorem dX4_appendBeats_35 : decode cX4_appendBeats 35 = .ok (.getfield 45, 3) := by decide +kernel
theorem dX4_appendBeats_38 : decode cX4_appendBeats 38 = .ok (.iload_n 2, 1) := by decide +kernel
theorem dX4_appendBeats_39 : decode cX4_appendBeats 39 = .ok (.invokevirtual 64, 3) := by decide +kernel
theorem dX4_appendBeats_42 : decode cX4_appendBeats 42 = .ok (.aload_n 0, 1) := by decide +kernel
theorem dX4_appendBeats_43 : decode cX4_appendBeats 43 = .ok (.dup, 1) := by decide +kernel
theorem dX4_appendBeats_44 : decode cX4_appendBeats 44 = .ok (.getfield 45, 3) := by decide +kernel
theorem dX4_appendBeats_47 : decode cX4_appendBeats 47 = .ok (.iconst 1, 1) := by decide +kernel
theorem dX4_appendBeats_48 : decode cX4_appendBeats 48 = .ok (.iadd, 1) := by decide +kernel
theorem dX4_appendBeats_49 : decode cX4_appendBeats 49 = .ok (.putfield 45, 3) := by decide +kernel
theorem dX4_appendBeats_52 : decode cX4_appendBeats 52 = .ok (.iinc 4 1, 3) := by decide +kernel
theorem dX4_appendBeats_55 : decode cX4_appendBeats 55 = .ok (.goto (-52), 3) := by decide +kernel
theorem dX4_appendBeats_58 : decode cX4_appendBeats 58 = .ok (.return_, 1) := by decide +kernel
set_option maxRecDepth 20000 in
theorem ggX4_isRest_X2_at : GoodIn wsX4_isRest wsX2_at := goodIn_r _ [6, 7, 21] (by decide +kernel) (by decide +kernel)
set_option maxRecDepth 20000 in
theorem gX4_isRest_X2_at : GoodIn wsX4_isRest (wsV RX4 68 RX2 yX2_at wsX2_at) := goodIn_app (goodIn_of _ (by decide +kernel)) ggX4_isRest_X2_at
theorem dX4_isRest_0 : decode cX4_isRest 0 = .ok (.aload_n 0, 1) := by decide +kernel
theorem dX4_isRest_1 : decode cX4_isRest 1 = .ok (.getfield 14, 3) := by decide +kernel
theorem dX4_isRest_4 : decode cX4_isRest 4 = .ok (.iload_n 1, 1) := by decide +kernel
theorem dX4_isRest_5 : decode cX4_isRest 5 = .ok (.invokevirtual 68, 3) := by decide +kernel
theorem dX4_isRest_8 : decode cX4_isRest 8 = .ok (.ifCond .ne 7, 3) := by decide +kernel
theorem dX4_isRest_11 : decode cX4_isRest 11 = .ok (.iconst 1, 1) := by decide +kernel
theorem dX4_isRest_12 : decode cX4_isRest 12 = .ok (.goto 4, 3) := by decide +kernel
theorem dX4_isRest_15 : decode cX4_isRest 15 = .ok (.iconst 0, 1) := by decide +kernel
theorem dX4_isRest_16 : decode cX4_isRest 16 = .ok (.ireturn, 1) := by decide +kernel
set_option maxRecDepth 20000 in
theorem ggX4_firstOfSyllable_X4_isRest : GoodIn wsX4_firstOfSyllable wsX4_isRest := goodIn_r _ [6, 1, 7, 8, 9, 10, 11, 12, 13, 14, 15, 16, 17, 18, 19, 20, 21, 22, 23, 24, 25, 26] (by decide +kernel) (by decide +kernel)
set_option maxRecDepth 20000 in
theorem gX4_firstOfSyllable_X4_isRest : GoodIn wsX4_firstOfSyllable (wsV RX4 72 RX4 yX4_isRest wsX4_isRest) := goodIn_app (goodIn_of _ (by decide +kernel)) ggX4_firstOfSyllable_X4_isRest
set_option maxRecDepth 20000 in
theorem ggX4_firstOfSyllable_X2_at : GoodIn wsX4_firstOfSyllable wsX2_at := goodIn_r _ [11, 12, 26] (by decide +kernel) (by decide +kernel)
set_option maxRecDepth 20000 in
theorem gX4_firstOfSyllable_X2_at : GoodIn wsX4_firstOfSyllable (wsV RX4 68 RX2 yX2_at wsX2_at) := goodIn_app (goodIn_of _ (by decide +kernel)) ggX4_firstOfSyllable_X2_at
theorem dX4_firstOfSyllable_0 : decode cX4_firstOfSyllable 0 = .ok (.aload_n 0, 1) := by decide +kernel
theorem dX4_firstOfSyllable_1 : decode cX4_firstOfSyllable 1 = .ok (.iload_n 1, 1) := by decide +kernel
theorem dX4_firstOfSyllable_2 : decode cX4_firstOfSyllable 2 = .ok (.invokevirtual 72, 3) := by decide +kernel
theorem dX4_firstOfSyllable_5 : decode cX4_firstOfSyllable 5 = .ok (.ifCond .eq 6, 3) := by decide +kernel
theorem dX4_firstOfSyllable_8 : decode cX4_firstOfSyllable 8 = .ok (.bipush (-5), 2) := by decide +kernel
theorem dX4_firstOfSyllable_10 : decode cX4_firstOfSyllable 10 = .ok (.ireturn, 1) := by decide +kernel
theorem dX4_firstOfSyllable_11 : decode cX4_firstOfSyllable 11 = .ok (.iload_n 1, 1) := by decide +kernel
theorem dX4_firstOfSyllable_12 : decode cX4_firstOfSyllable 12 = .ok (.istore_n 2, 1) := by decide +kernel
theorem dX4_firstOfSyllable_13 : decode cX4_firstOfSyllable 13 = .ok (.iload_n 2, 1) := by decide +kernel
theorem dX4_firstOfSyllable_14 : decode cX4_firstOfSyllable 14 = .ok (.ifCond .le 31, 3) := by decide +kernel
theorem dX4_firstOfSyllable_17 : decode cX4_firstOfSyllable 17 = .ok (.aload_n 0, 1) := by decide +kernel
theorem dX4_firstOfSyllable_18 : decode cX4_firstOfSyllable 18 = .ok (.getfield 14, 3) := by decide +kernel
theorem dX4_firstOfSyllable_21 : decode cX4_firstOfSyllable 21 = .ok (.iload_n 2, 1) := by decide +kernel
theorem dX4_firstOfSyllable_22 : decode cX4_firstOfSyllable 22 = .ok (.invokevirtual 68, 3) := by decide +kernel
theorem dX4_firstOfSyllable_25 : decode cX4_firstOfSyllable 25 = .ok (.iconst 1, 1) := by decide +kernel
theorem dX4_firstOfSyllable_26 : decode cX4_firstOfSyllable 26 = .ok (.if_icmp .ne 19, 3) := by decide +kernel
theorem dX4_firstOfSyllable_29 : decode cX4_firstOfSyllable 29 = .ok (.aload_n 0, 1) := by decide +kernel
theorem dX4_firstOfSyllable_30 : decode cX4_firstOfSyllable 30 = .ok (.iload_n 2, 1) := by decide +kernel
theorem dX4_firstOfSyllable_31 : decode cX4_firstOfSyllable 31 = .ok (.iconst 1, 1) := by decide +kernel
theorem dX4_firstOfSyllable_32 : decode cX4_firstOfSyllable 32 = .ok (.isub, 1) := by decide +kernel
theorem dX4_firstOfSyllable_33 : decode cX4_firstOfSyllable 33 = .ok (.invokevirtual 72, 3) := by decide +kernel
theorem dX4_firstOfSyllable_36 : decode cX4_firstOfSyllable 36 = .ok (.ifCond .ne 9, 3) := by decide +kernel
theorem dX4_firstOfSyllable_39 : decode cX4_firstOfSyllable 39 = .ok (.iinc 2 (-1), 3) := by decide +kernel
theorem dX4_firstOfSyllable_42 : decode cX4_firstOfSyllable 42 = .ok (.goto (-29), 3) := by decide +kernel
theorem dX4_firstOfSyllable_45 : decode cX4_firstOfSyllable 45 = .ok (.iload_n 2, 1) := by decide +kernel
theorem dX4_firstOfSyllable_46 : decode cX4_firstOfSyllable 46 = .ok (.ireturn, 1) := by decide +kernel
set_option maxRecDepth 20000 in
theorem ggX4_countRests_X4_isRest : GoodIn wsX4_countRests wsX4_isRest := goodIn_r _ [6, 7, 8, 9, 10, 11, 12, 13, 14, 15, 16, 17, 18, 19, 20, 21, 22, 23, 24, 25, 26, 27] (by decide +kernel) (by decide +kernel)
set_option maxRecDepth 20000 in
theorem gX4_countRests_X4_isRest : GoodIn wsX4_countRests (wsV RX4 72 RX4 yX4_isRest wsX4_isRest) := goodIn_app (goodIn_of _ (by decide +kernel)) ggX4_countRests_X4_isRest
theorem dX4_countRests_0 : decode cX4_countRests 0 = .ok (.iconst 0, 1) := by decide +kernel
theorem dX4_countRests_1 : decode cX4_countRests 1 = .ok (.istore_n 1, 1) := by decide +kernel
theorem dX4_countRests_2 : decode cX4_countRests 2 = .ok (.iconst 0, 1) := by decide +kernel
theorem dX4_countRests_3 : decode cX4_countRests 3 = .ok (.istore_n 2, 1) := by decide +kernel
theorem dX4_countRests_4 : decode cX4_countRests 4 = .ok (.iload_n 2, 1) := by decide +kernel
theorem dX4_countRests_5 : decode cX4_countRests 5 = .ok (.aload_n 0, 1) := by decide +kernel
theorem dX4_countRests_6 : decode cX4_countRests 6 = .ok (.getfield 45, 3) := by decide +kernel
theorem dX4_countRests_9 : decode cX4_countRests 9 = .ok (.if_icmp .ge 20, 3) := by decide +kernel
theorem dX4_countRests_12 : decode cX4_countRests 12 = .ok (.aload_n 0, 1) := by decide +kernel
theorem dX4_countRests_13 : decode cX4_countRests 13 = .ok (.iload_n 2, 1) := by decide +kernel
theorem dX4_countRests_14 : decode cX4_countRests 14 = .ok (.invokevirtual 72, 3) := by decide +kernel
theorem dX4_countRests_17 : decode cX4_countRests 17 = .ok (.ifCond .eq 6, 3) := by decide +kernel
theorem dX4_countRests_20 : decode cX4_countRests 20 = .ok (.iinc 1 1, 3) := by decide +kernel
theorem dX4_countRests_23 : decode cX4_countRests 23 = .ok (.iinc 2 1, 3) := by decide +kernel
theorem dX4_countRests_26 : decode cX4_countRests 26 = .ok (.goto (-22), 3) := by decide +kernel
theorem dX4_countRests_29 : decode cX4_countRests 29 = .ok (.iload_n 1, 1) := by decide +kernel
theorem dX4_countRests_30 : decode cX4_countRests 30 = .ok (.ireturn, 1) := by decide +kernel
set_option maxRecDepth 20000 in
theorem ggX4_countSyllables_X4_firstOfSyllable : GoodIn wsX4_countSyllables wsX4_firstOfSyllable := goodIn_r _ [6, 7, 8, 9, 10, 5, 11, 12, 13, 14, 15, 16, 17, 18, 19, 20, 21, 22, 23, 24, 25, 26, 27, 28, 29, 30, 31] (by decide +kernel) (by decide +kernel)
set_option maxRecDepth 20000 in
theorem gX4_countSyllables_X4_firstOfSyllable : GoodIn wsX4_countSyllables (wsV RX4 76 RX4 yX4_firstOfSyllable wsX4_firstOfSyllable) := goodIn_app (goodIn_of _ (by decide +kernel)) ggX4_countSyllables_X4_firstOfSyllable
theorem dX4_countSyllables_0 : decode cX4_countSyllables 0 = .ok (.iconst 0, 1) := by decide +kernel
theorem dX4_countSyllables_1 : decode cX4_countSyllables 1 = .ok (.istore_n 1, 1) := by decide +kernel
theorem dX4_countSyllables_2 : decode cX4_countSyllables 2 = .ok (.iconst 0, 1) := by decide +kernel
theorem dX4_countSyllables_3 : decode cX4_countSyllables 3 = .ok (.istore_n 2, 1) := by decide +kernel
theorem dX4_countSyllables_4 : decode cX4_countSyllables 4 = .ok (.iload_n 2, 1) := by decide +kernel
theorem dX4_countSyllables_5 : decode cX4_countSyllables 5 = .ok (.aload_n 0, 1) := by decide +kernel
theorem dX4_countSyllables_6 : decode cX4_countSyllables 6 = .ok (.getfield 45, 3) := by decide +kernel
theorem dX4_countSyllables_9 : decode cX4_countSyllables 9 = .ok (.if_icmp .ge 21, 3) := by decide +kernel
theorem dX4_countSyllables_12 : decode cX4_countSyllables 12 = .ok (.aload_n 0, 1) := by decide +kernel
theorem dX4_countSyllables_13 : decode cX4_countSyllables 13 = .ok (.iload_n 2, 1) := by decide +kernel
theorem dX4_countSyllables_14 : decode cX4_countSyllables 14 = .ok (.invokevirtual 76, 3) := by decide +kernel
theorem dX4_countSyllables_17 : decode cX4_countSyllables 17 = .ok (.iload_n 2, 1) := by decide +kernel
theorem dX4_countSyllables_18 : decode cX4_countSyllables 18 = .ok (.if_icmp .ne 6, 3) := by decide +kernel
theorem dX4_countSyllables_21 : decode cX4_countSyllables 21 = .ok (.iinc 1 1, 3) := by decide +kernel
theorem dX4_countSyllables_24 : decode cX4_countSyllables 24 = .ok (.iinc 2 1, 3) := by decide +kernel
theorem dX4_countSyllables_27 : decode cX4_countSyllables 27 = .ok (.goto (-23), 3) := by decide +kernel
theorem dX4_countSyllables_30 : decode cX4_countSyllables 30 = .ok (.iload_n 1, 1) := by decide +kernel
theorem dX4_countSyllables_31 : decode cX4_countSyllables 31 = .ok (.ireturn, 1) := by decide +kernel
set_option maxRecDepth 20000 in
theorem ggX4_longestSyllable_X4_isRest : GoodIn wsX4_longestSyllable wsX4_isRest := goodIn_r _ [10, 11, 12, 13, 14, 15, 16, 17, 22, 23, 24, 25, 26, 27, 28, 29, 30, 31, 32, 33, 34, 35] (by decide +kernel) (by decide +kernel)
set_option maxRecDepth 20000 in
theorem gX4_longestSyllable_X4_isRest : GoodIn wsX4_longestSyllable (wsV RX4 72 RX4 yX4_isRest wsX4_isRest) := goodIn_app (goodIn_of _ (by decide +kernel)) ggX4_longestSyllable_X4_isRest
set_option maxRecDepth 20000 in
theorem ggX4_longestSyllable_X4_firstOfSyllable : GoodIn wsX4_longestSyllable wsX4_firstOfSyllable := goodIn_r _ [21, 11, 6, 7, 8, 9, 10, 12, 13, 14, 15, 16, 17, 22, 23, 24, 25, 26, 27, 28, 29, 30, 31, 32, 33, 34, 35] (by decide +kernel) (by decide +kernel)
set_option maxRecDepth 20000 in
theorem gX4_longestSyllable_X4_firstOfSyllable : GoodIn wsX4_longestSyllable (wsV RX4 76 RX4 yX4_firstOfSyllable wsX4_firstOfSyllable) := goodIn_app (goodIn_of _ (by decide +kernel)) ggX4_longestSyllable_X4_firstOfSyllable
theorem dX4_longestSyllable_0 : decode cX4_longestSyllable 0 = .ok (.iconst 0, 1) := by decide +kernel
theorem dX4_longestSyllable_1 : decode cX4_longestSyllable 1 = .ok (.istore_n 1, 1) := by decide +kernel
theorem dX4_longestSyllable_2 : decode cX4_longestSyllable 2 = .ok (.iconst 0, 1) := by decide +kernel
theorem dX4_longestSyllable_3 : decode cX4_longestSyllable 3 = .ok (.istore_n 2, 1) := by decide +kernel
theorem dX4_longestSyllable_4 : decode cX4_longestSyllable 4 = .ok (.iload_n 2, 1) := by decide +kernel
theorem dX4_longestSyllable_5 : decode cX4_longestSyllable 5 = .ok (.aload_n 0, 1) := by decide +kernel
theorem dX4_longestSyllable_6 : decode cX4_longestSyllable 6 = .ok (.getfield 45, 3) := by decide +kernel
theorem dX4_longestSyllable_9 : decode cX4_longestSyllable 9 = .ok (.if_icmp .ge 31, 3) := by decide +kernel
theorem dX4_longestSyllable_12 : decode cX4_longestSyllable 12 = .ok (.aload_n 0, 1) := by decide +kernel
theorem dX4_longestSyllable_13 : decode cX4_longestSyllable 13 = .ok (.iload_n 2, 1) := by decide +kernel
theorem dX4_longestSyllable_14 : decode cX4_longestSyllable 14 = .ok (.invokevirtual 72, 3) := by decide +kernel
theorem dX4_longestSyllable_17 : decode cX4_longestSyllable 17 = .ok (.ifCond .ne 17, 3) := by decide +kernel
theorem dX4_longestSyllable_20 : decode cX4_longestSyllable 20 = .ok (.iload_n 1, 1) := by decide +kernel
theorem dX4_longestSyllable_21 : decode cX4_longestSyllable 21 = .ok (.iload_n 2, 1) := by decide +kernel
theorem dX4_longestSyllable_22 : decode cX4_longestSyllable 22 = .ok (.aload_n 0, 1) := by decide +kernel
theorem dX4_longestSyllable_23 : decode cX4_longestSyllable 23 = .ok (.iload_n 2, 1) := by decide +kernel
theorem dX4_longestSyllable_24 : decode cX4_longestSyllable 24 = .ok (.invokevirtual 76, 3) := by decide +kernel
theorem dX4_longestSyllable_27 : decode cX4_longestSyllable 27 = .ok (.isub, 1) := by decide +kernel
theorem dX4_longestSyllable_28 : decode cX4_longestSyllable 28 = .ok (.iconst 1, 1) := by decide +kernel
theorem dX4_longestSyllable_29 : decode cX4_longestSyllable 29 = .ok (.iadd, 1) := by decide +kernel
theorem dX4_longestSyllable_30 : decode cX4_longestSyllable 30 = .ok (.invokestatic 79, 3) := by decide +kernel
theorem dX4_longestSyllable_33 : decode cX4_longestSyllable 33 = .ok (.istore_n 1, 1) := by decide +kernel
theorem dX4_longestSyllable_34 : decode cX4_longestSyllable 34 = .ok (.iinc 2 1, 3) := by decide +kernel
theorem dX4_longestSyllable_37 : decode cX4_longestSyllable 37 = .ok (.goto (-33), 3) := by decide +kernel
theorem dX4_longestSyllable_40 : decode cX4_longestSyllable 40 = .ok (.iload_n 1, 1) := by decide +kernel
theorem dX4_longestSyllable_41 : decode cX4_longestSyllable 41 = .ok (.ireturn, 1) := by decide +kernel
set_option maxRecDepth 20000 in
theorem ggX4_appendSinger_X2_put : GoodIn wsX4_appendSinger wsX2_put := goodIn_r _ [9, 10, 27] (by decide +kernel) (by decide +kernel)
set_option maxRecDepth 20000 in
theorem gX4_appendSinger_X2_put : GoodIn wsX4_appendSinger (wsV RX4 64 RX2 yX2_put wsX2_put) := goodIn_app (goodIn_of _ (by decide +kernel)) ggX4_appendSinger_X2_put
set_option maxRecDepth 20000 in
theorem ggX4_appendSinger_X7_bit : GoodIn wsX4_appendSinger wsX7_bit := goodIn_r _ [13] (by decide +kernel) (by decide +kernel)
set_option maxRecDepth 20000 in
theorem gX4_appendSinger_X7_bit_n85 : GoodIn wsX4_appendSinger (wsX7_bit) := ggX4_appendSinger_X7_bit
theorem dX4_appendSinger_0 : decode cX4_appendSinger 0 = .ok (.aload_n 0, 1) := by decide +kernel
theorem dX4_appendSinger_1 : decode cX4_appendSinger 1 = .ok (.getfield 48, 3) := by decide +kernel
theorem dX4_appendSinger_4 : decode cX4_appendSinger 4 = .ok (.istore_n 3, 1) := by decide +kernel
theorem dX4_appendSinger_5 : decode cX4_appendSinger 5 = .ok (.aload_n 0, 1) := by decide +kernel
theorem dX4_appendSinger_6 : decode cX4_appendSinger 6 = .ok (.getfield 26, 3) := by decide +kernel
theorem dX4_appendSinger_9 : decode cX4_appendSinger 9 = .ok (.iload_n 3, 1) := by decide +kernel
theorem dX4_appendSinger_10 : decode cX4_appendSinger 10 = .ok (.iload_n 1, 1) := by decide +kernel
theorem dX4_appendSinger_11 : decode cX4_appendSinger 11 = .ok (.invokevirtual 64, 3) := by decide +kernel
theorem dX4_appendSinger_14 : decode cX4_appendSinger 14 = .ok (.aload_n 0, 1) := by decide +kernel
theorem dX4_appendSinger_15 : decode cX4_appendSinger 15 = .ok (.getfield 29, 3) := by decide +kernel
theorem dX4_appendSinger_18 : decode cX4_appendSinger 18 = .ok (.iload_n 3, 1) := by decide +kernel
theorem dX4_appendSinger_19 : decode cX4_appendSinger 19 = .ok (.iload_n 2, 1) := by decide +kernel
theorem dX4_appendSinger_20 : decode cX4_appendSinger 20 = .ok (.invokevirtual 64, 3) := by decide +kernel
theorem dX4_appendSinger_23 : decode cX4_appendSinger 23 = .ok (.aload_n 0, 1) := by decide +kernel
theorem dX4_appendSinger_24 : decode cX4_appendSinger 24 = .ok (.dup, 1) := by decide +kernel
theorem dX4_appendSinger_25 : decode cX4_appendSinger 25 = .ok (.getfield 51, 3) := by decide +kernel
theorem dX4_appendSinger_28 : decode cX4_appendSinger 28 = .ok (.iload_n 3, 1) := by decide +kernel
theorem dX4_appendSinger_29 : decode cX4_appendSinger 29 = .ok (.invokestatic 85, 3) := by decide +kernel
theorem dX4_appendSinger_32 : decode cX4_appendSinger 32 = .ok (.ior, 1) := by decide +kernel
theorem dX4_appendSinger_33 : decode cX4_appendSinger 33 = .ok (.putfield 51, 3) := by decide +kernel
theorem dX4_appendSinger_36 : decode cX4_appendSinger 36 = .ok (.aload_n 0, 1) := by decide +kernel
theorem dX4_appendSinger_37 : decode cX4_appendSinger 37 = .ok (.dup, 1) := by decide +kernel
theorem dX4_appendSinger_38 : decode cX4_appendSinger 38 = .ok (.getfield 48, 3) := by decide +kernel
theorem dX4_appendSinger_41 : decode cX4_appendSinger 41 = .ok (.iconst 1, 1) := by decide +kernel
theorem dX4_appendSinger_42 : decode cX4_appendSinger 42 = .ok (.iadd, 1) := by decide +kernel
theorem dX4_appendSinger_43 : decode cX4_appendSinger 43 = .ok (.putfield 48, 3) := by decide +kernel
theorem dX4_appendSinger_46 : decode cX4_appendSinger 46 = .ok (.iload_n 3, 1) := by decide +kernel
theorem dX4_appendSinger_47 : decode cX4_appendSinger 47 = .ok (.ireturn, 1) := by decide +kernel
set_option maxRecDepth 20000 in
theorem ggX4_isPresent_X7_contains : GoodIn wsX4_isPresent wsX7_contains := goodIn_r _ [4] (by decide +kernel) (by decide +kernel)
set_option maxRecDepth 20000 in
theorem gX4_isPresent_X7_contains_n88 : GoodIn wsX4_isPresent (wsX7_contains) := ggX4_isPresent_X7_contains
theorem dX4_isPresent_0 : decode cX4_isPresent 0 = .ok (.aload_n 0, 1) := by decide +kernel
theorem dX4_isPresent_1 : decode cX4_isPresent 1 = .ok (.getfield 51, 3) := by decide +kernel
theorem dX4_isPresent_4 : decode cX4_isPresent 4 = .ok (.iload_n 1, 1) := by decide +kernel
theorem dX4_isPresent_5 : decode cX4_isPresent 5 = .ok (.invokestatic 88, 3) := by decide +kernel
theorem dX4_isPresent_8 : decode cX4_isPresent 8 = .ok (.ireturn, 1) := by decide +kernel
set_option maxRecDepth 20000 in
theorem ggX4_countPresent_J6_bitCount_0f7a4 : GoodIn wsX4_countPresent wsJ6_bitCount_0f7a4 := goodIn_r _ [5, 6, 7, 8] (by decide +kernel) (by decide +kernel)
set_option maxRecDepth 20000 in
theorem gX4_countPresent_J6_bitCount_0f7a4 : GoodIn wsX4_countPresent (va_wsS RX4 92 yJ6_bitCount_0f7a4 wsJ6_bitCount_0f7a4) := goodIn_app (goodIn_of _ (by decide +kernel)) ggX4_countPresent_J6_bitCount_0f7a4
theorem dX4_countPresent_0 : decode cX4_countPresent 0 = .ok (.aload_n 0, 1) := by decide +kernel
theorem dX4_countPresent_1 : decode cX4_countPresent 1 = .ok (.getfield 51, 3) := by decide +kernel
theorem dX4_countPresent_4 : decode cX4_countPresent 4 = .ok (.invokestatic 92, 3) := by decide +kernel
theorem dX4_countPresent_7 : decode cX4_countPresent 7 = .ok (.ireturn, 1) := by decide +kernel
set_option maxRecDepth 20000 in
theorem ggX4_soloAt_X2_at : GoodIn wsX4_soloAt wsX2_at := goodIn_r _ [8, 9, 23] (by decide +kernel) (by decide +kernel)
set_option maxRecDepth 20000 in
theorem gX4_soloAt_X2_at : GoodIn wsX4_soloAt (wsV RX4 68 RX2 yX2_at wsX2_at) := goodIn_app (goodIn_of _ (by decide +kernel)) ggX4_soloAt_X2_at
theorem dX4_soloAt_0 : decode cX4_soloAt 0 = .ok (.iconst 0, 1) := by decide +kernel
theorem dX4_soloAt_1 : decode cX4_soloAt 1 = .ok (.istore_n 2, 1) := by decide +kernel
theorem dX4_soloAt_2 : decode cX4_soloAt 2 = .ok (.iload_n 2, 1) := by decide +kernel
theorem dX4_soloAt_3 : decode cX4_soloAt 3 = .ok (.aload_n 0, 1) := by decide +kernel
theorem dX4_soloAt_4 : decode cX4_soloAt 4 = .ok (.getfield 54, 3) := by decide +kernel
theorem dX4_soloAt_7 : decode cX4_soloAt 7 = .ok (.if_icmp .ge 35, 3) := by decide +kernel
theorem dX4_soloAt_10 : decode cX4_soloAt 10 = .ok (.aload_n 0, 1) := by decide +kernel
theorem dX4_soloAt_11 : decode cX4_soloAt 11 = .ok (.getfield 35, 3) := by decide +kernel
theorem dX4_soloAt_14 : decode cX4_soloAt 14 = .ok (.iload_n 2, 1) := by decide +kernel
theorem dX4_soloAt_15 : decode cX4_soloAt 15 = .ok (.invokevirtual 68, 3) := by decide +kernel
theorem dX4_soloAt_18 : decode cX4_soloAt 18 = .ok (.iload_n 1, 1) := by decide +kernel
theorem dX4_soloAt_19 : decode cX4_soloAt 19 = .ok (.if_icmp .gt 17, 3) := by decide +kernel
theorem dX4_soloAt_22 : decode cX4_soloAt 22 = .ok (.iload_n 1, 1) := by decide +kernel
theorem dX4_soloAt_23 : decode cX4_soloAt 23 = .ok (.aload_n 0, 1) := by decide +kernel
theorem dX4_soloAt_24 : decode cX4_soloAt 24 = .ok (.getfield 38, 3) := by decide +kernel
theorem dX4_soloAt_27 : decode cX4_soloAt 27 = .ok (.iload_n 2, 1) := by decide +kernel
theorem dX4_soloAt_28 : decode cX4_soloAt 28 = .ok (.invokevirtual 68, 3) := by decide +kernel
theorem dX4_soloAt_31 : decode cX4_soloAt 31 = .ok (.if_icmp .gt 5, 3) := by decide +kernel
theorem dX4_soloAt_34 : decode cX4_soloAt 34 = .ok (.iload_n 2, 1) := by decide +kernel
theorem dX4_soloAt_35 : decode cX4_soloAt 35 = .ok (.ireturn, 1) := by decide +kernel
theorem dX4_soloAt_36 : decode cX4_soloAt 36 = .ok (.iinc 2 1, 3) := by decide +kernel
theorem dX4_soloAt_39 : decode cX4_soloAt 39 = .ok (.goto (-37), 3) := by decide +kernel
theorem dX4_soloAt_42 : decode cX4_soloAt 42 = .ok (.bipush (-5), 2) := by decide +kernel
theorem dX4_soloAt_44 : decode cX4_soloAt 44 = .ok (.ireturn, 1) := by decide +kernel
set_option maxRecDepth 20000 in
theorem ggX4_overlapsSolo_X2_at : GoodIn wsX4_overlapsSolo wsX2_at := goodIn_r _ [8, 9, 23] (by decide +kernel) (by decide +kernel)
set_option maxRecDepth 20000 in
theorem gX4_overlapsSolo_X2_at : GoodIn wsX4_overlapsSolo (wsV RX4 68 RX2 yX2_at wsX2_at) := goodIn_app (goodIn_of _ (by decide +kernel)) ggX4_overlapsSolo_X2_at
theorem dX4_overlapsSolo_0 : decode cX4_overlapsSolo 0 = .ok (.iconst 0, 1) := by decide +kernel
theorem dX4_overlapsSolo_1 : decode cX4_overlapsSolo 1 = .ok (.istore_n 3, 1) := by decide +kernel
theorem dX4_overlapsSolo_2 : decode cX4_overlapsSolo 2 = .ok (.iload_n 3, 1) := by decide +kernel
theorem dX4_overlapsSolo_3 : decode cX4_overlapsSolo 3 = .ok (.aload_n 0, 1) := by decide +kernel
theorem dX4_overlapsSolo_4 : decode cX4_overlapsSolo 4 = .ok (.getfield 54, 3) := by decide +kernel
theorem dX4_overlapsSolo_7 : decode cX4_overlapsSolo 7 = .ok (.if_icmp .ge 35, 3) := by decide +kernel
theorem dX4_overlapsSolo_10 : decode cX4_overlapsSolo 10 = .ok (.aload_n 0, 1) := by decide +kernel
theorem dX4_overlapsSolo_11 : decode cX4_overlapsSolo 11 = .ok (.getfield 35, 3) := by decide +kernel
theorem dX4_overlapsSolo_14 : decode cX4_overlapsSolo 14 = .ok (.iload_n 3, 1) := by decide +kernel
theorem dX4_overlapsSolo_15 : decode cX4_overlapsSolo 15 = .ok (.invokevirtual 68, 3) := by decide +kernel
theorem dX4_overlapsSolo_18 : decode cX4_overlapsSolo 18 = .ok (.iload_n 2, 1) := by decide +kernel
theorem dX4_overlapsSolo_19 : decode cX4_overlapsSolo 19 = .ok (.if_icmp .gt 17, 3) := by decide +kernel
theorem dX4_overlapsSolo_22 : decode cX4_overlapsSolo 22 = .ok (.iload_n 1, 1) := by decide +kernel
theorem dX4_overlapsSolo_23 : decode cX4_overlapsSolo 23 = .ok (.aload_n 0, 1) := by decide +kernel
theorem dX4_overlapsSolo_24 : decode cX4_overlapsSolo 24 = .ok (.getfield 38, 3) := by decide +kernel
theorem dX4_overlapsSolo_27 : decode cX4_overlapsSolo 27 = .ok (.iload_n 3, 1) := by decide +kernel
theorem dX4_overlapsSolo_28 : decode cX4_overlapsSolo 28 = .ok (.invokevirtual 68, 3) := by decide +kernel
theorem dX4_overlapsSolo_31 : decode cX4_overlapsSolo 31 = .ok (.if_icmp .gt 5, 3) := by decide +kernel
theorem dX4_overlapsSolo_34 : decode cX4_overlapsSolo 34 = .ok (.iconst 1, 1) := by decide +kernel
theorem dX4_overlapsSolo_35 : decode cX4_overlapsSolo 35 = .ok (.ireturn, 1) := by decide +kernel
theorem dX4_overlapsSolo_36 : decode cX4_overlapsSolo 36 = .ok (.iinc 3 1, 3) := by decide +kernel
theorem dX4_overlapsSolo_39 : decode cX4_overlapsSolo 39 = .ok (.goto (-37), 3) := by decide +kernel
theorem dX4_overlapsSolo_42 : decode cX4_overlapsSolo 42 = .ok (.iconst 0, 1) := by decide +kernel
theorem dX4_overlapsSolo_43 : decode cX4_overlapsSolo 43 = .ok (.ireturn, 1) := by decide +kernel
set_option maxRecDepth 20000 in
theorem ggX4_insertSolo_X2_at : GoodIn wsX4_insertSolo wsX2_at := goodIn_r _ [9, 10, 33] (by decide +kernel) (by decide +kernel)
set_option maxRecDepth 20000 in
theorem gX4_insertSolo_X2_at : GoodIn wsX4_insertSolo (wsV RX4 68 RX2 yX2_at wsX2_at) := goodIn_app (goodIn_of _ (by decide +kernel)) ggX4_insertSolo_X2_at
set_option maxRecDepth 20000 in
theorem ggX4_insertSolo_X4_moveSolo : GoodIn wsX4_insertSolo wsX4_moveSolo := goodIn_r _ [15, 3, 2, 4, 5, 6, 7, 8, 9, 10, 16, 17, 18, 19, 20, 21, 22, 23, 24, 25, 26, 27, 28, 29, 30, 31, 32, 33] (by decide +kernel) (by decide +kernel)
set_option maxRecDepth 20000 in
theorem gX4_insertSolo_X4_moveSolo : GoodIn wsX4_insertSolo (wsV RX4 97 RX4 yX4_moveSolo wsX4_moveSolo) := goodIn_app (goodIn_of _ (by decide +kernel)) ggX4_insertSolo_X4_moveSolo
set_option maxRecDepth 20000 in
theorem ggX4_insertSolo_X2_put : GoodIn wsX4_insertSolo wsX2_put := goodIn_r _ [19, 10, 33] (by decide +kernel) (by decide +kernel)
set_option maxRecDepth 20000 in
theorem gX4_insertSolo_X2_put : GoodIn wsX4_insertSolo (wsV RX4 64 RX2 yX2_put wsX2_put) := goodIn_app (goodIn_of _ (by decide +kernel)) ggX4_insertSolo_X2_put
theorem dX4_insertSolo_0 : decode cX4_insertSolo 0 = .ok (.aload_n 0, 1) := by decide +kernel
theorem dX4_insertSolo_1 : decode cX4_insertSolo 1 = .ok (.getfield 54, 3) := by decide +kernel
theorem dX4_insertSolo_4 : decode cX4_insertSolo 4 = .ok (.istore 4, 2) := by decide +kernel
theorem dX4_insertSolo_6 : decode cX4_insertSolo 6 = .ok (.iload 4, 2) := by decide +kernel
theorem dX4_insertSolo_8 : decode cX4_insertSolo 8 = .ok (.ifCond .le 34, 3) := by decide +kernel
theorem dX4_insertSolo_11 : decode cX4_insertSolo 11 = .ok (.aload_n 0, 1) := by decide +kernel
theorem dX4_insertSolo_12 : decode cX4_insertSolo 12 = .ok (.getfield 35, 3) := by decide +kernel
theorem dX4_insertSolo_15 : decode cX4_insertSolo 15 = .ok (.iload 4, 2) := by decide +kernel
theorem dX4_insertSolo_17 : decode cX4_insertSolo 17 = .ok (.iconst 1, 1) := by decide +kernel
theorem dX4_insertSolo_18 : decode cX4_insertSolo 18 = .ok (.isub, 1) := by decide +kernel
theorem dX4_insertSolo_19 : decode cX4_insertSolo 19 = .ok (.invokevirtual 68, 3) := by decide +kernel
theorem dX4_insertSolo_22 : decode cX4_insertSolo 22 = .ok (.iload_n 2, 1) := by decide +kernel
theorem dX4_insertSolo_23 : decode cX4_insertSolo 23 = .ok (.if_icmp .le 19, 3) := by decide +kernel
theorem dX4_insertSolo_26 : decode cX4_insertSolo 26 = .ok (.aload_n 0, 1) := by decide +kernel
theorem dX4_insertSolo_27 : decode cX4_insertSolo 27 = .ok (.iload 4, 2) := by decide +kernel
theorem dX4_insertSolo_29 : decode cX4_insertSolo 29 = .ok (.iconst 1, 1) := by decide +kernel
theorem dX4_insertSolo_30 : decode cX4_insertSolo 30 = .ok (.isub, 1) := by decide +kernel
theorem dX4_insertSolo_31 : decode cX4_insertSolo 31 = .ok (.iload 4, 2) := by decide +kernel
theorem dX4_insertSolo_33 : decode cX4_insertSolo 33 = .ok (.invokevirtual 97, 3) := by decide +kernel
theorem dX4_insertSolo_36 : decode cX4_insertSolo 36 = .ok (.iinc 4 (-1), 3) := by decide +kernel
theorem dX4_insertSolo_39 : decode cX4_insertSolo 39 = .ok (.goto (-33), 3) := by decide +kernel
theorem dX4_insertSolo_42 : decode cX4_insertSolo 42 = .ok (.aload_n 0, 1) := by decide +kernel
theorem dX4_insertSolo_43 : decode cX4_insertSolo 43 = .ok (.getfield 32, 3) := by decide +kernel
theorem dX4_insertSolo_46 : decode cX4_insertSolo 46 = .ok (.iload 4, 2) := by decide +kernel
theorem dX4_insertSolo_48 : decode cX4_insertSolo 48 = .ok (.iload_n 1, 1) := by decide +kernel
theorem dX4_insertSolo_49 : decode cX4_insertSolo 49 = .ok (.invokevirtual 64, 3) := by decide +kernel
theorem dX4_insertSolo_52 : decode cX4_insertSolo 52 = .ok (.aload_n 0, 1) := by decide +kernel
theorem dX4_insertSolo_53 : decode cX4_insertSolo 53 = .ok (.getfield 35, 3) := by decide +kernel
theorem dX4_insertSolo_56 : decode cX4_insertSolo 56 = .ok (.iload 4, 2) := by decide +kernel
theorem dX4_insertSolo_58 : decode cX4_insertSolo 58 = .ok (.iload_n 2, 1) := by decide +kernel
theorem dX4_insertSolo_59 : decode cX4_insertSolo 59 = .ok (.invokevirtual 64, 3) := by decide +kernel
theorem dX4_insertSolo_62 : decode cX4_insertSolo 62 = .ok (.aload_n 0, 1) := by decide +kernel
theorem dX4_insertSolo_63 : decode cX4_insertSolo 63 = .ok (.getfield 38, 3) := by decide +kernel
theorem dX4_insertSolo_66 : decode cX4_insertSolo 66 = .ok (.iload 4, 2) := by decide +kernel
theorem dX4_insertSolo_68 : decode cX4_insertSolo 68 = .ok (.iload_n 3, 1) := by decide +kernel
theorem dX4_insertSolo_69 : decode cX4_insertSolo 69 = .ok (.invokevirtual 64, 3) := by decide +kernel
theorem dX4_insertSolo_72 : decode cX4_insertSolo 72 = .ok (.aload_n 0, 1) := by decide +kernel
theorem dX4_insertSolo_73 : decode cX4_insertSolo 73 = .ok (.dup, 1) := by decide +kernel
theorem dX4_insertSolo_74 : decode cX4_insertSolo 74 = .ok (.getfield 54, 3) := by decide +kernel
theorem dX4_insertSolo_77 : decode cX4_insertSolo 77 = .ok (.iconst 1, 1) := by decide +kernel
theorem dX4_insertSolo_78 : decode cX4_insertSolo 78 = .ok (.iadd, 1) := by decide +kernel
theorem dX4_insertSolo_79 : decode cX4_insertSolo 79 = .ok (.putfield 54, 3) := by decide +kernel
theorem dX4_insertSolo_82 : decode cX4_insertSolo 82 = .ok (.iload 4, 2) := by decide +kernel
theorem dX4_insertSolo_84 : decode cX4_insertSolo 84 = .ok (.ireturn, 1) := by decide +kernel
set_option maxRecDepth 20000 in
theorem ggX4_dropSolo_X4_moveSolo : GoodIn wsX4_dropSolo wsX4_moveSolo := goodIn_r _ [6, 7, 8, 9, 10, 11, 12, 13, 14, 15, 16, 17, 18, 19, 20, 21, 22, 23, 24, 25, 26, 27, 28, 29, 30, 31, 32, 33] (by decide +kernel) (by decide +kernel)
set_option maxRecDepth 20000 in
theorem gX4_dropSolo_X4_moveSolo : GoodIn wsX4_dropSolo (wsV RX4 97 RX4 yX4_moveSolo wsX4_moveSolo) := goodIn_app (goodIn_of _ (by decide +kernel)) ggX4_dropSolo_X4_moveSolo
theorem dX4_dropSolo_0 : decode cX4_dropSolo 0 = .ok (.iload_n 1, 1) := by decide +kernel
theorem dX4_dropSolo_1 : decode cX4_dropSolo 1 = .ok (.istore_n 2, 1) := by decide +kernel
theorem dX4_dropSolo_2 : decode cX4_dropSolo 2 = .ok (.iload_n 2, 1) := by decide +kernel
theorem dX4_dropSolo_3 : decode cX4_dropSolo 3 = .ok (.aload_n 0, 1) := by decide +kernel
theorem dX4_dropSolo_4 : decode cX4_dropSolo 4 = .ok (.getfield 54, 3) := by decide +kernel
theorem dX4_dropSolo_7 : decode cX4_dropSolo 7 = .ok (.iconst 1, 1) := by decide +kernel
theorem dX4_dropSolo_8 : decode cX4_dropSolo 8 = .ok (.isub, 1) := by decide +kernel
theorem dX4_dropSolo_9 : decode cX4_dropSolo 9 = .ok (.if_icmp .ge 17, 3) := by decide +kernel
theorem dX4_dropSolo_12 : decode cX4_dropSolo 12 = .ok (.aload_n 0, 1) := by decide +kernel
theorem dX4_dropSolo_13 : decode cX4_dropSolo 13 = .ok (.iload_n 2, 1) := by decide +kernel
theorem dX4_dropSolo_14 : decode cX4_dropSolo 14 = .ok (.iconst 1, 1) := by decide +kernel
theorem dX4_dropSolo_15 : decode cX4_dropSolo 15 = .ok (.iadd, 1) := by decide +kernel
theorem dX4_dropSolo_16 : decode cX4_dropSolo 16 = .ok (.iload_n 2, 1) := by decide +kernel
theorem dX4_dropSolo_17 : decode cX4_dropSolo 17 = .ok (.invokevirtual 97, 3) := by decide +kernel
theorem dX4_dropSolo_20 : decode cX4_dropSolo 20 = .ok (.iinc 2 1, 3) := by decide +kernel
theorem dX4_dropSolo_23 : decode cX4_dropSolo 23 = .ok (.goto (-21), 3) := by decide +kernel
theorem dX4_dropSolo_26 : decode cX4_dropSolo 26 = .ok (.aload_n 0, 1) := by decide +kernel
theorem dX4_dropSolo_27 : decode cX4_dropSolo 27 = .ok (.dup, 1) := by decide +kernel
theorem dX4_dropSolo_28 : decode cX4_dropSolo 28 = .ok (.getfield 54, 3) := by decide +kernel
theorem dX4_dropSolo_31 : decode cX4_dropSolo 31 = .ok (.iconst 1, 1) := by decide +kernel
theorem dX4_dropSolo_32 : decode cX4_dropSolo 32 = .ok (.isub, 1) := by decide +kernel
theorem dX4_dropSolo_33 : decode cX4_dropSolo 33 = .ok (.putfield 54, 3) := by decide +kernel
theorem dX4_dropSolo_36 : decode cX4_dropSolo 36 = .ok (.return_, 1) := by decide +kernel
set_option maxRecDepth 20000 in
theorem ggX4_moveSolo_X2_at : GoodIn wsX4_moveSolo wsX2_at := goodIn_r _ [8, 9, 27] (by decide +kernel) (by decide +kernel)
set_option maxRecDepth 20000 in
theorem gX4_moveSolo_X2_at : GoodIn wsX4_moveSolo (wsV RX4 68 RX2 yX2_at wsX2_at) := goodIn_app (goodIn_of _ (by decide +kernel)) ggX4_moveSolo_X2_at
set_option maxRecDepth 20000 in
theorem ggX4_moveSolo_X2_put : GoodIn wsX4_moveSolo wsX2_put := goodIn_r _ [13, 9, 27] (by decide +kernel) (by decide +kernel)
set_option maxRecDepth 20000 in
theorem gX4_moveSolo_X2_put : GoodIn wsX4_moveSolo (wsV RX4 64 RX2 yX2_put wsX2_put) := goodIn_app (goodIn_of _ (by decide +kernel)) ggX4_moveSolo_X2_put
theorem dX4_moveSolo_0 : decode cX4_moveSolo 0 = .ok (.aload_n 0, 1) := by decide +kernel
theorem dX4_moveSolo_1 : decode cX4_moveSolo 1 = .ok (.getfield 32, 3) := by decide +kernel
theorem dX4_moveSolo_4 : decode cX4_moveSolo 4 = .ok (.iload_n 2, 1) := by decide +kernel
theorem dX4_moveSolo_5 : decode cX4_moveSolo 5 = .ok (.aload_n 0, 1) := by decide +kernel
theorem dX4_moveSolo_6 : decode cX4_moveSolo 6 = .ok (.getfield 32, 3) := by decide +kernel
theorem dX4_moveSolo_9 : decode cX4_moveSolo 9 = .ok (.iload_n 1, 1) := by decide +kernel
theorem dX4_moveSolo_10 : decode cX4_moveSolo 10 = .ok (.invokevirtual 68, 3) := by decide +kernel
theorem dX4_moveSolo_13 : decode cX4_moveSolo 13 = .ok (.invokevirtual 64, 3) := by decide +kernel
theorem dX4_moveSolo_16 : decode cX4_moveSolo 16 = .ok (.aload_n 0, 1) := by decide +kernel
theorem dX4_moveSolo_17 : decode cX4_moveSolo 17 = .ok (.getfield 35, 3) := by decide +kernel
theorem dX4_moveSolo_20 : decode cX4_moveSolo 20 = .ok (.iload_n 2, 1) := by decide +kernel
theorem dX4_moveSolo_21 : decode cX4_moveSolo 21 = .ok (.aload_n 0, 1) := by decide +kernel
theorem dX4_moveSolo_22 : decode cX4_moveSolo 22 = .ok (.getfield 35, 3) := by decide +kernel
theorem dX4_moveSolo_25 : decode cX4_moveSolo 25 = .ok (.iload_n 1, 1) := by decide +kernel
theorem dX4_moveSolo_26 : decode cX4_moveSolo 26 = .ok (.invokevirtual 68, 3) := by decide +kernel
theorem dX4_moveSolo_29 : decode cX4_moveSolo 29 = .ok (.invokevirtual 64, 3) := by decide +kernel
theorem dX4_moveSolo_32 : decode cX4_moveSolo 32 = .ok (.aload_n 0, 1) := by decide +kernel
theorem dX4_moveSolo_33 : decode cX4_moveSolo 33 = .ok (.getfield 38, 3) := by decide +kernel
theorem dX4_moveSolo_36 : decode cX4_moveSolo 36 = .ok (.iload_n 2, 1) := by decide +kernel
theorem dX4_moveSolo_37 : decode cX4_moveSolo 37 = .ok (.aload_n 0, 1) := by decide +kernel
theorem dX4_moveSolo_38 : decode cX4_moveSolo 38 = .ok (.getfield 38, 3) := by decide +kernel
theorem dX4_moveSolo_41 : decode cX4_moveSolo 41 = .ok (.iload_n 1, 1) := by decide +kernel
theorem dX4_moveSolo_42 : decode cX4_moveSolo 42 = .ok (.invokevirtual 68, 3) := by decide +kernel
theorem dX4_moveSolo_45 : decode cX4_moveSolo 45 = .ok (.invokevirtual 64, 3) := by decide +kernel
theorem dX4_moveSolo_48 : decode cX4_moveSolo 48 = .ok (.return_, 1) := by decide +kernel
set_option maxRecDepth 20000 in
theorem ggX4_isMarked_X2_at : GoodIn wsX4_isMarked wsX2_at := goodIn_r _ [6, 7, 24] (by decide +kernel) (by decide +kernel)
set_option maxRecDepth 20000 in
theorem gX4_isMarked_X2_at : GoodIn wsX4_isMarked (wsV RX4 68 RX2 yX2_at wsX2_at) := goodIn_app (goodIn_of _ (by decide +kernel)) ggX4_isMarked_X2_at
set_option maxRecDepth 20000 in
theorem ggX4_isMarked_X7_contains : GoodIn wsX4_isMarked wsX7_contains := goodIn_r _ [10] (by decide +kernel) (by decide +kernel)
set_option maxRecDepth 20000 in
theorem gX4_isMarked_X7_contains_n88 : GoodIn wsX4_isMarked (wsX7_contains) := ggX4_isMarked_X7_contains
theorem dX4_isMarked_0 : decode cX4_isMarked 0 = .ok (.aload_n 0, 1) := by decide +kernel
theorem dX4_isMarked_1 : decode cX4_isMarked 1 = .ok (.getfield 23, 3) := by decide +kernel
theorem dX4_isMarked_4 : decode cX4_isMarked 4 = .ok (.iload_n 2, 1) := by decide +kernel
theorem dX4_isMarked_5 : decode cX4_isMarked 5 = .ok (.invokevirtual 68, 3) := by decide +kernel
theorem dX4_isMarked_8 : decode cX4_isMarked 8 = .ok (.iload_n 1, 1) := by decide +kernel
theorem dX4_isMarked_9 : decode cX4_isMarked 9 = .ok (.invokestatic 88, 3) := by decide +kernel
theorem dX4_isMarked_12 : decode cX4_isMarked 12 = .ok (.ireturn, 1) := by decide +kernel
set_option maxRecDepth 20000 in
theorem ggX4_countMarks_X2_at : GoodIn wsX4_countMarks wsX2_at := goodIn_r _ [7, 8, 29] (by decide +kernel) (by decide +kernel)
set_option maxRecDepth 20000 in
theorem gX4_countMarks_X2_at : GoodIn wsX4_countMarks (wsV RX4 68 RX2 yX2_at wsX2_at) := goodIn_app (goodIn_of _ (by decide +kernel)) ggX4_countMarks_X2_at
set_option maxRecDepth 20000 in
theorem ggX4_countMarks_J6_bitCount_0f7a4 : GoodIn wsX4_countMarks wsJ6_bitCount_0f7a4 := goodIn_r _ [12, 13, 14, 15] (by decide +kernel) (by decide +kernel)
set_option maxRecDepth 20000 in
theorem gX4_countMarks_J6_bitCount_0f7a4 : GoodIn wsX4_countMarks (va_wsS RX4 92 yJ6_bitCount_0f7a4 wsJ6_bitCount_0f7a4) := goodIn_app (goodIn_of _ (by decide +kernel)) ggX4_countMarks_J6_bitCount_0f7a4
theorem dX4_countMarks_0 : decode cX4_countMarks 0 = .ok (.iconst 0, 1) := by decide +kernel
theorem dX4_countMarks_1 : decode cX4_countMarks 1 = .ok (.istore_n 1, 1) := by decide +kernel
theorem dX4_countMarks_2 : decode cX4_countMarks 2 = .ok (.iconst 0, 1) := by decide +kernel
theorem dX4_countMarks_3 : decode cX4_countMarks 3 = .ok (.istore_n 2, 1) := by decide +kernel
theorem dX4_countMarks_4 : decode cX4_countMarks 4 = .ok (.iload_n 2, 1) := by decide +kernel
theorem dX4_countMarks_5 : decode cX4_countMarks 5 = .ok (.aload_n 0, 1) := by decide +kernel
theorem dX4_countMarks_6 : decode cX4_countMarks 6 = .ok (.getfield 45, 3) := by decide +kernel
theorem dX4_countMarks_9 : decode cX4_countMarks 9 = .ok (.if_icmp .ge 23, 3) := by decide +kernel
theorem dX4_countMarks_12 : decode cX4_countMarks 12 = .ok (.iload_n 1, 1) := by decide +kernel
theorem dX4_countMarks_13 : decode cX4_countMarks 13 = .ok (.aload_n 0, 1) := by decide +kernel
theorem dX4_countMarks_14 : decode cX4_countMarks 14 = .ok (.getfield 23, 3) := by decide +kernel
theorem dX4_countMarks_17 : decode cX4_countMarks 17 = .ok (.iload_n 2, 1) := by decide +kernel
theorem dX4_countMarks_18 : decode cX4_countMarks 18 = .ok (.invokevirtual 68, 3) := by decide +kernel
theorem dX4_countMarks_21 : decode cX4_countMarks 21 = .ok (.invokestatic 92, 3) := by decide +kernel
theorem dX4_countMarks_24 : decode cX4_countMarks 24 = .ok (.iadd, 1) := by decide +kernel
theorem dX4_countMarks_25 : decode cX4_countMarks 25 = .ok (.istore_n 1, 1) := by decide +kernel
theorem dX4_countMarks_26 : decode cX4_countMarks 26 = .ok (.iinc 2 1, 3) := by decide +kernel
theorem dX4_countMarks_29 : decode cX4_countMarks 29 = .ok (.goto (-25), 3) := by decide +kernel
theorem dX4_countMarks_32 : decode cX4_countMarks 32 = .ok (.iload_n 1, 1) := by decide +kernel
theorem dX4_countMarks_33 : decode cX4_countMarks 33 = .ok (.ireturn, 1) := by decide +kernel
set_option maxRecDepth 20000 in
theorem ggX4_countMarksOf_X4_isMarked : GoodIn wsX4_countMarksOf wsX4_isMarked := goodIn_r _ [6, 7, 8, 9, 10, 11, 12, 13, 14, 15, 16, 17, 18, 19, 20, 21, 22, 23, 24, 25, 26, 27, 28, 29, 30] (by decide +kernel) (by decide +kernel)
set_option maxRecDepth 20000 in
theorem gX4_countMarksOf_X4_isMarked : GoodIn wsX4_countMarksOf (wsV RX4 100 RX4 yX4_isMarked wsX4_isMarked) := goodIn_app (goodIn_of _ (by decide +kernel)) ggX4_countMarksOf_X4_isMarked
theorem dX4_countMarksOf_0 : decode cX4_countMarksOf 0 = .ok (.iconst 0, 1) := by decide +kernel
theorem dX4_countMarksOf_1 : decode cX4_countMarksOf 1 = .ok (.istore_n 2, 1) := by decide +kernel
theorem dX4_countMarksOf_2 : decode cX4_countMarksOf 2 = .ok (.iconst 0, 1) := by decide +kernel
theorem dX4_countMarksOf_3 : decode cX4_countMarksOf 3 = .ok (.istore_n 3, 1) := by decide +kernel
theorem dX4_countMarksOf_4 : decode cX4_countMarksOf 4 = .ok (.iload_n 3, 1) := by decide +kernel
theorem dX4_countMarksOf_5 : decode cX4_countMarksOf 5 = .ok (.aload_n 0, 1) := by decide +kernel
theorem dX4_countMarksOf_6 : decode cX4_countMarksOf 6 = .ok (.getfield 45, 3) := by decide +kernel
theorem dX4_countMarksOf_9 : decode cX4_countMarksOf 9 = .ok (.if_icmp .ge 21, 3) := by decide +kernel
theorem dX4_countMarksOf_12 : decode cX4_countMarksOf 12 = .ok (.aload_n 0, 1) := by decide +kernel
theorem dX4_countMarksOf_13 : decode cX4_countMarksOf 13 = .ok (.iload_n 1, 1) := by decide +kernel
theorem dX4_countMarksOf_14 : decode cX4_countMarksOf 14 = .ok (.iload_n 3, 1) := by decide +kernel
theorem dX4_countMarksOf_15 : decode cX4_countMarksOf 15 = .ok (.invokevirtual 100, 3) := by decide +kernel
theorem dX4_countMarksOf_18 : decode cX4_countMarksOf 18 = .ok (.ifCond .eq 6, 3) := by decide +kernel
theorem dX4_countMarksOf_21 : decode cX4_countMarksOf 21 = .ok (.iinc 2 1, 3) := by decide +kernel
theorem dX4_countMarksOf_24 : decode cX4_countMarksOf 24 = .ok (.iinc 3 1, 3) := by decide +kernel
theorem dX4_countMarksOf_27 : decode cX4_countMarksOf 27 = .ok (.goto (-23), 3) := by decide +kernel
theorem dX4_countMarksOf_30 : decode cX4_countMarksOf 30 = .ok (.iload_n 2, 1) := by decide +kernel
theorem dX4_countMarksOf_31 : decode cX4_countMarksOf 31 = .ok (.ireturn, 1) := by decide +kernel
set_option maxRecDepth 20000 in
theorem ggX4_hasToSing_X4_isRest : GoodIn wsX4_hasToSing wsX4_isRest := goodIn_r _ [6, 7, 8, 9, 10, 11, 12, 13, 29, 30, 31, 32, 33, 34, 35, 36, 37, 38, 39, 40, 41, 42] (by decide +kernel) (by decide +kernel)
set_option maxRecDepth 20000 in
theorem gX4_hasToSing_X4_isRest : GoodIn wsX4_hasToSing (wsV RX4 72 RX4 yX4_isRest wsX4_isRest) := goodIn_app (goodIn_of _ (by decide +kernel)) ggX4_hasToSing_X4_isRest
set_option maxRecDepth 20000 in
theorem ggX4_hasToSing_X4_isPresent : GoodIn wsX4_hasToSing wsX4_isPresent := goodIn_r _ [17, 18, 19, 20, 21, 29, 30, 31, 32, 33, 34, 35, 36, 37, 38, 39, 40, 41] (by decide +kernel) (by decide +kernel)
set_option maxRecDepth 20000 in
theorem gX4_hasToSing_X4_isPresent : GoodIn wsX4_hasToSing (wsV RX4 103 RX4 yX4_isPresent wsX4_isPresent) := goodIn_app (goodIn_of _ (by decide +kernel)) ggX4_hasToSing_X4_isPresent
set_option maxRecDepth 20000 in
theorem ggX4_hasToSing_X4_soloAt : GoodIn wsX4_hasToSing wsX4_soloAt := goodIn_r _ [25, 26, 27, 28, 8, 9, 10, 11, 12, 13, 29, 30, 31, 32, 33, 34, 35, 36, 37, 38, 39, 40, 41, 42] (by decide +kernel) (by decide +kernel)
set_option maxRecDepth 20000 in
theorem gX4_hasToSing_X4_soloAt : GoodIn wsX4_hasToSing (wsV RX4 106 RX4 yX4_soloAt wsX4_soloAt) := goodIn_app (goodIn_of _ (by decide +kernel)) ggX4_hasToSing_X4_soloAt
set_option maxRecDepth 20000 in
theorem ggX4_hasToSing_X2_at : GoodIn wsX4_hasToSing wsX2_at := goodIn_r _ [12, 13, 42] (by decide +kernel) (by decide +kernel)
set_option maxRecDepth 20000 in
theorem gX4_hasToSing_X2_at : GoodIn wsX4_hasToSing (wsV RX4 68 RX2 yX2_at wsX2_at) := goodIn_app (goodIn_of _ (by decide +kernel)) ggX4_hasToSing_X2_at
theorem dX4_hasToSing_0 : decode cX4_hasToSing 0 = .ok (.aload_n 0, 1) := by decide +kernel
theorem dX4_hasToSing_1 : decode cX4_hasToSing 1 = .ok (.iload_n 2, 1) := by decide +kernel
theorem dX4_hasToSing_2 : decode cX4_hasToSing 2 = .ok (.invokevirtual 72, 3) := by decide +kernel
theorem dX4_hasToSing_5 : decode cX4_hasToSing 5 = .ok (.ifCond .ne 11, 3) := by decide +kernel
theorem dX4_hasToSing_8 : decode cX4_hasToSing 8 = .ok (.aload_n 0, 1) := by decide +kernel
theorem dX4_hasToSing_9 : decode cX4_hasToSing 9 = .ok (.iload_n 1, 1) := by decide +kernel
theorem dX4_hasToSing_10 : decode cX4_hasToSing 10 = .ok (.invokevirtual 103, 3) := by decide +kernel
theorem dX4_hasToSing_13 : decode cX4_hasToSing 13 = .ok (.ifCond .ne 5, 3) := by decide +kernel
theorem dX4_hasToSing_16 : decode cX4_hasToSing 16 = .ok (.iconst 0, 1) := by decide +kernel
theorem dX4_hasToSing_17 : decode cX4_hasToSing 17 = .ok (.ireturn, 1) := by decide +kernel
theorem dX4_hasToSing_18 : decode cX4_hasToSing 18 = .ok (.aload_n 0, 1) := by decide +kernel
theorem dX4_hasToSing_19 : decode cX4_hasToSing 19 = .ok (.iload_n 2, 1) := by decide +kernel
theorem dX4_hasToSing_20 : decode cX4_hasToSing 20 = .ok (.invokevirtual 106, 3) := by decide +kernel
theorem dX4_hasToSing_23 : decode cX4_hasToSing 23 = .ok (.istore_n 3, 1) := by decide +kernel
theorem dX4_hasToSing_24 : decode cX4_hasToSing 24 = .ok (.iload_n 3, 1) := by decide +kernel
theorem dX4_hasToSing_25 : decode cX4_hasToSing 25 = .ok (.bipush (-5), 2) := by decide +kernel
theorem dX4_hasToSing_27 : decode cX4_hasToSing 27 = .ok (.if_icmp .eq 15, 3) := by decide +kernel
theorem dX4_hasToSing_30 : decode cX4_hasToSing 30 = .ok (.aload_n 0, 1) := by decide +kernel
theorem dX4_hasToSing_31 : decode cX4_hasToSing 31 = .ok (.getfield 32, 3) := by decide +kernel
theorem dX4_hasToSing_34 : decode cX4_hasToSing 34 = .ok (.iload_n 3, 1) := by decide +kernel
theorem dX4_hasToSing_35 : decode cX4_hasToSing 35 = .ok (.invokevirtual 68, 3) := by decide +kernel
theorem dX4_hasToSing_38 : decode cX4_hasToSing 38 = .ok (.iload_n 1, 1) := by decide +kernel
theorem dX4_hasToSing_39 : decode cX4_hasToSing 39 = .ok (.if_icmp .ne 7, 3) := by decide +kernel
theorem dX4_hasToSing_42 : decode cX4_hasToSing 42 = .ok (.iconst 1, 1) := by decide +kernel
theorem dX4_hasToSing_43 : decode cX4_hasToSing 43 = .ok (.goto 4, 3) := by decide +kernel
theorem dX4_hasToSing_46 : decode cX4_hasToSing 46 = .ok (.iconst 0, 1) := by decide +kernel
theorem dX4_hasToSing_47 : decode cX4_hasToSing 47 = .ok (.ireturn, 1) := by decide +kernel
set_option maxRecDepth 20000 in
theorem ggX4_doing_X4_hasToSing : GoodIn wsX4_doing wsX4_hasToSing := goodIn_r _ [6, 7, 8, 9, 10, 5, 11, 12, 13, 14, 15, 16, 17, 18, 19, 20, 21, 22, 23, 24, 25, 26, 27, 28, 29, 30, 31, 32, 33, 39, 40, 41, 42, 43, 44, 45, 46, 47, 48, 49, 50, 51, 52] (by decide +kernel) (by decide +kernel)
set_option maxRecDepth 20000 in
theorem gX4_doing_X4_hasToSing : GoodIn wsX4_doing (wsV RX4 109 RX4 yX4_hasToSing wsX4_hasToSing) := goodIn_app (goodIn_of _ (by decide +kernel)) ggX4_doing_X4_hasToSing
set_option maxRecDepth 20000 in
theorem ggX4_doing_X4_isMarked : GoodIn wsX4_doing wsX4_isMarked := goodIn_r _ [37, 38, 13, 14, 15, 16, 17, 18, 24, 25, 26, 39, 40, 41, 42, 43, 44, 45, 46, 47, 48, 49, 50, 51, 52] (by decide +kernel) (by decide +kernel)
set_option maxRecDepth 20000 in
theorem gX4_doing_X4_isMarked : GoodIn wsX4_doing (wsV RX4 100 RX4 yX4_isMarked wsX4_isMarked) := goodIn_app (goodIn_of _ (by decide +kernel)) ggX4_doing_X4_isMarked
set_option maxRecDepth 20000 in
theorem ggX4_doing_X2_at : GoodIn wsX4_doing wsX2_at := goodIn_r _ [17, 18, 52] (by decide +kernel) (by decide +kernel)
set_option maxRecDepth 20000 in
theorem gX4_doing_X2_at : GoodIn wsX4_doing (wsV RX4 68 RX2 yX2_at wsX2_at) := goodIn_app (goodIn_of _ (by decide +kernel)) ggX4_doing_X2_at
theorem dX4_doing_0 : decode cX4_doing 0 = .ok (.aload_n 0, 1) := by decide +kernel
theorem dX4_doing_1 : decode cX4_doing 1 = .ok (.iload_n 1, 1) := by decide +kernel
theorem dX4_doing_2 : decode cX4_doing 2 = .ok (.iload_n 2, 1) := by decide +kernel
theorem dX4_doing_3 : decode cX4_doing 3 = .ok (.invokevirtual 109, 3) := by decide +kernel
theorem dX4_doing_6 : decode cX4_doing 6 = .ok (.ifCond .ne 5, 3) := by decide +kernel
theorem dX4_doing_9 : decode cX4_doing 9 = .ok (.iconst 3, 1) := by decide +kernel
theorem dX4_doing_10 : decode cX4_doing 10 = .ok (.ireturn, 1) := by decide +kernel
theorem dX4_doing_11 : decode cX4_doing 11 = .ok (.aload_n 0, 1) := by decide +kernel
theorem dX4_doing_12 : decode cX4_doing 12 = .ok (.iload_n 1, 1) := by decide +kernel
theorem dX4_doing_13 : decode cX4_doing 13 = .ok (.iload_n 2, 1) := by decide +kernel
theorem dX4_doing_14 : decode cX4_doing 14 = .ok (.invokevirtual 100, 3) := by decide +kernel
theorem dX4_doing_17 : decode cX4_doing 17 = .ok (.ifCond .eq 5, 3) := by decide +kernel
theorem dX4_doing_20 : decode cX4_doing 20 = .ok (.iconst 1, 1) := by decide +kernel
theorem dX4_doing_21 : decode cX4_doing 21 = .ok (.ireturn, 1) := by decide +kernel
theorem dX4_doing_22 : decode cX4_doing 22 = .ok (.iload_n 3, 1) := by decide +kernel
theorem dX4_doing_23 : decode cX4_doing 23 = .ok (.aload_n 0, 1) := by decide +kernel
theorem dX4_doing_24 : decode cX4_doing 24 = .ok (.getfield 20, 3) := by decide +kernel
theorem dX4_doing_27 : decode cX4_doing 27 = .ok (.iload_n 2, 1) := by decide +kernel
theorem dX4_doing_28 : decode cX4_doing 28 = .ok (.invokevirtual 68, 3) := by decide +kernel
theorem dX4_doing_31 : decode cX4_doing 31 = .ok (.if_icmp .ge 7, 3) := by decide +kernel
theorem dX4_doing_34 : decode cX4_doing 34 = .ok (.iconst 2, 1) := by decide +kernel
theorem dX4_doing_35 : decode cX4_doing 35 = .ok (.goto 4, 3) := by decide +kernel
theorem dX4_doing_38 : decode cX4_doing 38 = .ok (.iconst 0, 1) := by decide +kernel
theorem dX4_doing_39 : decode cX4_doing 39 = .ok (.ireturn, 1) := by decide +kernel
set_option maxRecDepth 20000 in
theorem ggX5_init_X2_init : GoodIn wsX5_init wsX2_init := goodIn_r _ [10, 11, 2, 3, 12, 13, 14, 15, 16, 17, 18] (by decide +kernel) (by decide +kernel)
set_option maxRecDepth 20000 in
theorem gX5_init_X2_init : GoodIn wsX5_init (wsX2_init) := ggX5_init_X2_init
theorem dX5_init_0 : decode cX5_init 0 = .ok (.aload_n 0, 1) := by decide +kernel
theorem dX5_init_1 : decode cX5_init 1 = .ok (.invokespecial 3, 3) := by decide +kernel
theorem dX5_init_4 : decode cX5_init 4 = .ok (.aload_n 0, 1) := by decide +kernel
theorem dX5_init_5 : decode cX5_init 5 = .ok (.new 9, 3) := by decide +kernel
theorem dX5_init_8 : decode cX5_init 8 = .ok (.dup, 1) := by decide +kernel
theorem dX5_init_9 : decode cX5_init 9 = .ok (.bipush 12, 2) := by decide +kernel
theorem dX5_init_11 : decode cX5_init 11 = .ok (.invokespecial 11, 3) := by decide +kernel
theorem dX5_init_14 : decode cX5_init 14 = .ok (.putfield 14, 3) := by decide +kernel
theorem dX5_init_17 : decode cX5_init 17 = .ok (.return_, 1) := by decide +kernel
set_option maxRecDepth 20000 in
theorem ggX5_makePlan_X2_clear : GoodIn wsX5_makePlan wsX2_clear := goodIn_r _ [9, 10, 123] (by decide +kernel) (by decide +kernel)
set_option maxRecDepth 20000 in
theorem gX5_makePlan_X2_clear : GoodIn wsX5_makePlan (wsV RX5 25 RX2 yX2_clear wsX2_clear) := goodIn_app (goodIn_of _ (by decide +kernel)) ggX5_makePlan_X2_clear
set_option maxRecDepth 20000 in
theorem ggX5_makePlan_X2_copyFrom : GoodIn wsX5_makePlan wsX2_copyFrom := goodIn_r _ [14, 10, 15, 16, 17, 8, 18, 123] (by decide +kernel) (by decide +kernel)
set_option maxRecDepth 20000 in
theorem gX5_makePlan_X2_copyFrom : GoodIn wsX5_makePlan (wsV RX5 31 RX2 yX2_copyFrom wsX2_copyFrom) := goodIn_app (goodIn_of _ (by decide +kernel)) ggX5_makePlan_X2_copyFrom
set_option maxRecDepth 20000 in
theorem ggX5_makePlan_X4_isRest : GoodIn wsX5_makePlan wsX4_isRest := goodIn_r _ [23, 24, 25, 16, 17, 8, 18, 10, 109, 110, 111, 112, 113, 114, 115, 116, 117, 118, 119, 120, 121, 123] (by decide +kernel) (by decide +kernel)
set_option maxRecDepth 20000 in
theorem gX5_makePlan_X4_isRest : GoodIn wsX5_makePlan (wsV RX5 39 RX4 yX4_isRest wsX4_isRest) := goodIn_app (goodIn_of _ (by decide +kernel)) ggX5_makePlan_X4_isRest
set_option maxRecDepth 20000 in
theorem ggX5_makePlan_X4_soloAt : GoodIn wsX5_makePlan wsX4_soloAt := goodIn_r _ [29, 30, 31, 32, 25, 16, 17, 8, 18, 10, 109, 110, 111, 112, 113, 114, 115, 116, 117, 118, 119, 120, 121, 123] (by decide +kernel) (by decide +kernel)
set_option maxRecDepth 20000 in
theorem gX5_makePlan_X4_soloAt : GoodIn wsX5_makePlan (wsV RX5 43 RX4 yX4_soloAt wsX4_soloAt) := goodIn_app (goodIn_of _ (by decide +kernel)) ggX5_makePlan_X4_soloAt
set_option maxRecDepth 20000 in
theorem ggX5_makePlan_X5_chooseFor : GoodIn wsX5_makePlan wsX5_chooseFor := goodIn_r _ [37, 38, 39, 40, 41, 42, 43, 44, 36, 45, 4, 46, 47, 19, 20, 21, 22, 23, 24, 25, 16, 17, 8, 18, 10, 48, 49, 50, 51, 52, 53, 54, 55, 56, 57, 58, 59, 60, 61, 62, 63, 64, 65, 2, 66, 67, 68, 69, 70, 71, 72, 73, 74, 75, 76, 77, 78, 109, 110, 111, 112, 113, 114, 115, 116, 117, 118, 119, 120, 121, 123, 122] (by decide +kernel) (by decide +kernel)
set_option maxRecDepth 20000 in
theorem gX5_makePlan_X5_chooseFor : GoodIn wsX5_makePlan (wsV RX5 47 RX5 yX5_chooseFor wsX5_chooseFor) := goodIn_app (goodIn_of _ (by decide +kernel)) ggX5_makePlan_X5_chooseFor
set_option maxRecDepth 20000 in
theorem ggX5_makePlan_X2_put : GoodIn wsX5_makePlan wsX2_put := goodIn_r _ [82, 10, 123] (by decide +kernel) (by decide +kernel)
set_option maxRecDepth 20000 in
theorem gX5_makePlan_X2_put : GoodIn wsX5_makePlan (wsV RX5 51 RX2 yX2_put wsX2_put) := goodIn_app (goodIn_of _ (by decide +kernel)) ggX5_makePlan_X2_put
set_option maxRecDepth 20000 in
theorem ggX5_makePlan_X5_goThrough : GoodIn wsX5_makePlan wsX5_goThrough := goodIn_r _ [86, 65, 2, 47, 87, 3, 88, 89, 40, 90, 48, 16, 17, 8, 18, 10, 91, 92, 93, 22, 94, 95, 96, 97, 98, 99, 100, 101, 20, 21, 23, 24, 25, 102, 67, 68, 69, 53, 70, 71, 72, 103, 27, 28, 29, 30, 31, 32, 104, 105, 106, 107, 108, 79, 80, 81, 82, 109, 110, 111, 112, 113, 114, 115, 116, 117, 118, 119, 120, 121, 122, 123] (by decide +kernel) (by decide +kernel)
set_option maxRecDepth 20000 in
theorem gX5_makePlan_X5_goThrough : GoodIn wsX5_makePlan (wsV RX5 55 RX5 yX5_goThrough wsX5_goThrough) := goodIn_app (goodIn_of _ (by decide +kernel)) ggX5_makePlan_X5_goThrough
theorem dX5_makePlan_0 : decode cX5_makePlan 0 = .ok (.aload_n 1, 1) := by decide +kernel
theorem dX5_makePlan_1 : decode cX5_makePlan 1 = .ok (.getfield 20, 3) := by decide +kernel
theorem dX5_makePlan_4 : decode cX5_makePlan 4 = .ok (.invokevirtual 25, 3) := by decide +kernel
theorem dX5_makePlan_7 : decode cX5_makePlan 7 = .ok (.aload_n 0, 1) := by decide +kernel
theorem dX5_makePlan_8 : decode cX5_makePlan 8 = .ok (.getfield 14, 3) := by decide +kernel
theorem dX5_makePlan_11 : decode cX5_makePlan 11 = .ok (.aload_n 1, 1) := by decide +kernel
theorem dX5_makePlan_12 : decode cX5_makePlan 12 = .ok (.getfield 28, 3) := by decide +kernel
theorem dX5_makePlan_15 : decode cX5_makePlan 15 = .ok (.invokevirtual 31, 3) := by decide +kernel
theorem dX5_makePlan_18 : decode cX5_makePlan 18 = .ok (.iconst 0, 1) := by decide +kernel
theorem dX5_makePlan_19 : decode cX5_makePlan 19 = .ok (.istore_n 2, 1) := by decide +kernel
theorem dX5_makePlan_20 : decode cX5_makePlan 20 = .ok (.iload_n 2, 1) := by decide +kernel
theorem dX5_makePlan_21 : decode cX5_makePlan 21 = .ok (.aload_n 1, 1) := by decide +kernel
theorem dX5_makePlan_22 : decode cX5_makePlan 22 = .ok (.getfield 35, 3) := by decide +kernel
theorem dX5_makePlan_25 : decode cX5_makePlan 25 = .ok (.if_icmp .ge 47, 3) := by decide +kernel
theorem dX5_makePlan_28 : decode cX5_makePlan 28 = .ok (.aload_n 1, 1) := by decide +kernel
theorem dX5_makePlan_29 : decode cX5_makePlan 29 = .ok (.iload_n 2, 1) := by decide +kernel
theorem dX5_makePlan_30 : decode cX5_makePlan 30 = .ok (.invokevirtual 39, 3) := by decide +kernel
theorem dX5_makePlan_33 : decode cX5_makePlan 33 = .ok (.ifCond .ne 27, 3) := by decide +kernel
theorem dX5_makePlan_36 : decode cX5_makePlan 36 = .ok (.aload_n 1, 1) := by decide +kernel
theorem dX5_makePlan_37 : decode cX5_makePlan 37 = .ok (.iload_n 2, 1) := by decide +kernel
theorem dX5_makePlan_38 : decode cX5_makePlan 38 = .ok (.invokevirtual 43, 3) := by decide +kernel
theorem dX5_makePlan_41 : decode cX5_makePlan 41 = .ok (.bipush (-5), 2) := by decide +kernel
theorem dX5_makePlan_43 : decode cX5_makePlan 43 = .ok (.if_icmp .ne 17, 3) := by decide +kernel
theorem dX5_makePlan_46 : decode cX5_makePlan 46 = .ok (.aload_n 1, 1) := by decide +kernel
theorem dX5_makePlan_47 : decode cX5_makePlan 47 = .ok (.getfield 20, 3) := by decide +kernel
theorem dX5_makePlan_50 : decode cX5_makePlan 50 = .ok (.iload_n 2, 1) := by decide +kernel
theorem dX5_makePlan_51 : decode cX5_makePlan 51 = .ok (.aload_n 0, 1) := by decide +kernel
theorem dX5_makePlan_52 : decode cX5_makePlan 52 = .ok (.aload_n 1, 1) := by decide +kernel
theorem dX5_makePlan_53 : decode cX5_makePlan 53 = .ok (.iload_n 2, 1) := by decide +kernel
theorem dX5_makePlan_54 : decode cX5_makePlan 54 = .ok (.invokevirtual 47, 3) := by decide +kernel
theorem dX5_makePlan_57 : decode cX5_makePlan 57 = .ok (.invokevirtual 51, 3) := by decide +kernel
theorem dX5_makePlan_60 : decode cX5_makePlan 60 = .ok (.aload_n 0, 1) := by decide +kernel
theorem dX5_makePlan_61 : decode cX5_makePlan 61 = .ok (.aload_n 1, 1) := by decide +kernel
theorem dX5_makePlan_62 : decode cX5_makePlan 62 = .ok (.iload_n 2, 1) := by decide +kernel
theorem dX5_makePlan_63 : decode cX5_makePlan 63 = .ok (.invokevirtual 55, 3) := by decide +kernel
theorem dX5_makePlan_66 : decode cX5_makePlan 66 = .ok (.iinc 2 1, 3) := by decide +kernel
theorem dX5_makePlan_69 : decode cX5_makePlan 69 = .ok (.goto (-49), 3) := by decide +kernel
theorem dX5_makePlan_72 : decode cX5_makePlan 72 = .ok (.return_, 1) := by decide +kernel
set_option maxRecDepth 20000 in
theorem ggX5_chooseFor_X5_neededFrom : GoodIn wsX5_chooseFor wsX5_neededFrom := goodIn_r _ [9, 10, 11, 12, 13, 14, 15, 16, 17, 18, 19, 20, 21, 22, 23, 24, 25, 57, 58, 59, 60, 61, 62, 63, 64, 65, 66, 67, 68, 69, 70] (by decide +kernel) (by decide +kernel)
set_option maxRecDepth 20000 in
theorem gX5_chooseFor_X5_neededFrom : GoodIn wsX5_chooseFor (wsV RX5 59 RX5 yX5_neededFrom wsX5_neededFrom) := goodIn_app (goodIn_of _ (by decide +kernel)) ggX5_chooseFor_X5_neededFrom
set_option maxRecDepth 20000 in
theorem ggX5_chooseFor_X4_countPresent : GoodIn wsX5_chooseFor wsX4_countPresent := goodIn_r _ [29, 30, 31, 32, 33, 34, 35, 36, 37, 57, 58, 59, 60, 61, 62, 63, 64, 65, 66, 67, 68, 69] (by decide +kernel) (by decide +kernel)
set_option maxRecDepth 20000 in
theorem gX5_chooseFor_X4_countPresent : GoodIn wsX5_chooseFor (wsV RX5 62 RX4 yX4_countPresent wsX4_countPresent) := goodIn_app (goodIn_of _ (by decide +kernel)) ggX5_chooseFor_X4_countPresent
set_option maxRecDepth 20000 in
theorem ggX5_chooseFor_X5_shortestOfBreath : GoodIn wsX5_chooseFor wsX5_shortestOfBreath := goodIn_r _ [41, 42, 43, 44, 45, 46, 16, 47, 30, 48, 49, 50, 25, 20, 21, 22, 23, 24, 57, 58, 59, 60, 61, 62, 63, 64, 65, 66, 67, 68, 69, 71, 70] (by decide +kernel) (by decide +kernel)
set_option maxRecDepth 20000 in
theorem gX5_chooseFor_X5_shortestOfBreath : GoodIn wsX5_chooseFor (wsV RX5 72 RX5 yX5_shortestOfBreath wsX5_shortestOfBreath) := goodIn_app (goodIn_of _ (by decide +kernel)) ggX5_chooseFor_X5_shortestOfBreath
set_option maxRecDepth 20000 in
theorem ggX5_chooseFor_X7_bit : GoodIn wsX5_chooseFor wsX7_bit := goodIn_r _ [52] (by decide +kernel) (by decide +kernel)
set_option maxRecDepth 20000 in
theorem gX5_chooseFor_X7_bit_n76 : GoodIn wsX5_chooseFor (wsX7_bit) := ggX5_chooseFor_X7_bit
set_option maxRecDepth 20000 in
theorem ggX5_chooseFor_X5_canBeSungWithout : GoodIn wsX5_chooseFor wsX5_canBeSungWithout := goodIn_r _ [56, 42, 43, 12, 44, 45, 46, 16, 47, 30, 48, 49, 50, 25, 20, 21, 22, 23, 24, 57, 58, 59, 60, 61, 62, 63, 64, 65, 66, 67, 68, 69, 71, 70] (by decide +kernel) (by decide +kernel)
set_option maxRecDepth 20000 in
theorem gX5_chooseFor_X5_canBeSungWithout : GoodIn wsX5_chooseFor (wsV RX5 79 RX5 yX5_canBeSungWithout wsX5_canBeSungWithout) := goodIn_app (goodIn_of _ (by decide +kernel)) ggX5_chooseFor_X5_canBeSungWithout
theorem dX5_chooseFor_0 : decode cX5_chooseFor 0 = .ok (.aload_n 0, 1) := by decide +kernel
theorem dX5_chooseFor_1 : decode cX5_chooseFor 1 = .ok (.aload_n 1, 1) := by decide +kernel
theorem dX5_chooseFor_2 : decode cX5_chooseFor 2 = .ok (.iload_n 2, 1) := by decide +kernel
theorem dX5_chooseFor_3 : decode cX5_chooseFor 3 = .ok (.invokevirtual 59, 3) := by decide +kernel
theorem dX5_chooseFor_6 : decode cX5_chooseFor 6 = .ok (.istore_n 3, 1) := by decide +kernel
theorem dX5_chooseFor_7 : decode cX5_chooseFor 7 = .ok (.iconst 1, 1) := by decide +kernel
theorem dX5_chooseFor_8 : decode cX5_chooseFor 8 = .ok (.aload_n 1, 1) := by decide +kernel
theorem dX5_chooseFor_9 : decode cX5_chooseFor 9 = .ok (.invokevirtual 62, 3) := by decide +kernel
theorem dX5_chooseFor_12 : decode cX5_chooseFor 12 = .ok (.iconst 2, 1) := by decide +kernel
theorem dX5_chooseFor_13 : decode cX5_chooseFor 13 = .ok (.idiv, 1) := by decide +kernel
theorem dX5_chooseFor_14 : decode cX5_chooseFor 14 = .ok (.invokestatic 66, 3) := by decide +kernel
theorem dX5_chooseFor_17 : decode cX5_chooseFor 17 = .ok (.istore 4, 2) := by decide +kernel
theorem dX5_chooseFor_19 : decode cX5_chooseFor 19 = .ok (.iconst 0, 1) := by decide +kernel
theorem dX5_chooseFor_20 : decode cX5_chooseFor 20 = .ok (.istore 5, 2) := by decide +kernel
theorem dX5_chooseFor_22 : decode cX5_chooseFor 22 = .ok (.iconst 0, 1) := by decide +kernel
theorem dX5_chooseFor_23 : decode cX5_chooseFor 23 = .ok (.istore 6, 2) := by decide +kernel
theorem dX5_chooseFor_25 : decode cX5_chooseFor 25 = .ok (.iload 6, 2) := by decide +kernel
theorem dX5_chooseFor_27 : decode cX5_chooseFor 27 = .ok (.iload 4, 2) := by decide +kernel
theorem dX5_chooseFor_29 : decode cX5_chooseFor 29 = .ok (.if_icmp .ge 56, 3) := by decide +kernel
theorem dX5_chooseFor_32 : decode cX5_chooseFor 32 = .ok (.aload_n 0, 1) := by decide +kernel
theorem dX5_chooseFor_33 : decode cX5_chooseFor 33 = .ok (.aload_n 1, 1) := by decide +kernel
theorem dX5_chooseFor_34 : decode cX5_chooseFor 34 = .ok (.iload_n 3, 1) := by decide +kernel
theorem dX5_chooseFor_35 : decode cX5_chooseFor 35 = .ok (.iload 5, 2) := by decide +kernel
theorem dX5_chooseFor_37 : decode cX5_chooseFor 37 = .ok (.invokevirtual 72, 3) := by decide +kernel
theorem dX5_chooseFor_40 : decode cX5_chooseFor 40 = .ok (.istore 7, 2) := by decide +kernel
theorem dX5_chooseFor_42 : decode cX5_chooseFor 42 = .ok (.iload 7, 2) := by decide +kernel
theorem dX5_chooseFor_44 : decode cX5_chooseFor 44 = .ok (.bipush (-5), 2) := by decide +kernel
theorem dX5_chooseFor_46 : decode cX5_chooseFor 46 = .ok (.if_icmp .eq 20, 3) := by decide +kernel
theorem dX5_chooseFor_49 : decode cX5_chooseFor 49 = .ok (.aload_n 0, 1) := by decide +kernel
theorem dX5_chooseFor_50 : decode cX5_chooseFor 50 = .ok (.aload_n 1, 1) := by decide +kernel
theorem dX5_chooseFor_51 : decode cX5_chooseFor 51 = .ok (.iload 5, 2) := by decide +kernel
theorem dX5_chooseFor_53 : decode cX5_chooseFor 53 = .ok (.iload 7, 2) := by decide +kernel
theorem dX5_chooseFor_55 : decode cX5_chooseFor 55 = .ok (.invokestatic 76, 3) := by decide +kernel
theorem dX5_chooseFor_58 : decode cX5_chooseFor 58 = .ok (.ior, 1) := by decide +kernel
theorem dX5_chooseFor_59 : decode cX5_chooseFor 59 = .ok (.iload_n 2, 1) := by decide +kernel
theorem dX5_chooseFor_60 : decode cX5_chooseFor 60 = .ok (.invokevirtual 79, 3) := by decide +kernel
theorem dX5_chooseFor_63 : decode cX5_chooseFor 63 = .ok (.ifCond .ne 6, 3) := by decide +kernel
theorem dX5_chooseFor_66 : decode cX5_chooseFor 66 = .ok (.iload 5, 2) := by decide +kernel
theorem dX5_chooseFor_68 : decode cX5_chooseFor 68 = .ok (.ireturn, 1) := by decide +kernel
theorem dX5_chooseFor_69 : decode cX5_chooseFor 69 = .ok (.iload 5, 2) := by decide +kernel
theorem dX5_chooseFor_71 : decode cX5_chooseFor 71 = .ok (.iload 7, 2) := by decide +kernel
theorem dX5_chooseFor_73 : decode cX5_chooseFor 73 = .ok (.invokestatic 76, 3) := by decide +kernel
theorem dX5_chooseFor_76 : decode cX5_chooseFor 76 = .ok (.ior, 1) := by decide +kernel
theorem dX5_chooseFor_77 : decode cX5_chooseFor 77 = .ok (.istore 5, 2) := by decide +kernel
theorem dX5_chooseFor_79 : decode cX5_chooseFor 79 = .ok (.iinc 6 1, 3) := by decide +kernel
theorem dX5_chooseFor_82 : decode cX5_chooseFor 82 = .ok (.goto (-57), 3) := by decide +kernel
theorem dX5_chooseFor_85 : decode cX5_chooseFor 85 = .ok (.iload 5, 2) := by decide +kernel
theorem dX5_chooseFor_87 : decode cX5_chooseFor 87 = .ok (.ireturn, 1) := by decide +kernel
set_option maxRecDepth 20000 in
theorem ggX5_neededFrom_X4_isRest : GoodIn wsX5_neededFrom wsX4_isRest := goodIn_r _ [8, 9, 10, 11, 12, 13, 14, 15, 17, 18, 19, 20, 21, 22, 23, 24, 25, 26, 27, 28, 29, 30] (by decide +kernel) (by decide +kernel)
set_option maxRecDepth 20000 in
theorem gX5_neededFrom_X4_isRest : GoodIn wsX5_neededFrom (wsV RX5 39 RX4 yX4_isRest wsX4_isRest) := goodIn_app (goodIn_of _ (by decide +kernel)) ggX5_neededFrom_X4_isRest
set_option maxRecDepth 20000 in
theorem ggX5_neededFrom_X2_at : GoodIn wsX5_neededFrom wsX2_at := goodIn_r _ [14, 15, 30] (by decide +kernel) (by decide +kernel)
set_option maxRecDepth 20000 in
theorem gX5_neededFrom_X2_at : GoodIn wsX5_neededFrom (wsV RX5 89 RX2 yX2_at wsX2_at) := goodIn_app (goodIn_of _ (by decide +kernel)) ggX5_neededFrom_X2_at
theorem dX5_neededFrom_0 : decode cX5_neededFrom 0 = .ok (.iconst 0, 1) := by decide +kernel
theorem dX5_neededFrom_1 : decode cX5_neededFrom 1 = .ok (.istore_n 3, 1) := by decide +kernel
theorem dX5_neededFrom_2 : decode cX5_neededFrom 2 = .ok (.iconst 0, 1) := by decide +kernel
theorem dX5_neededFrom_3 : decode cX5_neededFrom 3 = .ok (.istore 4, 2) := by decide +kernel
theorem dX5_neededFrom_5 : decode cX5_neededFrom 5 = .ok (.iload_n 2, 1) := by decide +kernel
theorem dX5_neededFrom_6 : decode cX5_neededFrom 6 = .ok (.istore 5, 2) := by decide +kernel
theorem dX5_neededFrom_8 : decode cX5_neededFrom 8 = .ok (.iload 5, 2) := by decide +kernel
theorem dX5_neededFrom_10 : decode cX5_neededFrom 10 = .ok (.aload_n 1, 1) := by decide +kernel
theorem dX5_neededFrom_11 : decode cX5_neededFrom 11 = .ok (.getfield 35, 3) := by decide +kernel
theorem dX5_neededFrom_14 : decode cX5_neededFrom 14 = .ok (.if_icmp .ge 42, 3) := by decide +kernel
theorem dX5_neededFrom_17 : decode cX5_neededFrom 17 = .ok (.iload 4, 2) := by decide +kernel
theorem dX5_neededFrom_19 : decode cX5_neededFrom 19 = .ok (.aload_n 1, 1) := by decide +kernel
theorem dX5_neededFrom_20 : decode cX5_neededFrom 20 = .ok (.getfield 83, 3) := by decide +kernel
theorem dX5_neededFrom_23 : decode cX5_neededFrom 23 = .ok (.if_icmp .ge 33, 3) := by decide +kernel
theorem dX5_neededFrom_26 : decode cX5_neededFrom 26 = .ok (.aload_n 1, 1) := by decide +kernel
theorem dX5_neededFrom_27 : decode cX5_neededFrom 27 = .ok (.iload 5, 2) := by decide +kernel
theorem dX5_neededFrom_29 : decode cX5_neededFrom 29 = .ok (.invokevirtual 39, 3) := by decide +kernel
theorem dX5_neededFrom_32 : decode cX5_neededFrom 32 = .ok (.ifCond .ne 18, 3) := by decide +kernel
theorem dX5_neededFrom_35 : decode cX5_neededFrom 35 = .ok (.iload_n 3, 1) := by decide +kernel
theorem dX5_neededFrom_36 : decode cX5_neededFrom 36 = .ok (.aload_n 1, 1) := by decide +kernel
theorem dX5_neededFrom_37 : decode cX5_neededFrom 37 = .ok (.getfield 86, 3) := by decide +kernel
theorem dX5_neededFrom_40 : decode cX5_neededFrom 40 = .ok (.iload 5, 2) := by decide +kernel
theorem dX5_neededFrom_42 : decode cX5_neededFrom 42 = .ok (.invokevirtual 89, 3) := by decide +kernel
theorem dX5_neededFrom_45 : decode cX5_neededFrom 45 = .ok (.iadd, 1) := by decide +kernel
theorem dX5_neededFrom_46 : decode cX5_neededFrom 46 = .ok (.istore_n 3, 1) := by decide +kernel
theorem dX5_neededFrom_47 : decode cX5_neededFrom 47 = .ok (.iinc 4 1, 3) := by decide +kernel
theorem dX5_neededFrom_50 : decode cX5_neededFrom 50 = .ok (.iinc 5 1, 3) := by decide +kernel
