set_option maxRecDepth 20000 in
theorem ggX8_keep_X8_in : GoodIn wsX8_keep wsX8_in := goodIn_r _ [7] (by decide +kernel) (by decide +kernel)
set_option maxRecDepth 20000 in
theorem gX8_keep_X8_in : GoodIn wsX8_keep (va_wsS RX8 61 yX8_in wsX8_in) := goodIn_app (goodIn_of _ (by decide +kernel)) ggX8_keep_X8_in
set_option maxRecDepth 20000 in
theorem ggX8_keep_X8_beats : GoodIn wsX8_keep wsX8_beats := goodIn_r _ [11, 3, 12, 13, 14, 15, 16, 17, 18, 19, 20, 21, 22, 23, 24, 25, 26, 27, 28, 29, 30, 31] (by decide +kernel) (by decide +kernel)
set_option maxRecDepth 20000 in
theorem gX8_keep_X8_beats : GoodIn wsX8_keep (wsV RX8 65 RX8 yX8_beats wsX8_beats) := goodIn_app (goodIn_of _ (by decide +kernel)) ggX8_keep_X8_beats
theorem dX8_keep_0 : decode cX8_keep 0 = .ok (.iload_n 1, 1) := by decide +kernel
theorem dX8_keep_1 : decode cX8_keep 1 = .ok (.iconst 0, 1) := by decide +kernel
theorem dX8_keep_2 : decode cX8_keep 2 = .ok (.iconst 1, 1) := by decide +kernel
theorem dX8_keep_3 : decode cX8_keep 3 = .ok (.invokestatic 61, 3) := by decide +kernel
theorem dX8_keep_6 : decode cX8_keep 6 = .ok (.ifCond .ne 5, 3) := by decide +kernel
theorem dX8_keep_9 : decode cX8_keep 9 = .ok (.iconst (-1), 1) := by decide +kernel
theorem dX8_keep_10 : decode cX8_keep 10 = .ok (.ireturn, 1) := by decide +kernel
theorem dX8_keep_11 : decode cX8_keep 11 = .ok (.aload_n 0, 1) := by decide +kernel
theorem dX8_keep_12 : decode cX8_keep 12 = .ok (.getfield 22, 3) := by decide +kernel
theorem dX8_keep_15 : decode cX8_keep 15 = .ok (.iload_n 1, 1) := by decide +kernel
theorem dX8_keep_16 : decode cX8_keep 16 = .ok (.iconst 1, 1) := by decide +kernel
theorem dX8_keep_17 : decode cX8_keep 17 = .ok (.bastore, 1) := by decide +kernel
theorem dX8_keep_18 : decode cX8_keep 18 = .ok (.iconst 0, 1) := by decide +kernel
theorem dX8_keep_19 : decode cX8_keep 19 = .ok (.istore_n 2, 1) := by decide +kernel
theorem dX8_keep_20 : decode cX8_keep 20 = .ok (.iload_n 2, 1) := by decide +kernel
theorem dX8_keep_21 : decode cX8_keep 21 = .ok (.sipush 292, 3) := by decide +kernel
theorem dX8_keep_24 : decode cX8_keep 24 = .ok (.if_icmp .ge 27, 3) := by decide +kernel
theorem dX8_keep_27 : decode cX8_keep 27 = .ok (.aload_n 0, 1) := by decide +kernel
theorem dX8_keep_28 : decode cX8_keep 28 = .ok (.getfield 19, 3) := by decide +kernel
theorem dX8_keep_31 : decode cX8_keep 31 = .ok (.sipush 292, 3) := by decide +kernel
theorem dX8_keep_34 : decode cX8_keep 34 = .ok (.iload_n 1, 1) := by decide +kernel
theorem dX8_keep_35 : decode cX8_keep 35 = .ok (.imul, 1) := by decide +kernel
theorem dX8_keep_36 : decode cX8_keep 36 = .ok (.iload_n 2, 1) := by decide +kernel
theorem dX8_keep_37 : decode cX8_keep 37 = .ok (.iadd, 1) := by decide +kernel
theorem dX8_keep_38 : decode cX8_keep 38 = .ok (.aload_n 0, 1) := by decide +kernel
theorem dX8_keep_39 : decode cX8_keep 39 = .ok (.getfield 7, 3) := by decide +kernel
theorem dX8_keep_42 : decode cX8_keep 42 = .ok (.iload_n 2, 1) := by decide +kernel
theorem dX8_keep_43 : decode cX8_keep 43 = .ok (.iaload, 1) := by decide +kernel
theorem dX8_keep_44 : decode cX8_keep 44 = .ok (.iastore, 1) := by decide +kernel
theorem dX8_keep_45 : decode cX8_keep 45 = .ok (.iinc 2 1, 3) := by decide +kernel
theorem dX8_keep_48 : decode cX8_keep 48 = .ok (.goto (-28), 3) := by decide +kernel
theorem dX8_keep_51 : decode cX8_keep 51 = .ok (.aload_n 0, 1) := by decide +kernel
theorem dX8_keep_52 : decode cX8_keep 52 = .ok (.invokevirtual 65, 3) := by decide +kernel
theorem dX8_keep_55 : decode cX8_keep 55 = .ok (.ireturn, 1) := by decide +kernel
set_option maxRecDepth 20000 in
theorem ggX8_restore_X8_in : GoodIn wsX8_restore wsX8_in := goodIn_r _ [7] (by decide +kernel) (by decide +kernel)
set_option maxRecDepth 20000 in
theorem gX8_restore_X8_in : GoodIn wsX8_restore (va_wsS RX8 61 yX8_in wsX8_in) := goodIn_app (goodIn_of _ (by decide +kernel)) ggX8_restore_X8_in
set_option maxRecDepth 20000 in
theorem ggX8_restore_X8_begin : GoodIn wsX8_restore wsX8_begin := goodIn_r _ [11, 12, 2, 23, 24, 25, 26, 27, 28, 29, 30, 31, 32, 33, 34, 35, 36, 37, 38, 39, 40, 41, 42] (by decide +kernel) (by decide +kernel)
set_option maxRecDepth 20000 in
theorem gX8_restore_X8_begin : GoodIn wsX8_restore (wsV RX8 69 RX8 yX8_begin wsX8_begin) := goodIn_app (goodIn_of _ (by decide +kernel)) ggX8_restore_X8_begin
set_option maxRecDepth 20000 in
theorem ggX8_restore_X8_beats : GoodIn wsX8_restore wsX8_beats := goodIn_r _ [16, 2, 23, 24, 25, 26, 27, 28, 29, 30, 31, 32, 33, 34, 35, 36, 37, 38, 39, 40, 41, 42] (by decide +kernel) (by decide +kernel)
set_option maxRecDepth 20000 in
theorem gX8_restore_X8_beats : GoodIn wsX8_restore (wsV RX8 65 RX8 yX8_beats wsX8_beats) := goodIn_app (goodIn_of _ (by decide +kernel)) ggX8_restore_X8_beats
set_option maxRecDepth 20000 in
theorem ggX8_restore_X8_done : GoodIn wsX8_restore wsX8_done := goodIn_r _ [20, 21, 22, 12, 23, 24, 25, 26, 27, 28, 29, 30, 31, 32, 33, 34, 35, 36, 37, 38, 39, 40, 41, 42] (by decide +kernel) (by decide +kernel)
set_option maxRecDepth 20000 in
theorem gX8_restore_X8_done : GoodIn wsX8_restore (wsV RX8 72 RX8 yX8_done wsX8_done) := goodIn_app (goodIn_of _ (by decide +kernel)) ggX8_restore_X8_done
theorem dX8_restore_0 : decode cX8_restore 0 = .ok (.iload_n 1, 1) := by decide +kernel
theorem dX8_restore_1 : decode cX8_restore 1 = .ok (.iconst 0, 1) := by decide +kernel
theorem dX8_restore_2 : decode cX8_restore 2 = .ok (.iconst 1, 1) := by decide +kernel
theorem dX8_restore_3 : decode cX8_restore 3 = .ok (.invokestatic 61, 3) := by decide +kernel
theorem dX8_restore_6 : decode cX8_restore 6 = .ok (.ifCond .ne 5, 3) := by decide +kernel
theorem dX8_restore_9 : decode cX8_restore 9 = .ok (.iconst (-1), 1) := by decide +kernel
theorem dX8_restore_10 : decode cX8_restore 10 = .ok (.ireturn, 1) := by decide +kernel
theorem dX8_restore_11 : decode cX8_restore 11 = .ok (.aload_n 0, 1) := by decide +kernel
theorem dX8_restore_12 : decode cX8_restore 12 = .ok (.getfield 22, 3) := by decide +kernel
theorem dX8_restore_15 : decode cX8_restore 15 = .ok (.iload_n 1, 1) := by decide +kernel
theorem dX8_restore_16 : decode cX8_restore 16 = .ok (.baload, 1) := by decide +kernel
theorem dX8_restore_17 : decode cX8_restore 17 = .ok (.ifCond .ne 6, 3) := by decide +kernel
theorem dX8_restore_20 : decode cX8_restore 20 = .ok (.bipush (-5), 2) := by decide +kernel
theorem dX8_restore_22 : decode cX8_restore 22 = .ok (.ireturn, 1) := by decide +kernel
theorem dX8_restore_23 : decode cX8_restore 23 = .ok (.aload_n 0, 1) := by decide +kernel
theorem dX8_restore_24 : decode cX8_restore 24 = .ok (.invokevirtual 69, 3) := by decide +kernel
theorem dX8_restore_27 : decode cX8_restore 27 = .ok (.iconst 0, 1) := by decide +kernel
theorem dX8_restore_28 : decode cX8_restore 28 = .ok (.istore_n 2, 1) := by decide +kernel
theorem dX8_restore_29 : decode cX8_restore 29 = .ok (.iload_n 2, 1) := by decide +kernel
theorem dX8_restore_30 : decode cX8_restore 30 = .ok (.sipush 292, 3) := by decide +kernel
theorem dX8_restore_33 : decode cX8_restore 33 = .ok (.if_icmp .ge 27, 3) := by decide +kernel
theorem dX8_restore_36 : decode cX8_restore 36 = .ok (.aload_n 0, 1) := by decide +kernel
theorem dX8_restore_37 : decode cX8_restore 37 = .ok (.getfield 7, 3) := by decide +kernel
theorem dX8_restore_40 : decode cX8_restore 40 = .ok (.iload_n 2, 1) := by decide +kernel
theorem dX8_restore_41 : decode cX8_restore 41 = .ok (.aload_n 0, 1) := by decide +kernel
theorem dX8_restore_42 : decode cX8_restore 42 = .ok (.getfield 19, 3) := by decide +kernel
theorem dX8_restore_45 : decode cX8_restore 45 = .ok (.sipush 292, 3) := by decide +kernel
theorem dX8_restore_48 : decode cX8_restore 48 = .ok (.iload_n 1, 1) := by decide +kernel
theorem dX8_restore_49 : decode cX8_restore 49 = .ok (.imul, 1) := by decide +kernel
theorem dX8_restore_50 : decode cX8_restore 50 = .ok (.iload_n 2, 1) := by decide +kernel
theorem dX8_restore_51 : decode cX8_restore 51 = .ok (.iadd, 1) := by decide +kernel
theorem dX8_restore_52 : decode cX8_restore 52 = .ok (.iaload, 1) := by decide +kernel
theorem dX8_restore_53 : decode cX8_restore 53 = .ok (.iastore, 1) := by decide +kernel
theorem dX8_restore_54 : decode cX8_restore 54 = .ok (.iinc 2 1, 3) := by decide +kernel
theorem dX8_restore_57 : decode cX8_restore 57 = .ok (.goto (-28), 3) := by decide +kernel
theorem dX8_restore_60 : decode cX8_restore 60 = .ok (.aload_n 0, 1) := by decide +kernel
theorem dX8_restore_61 : decode cX8_restore 61 = .ok (.aload_n 0, 1) := by decide +kernel
theorem dX8_restore_62 : decode cX8_restore 62 = .ok (.invokevirtual 65, 3) := by decide +kernel
theorem dX8_restore_65 : decode cX8_restore 65 = .ok (.invokevirtual 72, 3) := by decide +kernel
theorem dX8_restore_68 : decode cX8_restore 68 = .ok (.ireturn, 1) := by decide +kernel
theorem dX8_beats_0 : decode cX8_beats 0 = .ok (.aload_n 0, 1) := by decide +kernel
theorem dX8_beats_1 : decode cX8_beats 1 = .ok (.getfield 7, 3) := by decide +kernel
theorem dX8_beats_4 : decode cX8_beats 4 = .ok (.iconst 0, 1) := by decide +kernel
theorem dX8_beats_5 : decode cX8_beats 5 = .ok (.iaload, 1) := by decide +kernel
theorem dX8_beats_6 : decode cX8_beats 6 = .ok (.ireturn, 1) := by decide +kernel
theorem dX8_singers_0 : decode cX8_singers 0 = .ok (.aload_n 0, 1) := by decide +kernel
theorem dX8_singers_1 : decode cX8_singers 1 = .ok (.getfield 7, 3) := by decide +kernel
theorem dX8_singers_4 : decode cX8_singers 4 = .ok (.iconst 1, 1) := by decide +kernel
theorem dX8_singers_5 : decode cX8_singers 5 = .ok (.iaload, 1) := by decide +kernel
theorem dX8_singers_6 : decode cX8_singers 6 = .ok (.ireturn, 1) := by decide +kernel
theorem dX8_solos_0 : decode cX8_solos 0 = .ok (.aload_n 0, 1) := by decide +kernel
theorem dX8_solos_1 : decode cX8_solos 1 = .ok (.getfield 7, 3) := by decide +kernel
theorem dX8_solos_4 : decode cX8_solos 4 = .ok (.iconst 2, 1) := by decide +kernel
theorem dX8_solos_5 : decode cX8_solos 5 = .ok (.iaload, 1) := by decide +kernel
theorem dX8_solos_6 : decode cX8_solos 6 = .ok (.ireturn, 1) := by decide +kernel
set_option maxRecDepth 20000 in
theorem ggX8_noBeat_X8_beats : GoodIn wsX8_noBeat wsX8_beats := goodIn_r _ [5, 6, 10, 11, 12, 13, 14, 15, 16, 17, 18, 19, 20, 21, 22, 23, 24, 25, 26, 27, 28, 29] (by decide +kernel) (by decide +kernel)
set_option maxRecDepth 20000 in
theorem gX8_noBeat_X8_beats : GoodIn wsX8_noBeat (wsV RX8 65 RX8 yX8_beats wsX8_beats) := goodIn_app (goodIn_of _ (by decide +kernel)) ggX8_noBeat_X8_beats
set_option maxRecDepth 20000 in
theorem ggX8_noBeat_X8_in : GoodIn wsX8_noBeat wsX8_in := goodIn_r _ [9] (by decide +kernel) (by decide +kernel)
set_option maxRecDepth 20000 in
theorem gX8_noBeat_X8_in : GoodIn wsX8_noBeat (va_wsS RX8 61 yX8_in wsX8_in) := goodIn_app (goodIn_of _ (by decide +kernel)) ggX8_noBeat_X8_in
theorem dX8_noBeat_0 : decode cX8_noBeat 0 = .ok (.iload_n 1, 1) := by decide +kernel
theorem dX8_noBeat_1 : decode cX8_noBeat 1 = .ok (.iconst 0, 1) := by decide +kernel
theorem dX8_noBeat_2 : decode cX8_noBeat 2 = .ok (.aload_n 0, 1) := by decide +kernel
theorem dX8_noBeat_3 : decode cX8_noBeat 3 = .ok (.invokevirtual 65, 3) := by decide +kernel
theorem dX8_noBeat_6 : decode cX8_noBeat 6 = .ok (.iconst 1, 1) := by decide +kernel
theorem dX8_noBeat_7 : decode cX8_noBeat 7 = .ok (.isub, 1) := by decide +kernel
theorem dX8_noBeat_8 : decode cX8_noBeat 8 = .ok (.invokestatic 61, 3) := by decide +kernel
theorem dX8_noBeat_11 : decode cX8_noBeat 11 = .ok (.ifCond .ne 7, 3) := by decide +kernel
theorem dX8_noBeat_14 : decode cX8_noBeat 14 = .ok (.iconst 1, 1) := by decide +kernel
theorem dX8_noBeat_15 : decode cX8_noBeat 15 = .ok (.goto 4, 3) := by decide +kernel
theorem dX8_noBeat_18 : decode cX8_noBeat 18 = .ok (.iconst 0, 1) := by decide +kernel
theorem dX8_noBeat_19 : decode cX8_noBeat 19 = .ok (.ireturn, 1) := by decide +kernel
set_option maxRecDepth 20000 in
theorem ggX8_noSinger_X8_singers : GoodIn wsX8_noSinger wsX8_singers := goodIn_r _ [5, 6, 10, 11, 12, 13, 14, 15, 16, 17, 18, 19, 20, 21, 22, 23, 24, 25, 26, 27, 28, 29] (by decide +kernel) (by decide +kernel)
set_option maxRecDepth 20000 in
theorem gX8_noSinger_X8_singers : GoodIn wsX8_noSinger (wsV RX8 76 RX8 yX8_singers wsX8_singers) := goodIn_app (goodIn_of _ (by decide +kernel)) ggX8_noSinger_X8_singers
set_option maxRecDepth 20000 in
theorem ggX8_noSinger_X8_in : GoodIn wsX8_noSinger wsX8_in := goodIn_r _ [9] (by decide +kernel) (by decide +kernel)
set_option maxRecDepth 20000 in
theorem gX8_noSinger_X8_in : GoodIn wsX8_noSinger (va_wsS RX8 61 yX8_in wsX8_in) := goodIn_app (goodIn_of _ (by decide +kernel)) ggX8_noSinger_X8_in
theorem dX8_noSinger_0 : decode cX8_noSinger 0 = .ok (.iload_n 1, 1) := by decide +kernel
theorem dX8_noSinger_1 : decode cX8_noSinger 1 = .ok (.iconst 0, 1) := by decide +kernel
theorem dX8_noSinger_2 : decode cX8_noSinger 2 = .ok (.aload_n 0, 1) := by decide +kernel
theorem dX8_noSinger_3 : decode cX8_noSinger 3 = .ok (.invokevirtual 76, 3) := by decide +kernel
theorem dX8_noSinger_6 : decode cX8_noSinger 6 = .ok (.iconst 1, 1) := by decide +kernel
theorem dX8_noSinger_7 : decode cX8_noSinger 7 = .ok (.isub, 1) := by decide +kernel
theorem dX8_noSinger_8 : decode cX8_noSinger 8 = .ok (.invokestatic 61, 3) := by decide +kernel
theorem dX8_noSinger_11 : decode cX8_noSinger 11 = .ok (.ifCond .ne 7, 3) := by decide +kernel
theorem dX8_noSinger_14 : decode cX8_noSinger 14 = .ok (.iconst 1, 1) := by decide +kernel
theorem dX8_noSinger_15 : decode cX8_noSinger 15 = .ok (.goto 4, 3) := by decide +kernel
theorem dX8_noSinger_18 : decode cX8_noSinger 18 = .ok (.iconst 0, 1) := by decide +kernel
theorem dX8_noSinger_19 : decode cX8_noSinger 19 = .ok (.ireturn, 1) := by decide +kernel
theorem dX8_isRest_0 : decode cX8_isRest 0 = .ok (.aload_n 0, 1) := by decide +kernel
theorem dX8_isRest_1 : decode cX8_isRest 1 = .ok (.getfield 7, 3) := by decide +kernel
theorem dX8_isRest_4 : decode cX8_isRest 4 = .ok (.iconst 4, 1) := by decide +kernel
theorem dX8_isRest_5 : decode cX8_isRest 5 = .ok (.iload_n 1, 1) := by decide +kernel
theorem dX8_isRest_6 : decode cX8_isRest 6 = .ok (.iadd, 1) := by decide +kernel
theorem dX8_isRest_7 : decode cX8_isRest 7 = .ok (.iaload, 1) := by decide +kernel
theorem dX8_isRest_8 : decode cX8_isRest 8 = .ok (.ifCond .ne 7, 3) := by decide +kernel
theorem dX8_isRest_11 : decode cX8_isRest 11 = .ok (.iconst 1, 1) := by decide +kernel
theorem dX8_isRest_12 : decode cX8_isRest 12 = .ok (.goto 4, 3) := by decide +kernel
theorem dX8_isRest_15 : decode cX8_isRest 15 = .ok (.iconst 0, 1) := by decide +kernel
theorem dX8_isRest_16 : decode cX8_isRest 16 = .ok (.ireturn, 1) := by decide +kernel
theorem dX8_loud_0 : decode cX8_loud 0 = .ok (.aload_n 0, 1) := by decide +kernel
theorem dX8_loud_1 : decode cX8_loud 1 = .ok (.getfield 7, 3) := by decide +kernel
theorem dX8_loud_4 : decode cX8_loud 4 = .ok (.bipush 100, 2) := by decide +kernel
theorem dX8_loud_6 : decode cX8_loud 6 = .ok (.iload_n 1, 1) := by decide +kernel
theorem dX8_loud_7 : decode cX8_loud 7 = .ok (.iadd, 1) := by decide +kernel
theorem dX8_loud_8 : decode cX8_loud 8 = .ok (.iaload, 1) := by decide +kernel
theorem dX8_loud_9 : decode cX8_loud 9 = .ok (.ireturn, 1) := by decide +kernel
theorem dX8_of_0 : decode cX8_of 0 = .ok (.aload_n 0, 1) := by decide +kernel
theorem dX8_of_1 : decode cX8_of 1 = .ok (.getfield 7, 3) := by decide +kernel
theorem dX8_of_4 : decode cX8_of 4 = .ok (.sipush 196, 3) := by decide +kernel
theorem dX8_of_7 : decode cX8_of 7 = .ok (.iconst 3, 1) := by decide +kernel
theorem dX8_of_8 : decode cX8_of 8 = .ok (.iload_n 1, 1) := by decide +kernel
theorem dX8_of_9 : decode cX8_of 9 = .ok (.imul, 1) := by decide +kernel
theorem dX8_of_10 : decode cX8_of 10 = .ok (.iadd, 1) := by decide +kernel
theorem dX8_of_11 : decode cX8_of 11 = .ok (.iload_n 2, 1) := by decide +kernel
theorem dX8_of_12 : decode cX8_of 12 = .ok (.iadd, 1) := by decide +kernel
theorem dX8_of_13 : decode cX8_of 13 = .ok (.iaload, 1) := by decide +kernel
theorem dX8_of_14 : decode cX8_of 14 = .ok (.ireturn, 1) := by decide +kernel
theorem dX8_soloOf_0 : decode cX8_soloOf 0 = .ok (.aload_n 0, 1) := by decide +kernel
theorem dX8_soloOf_1 : decode cX8_soloOf 1 = .ok (.getfield 7, 3) := by decide +kernel
theorem dX8_soloOf_4 : decode cX8_soloOf 4 = .ok (.sipush 268, 3) := by decide +kernel
theorem dX8_soloOf_7 : decode cX8_soloOf 7 = .ok (.iconst 3, 1) := by decide +kernel
theorem dX8_soloOf_8 : decode cX8_soloOf 8 = .ok (.iload_n 1, 1) := by decide +kernel
theorem dX8_soloOf_9 : decode cX8_soloOf 9 = .ok (.imul, 1) := by decide +kernel
theorem dX8_soloOf_10 : decode cX8_soloOf 10 = .ok (.iadd, 1) := by decide +kernel
theorem dX8_soloOf_11 : decode cX8_soloOf 11 = .ok (.iload_n 2, 1) := by decide +kernel
theorem dX8_soloOf_12 : decode cX8_soloOf 12 = .ok (.iadd, 1) := by decide +kernel
theorem dX8_soloOf_13 : decode cX8_soloOf 13 = .ok (.iaload, 1) := by decide +kernel
theorem dX8_soloOf_14 : decode cX8_soloOf 14 = .ok (.ireturn, 1) := by decide +kernel
theorem dX8_type_0 : decode cX8_type 0 = .ok (.aload_n 0, 1) := by decide +kernel
theorem dX8_type_1 : decode cX8_type 1 = .ok (.getfield 79, 3) := by decide +kernel
theorem dX8_type_4 : decode cX8_type 4 = .ok (.bipush 60, 2) := by decide +kernel
theorem dX8_type_6 : decode cX8_type 6 = .ok (.if_icmp .ne 6, 3) := by decide +kernel
theorem dX8_type_9 : decode cX8_type 9 = .ok (.bipush (-3), 2) := by decide +kernel
theorem dX8_type_11 : decode cX8_type 11 = .ok (.ireturn, 1) := by decide +kernel
theorem dX8_type_12 : decode cX8_type 12 = .ok (.aload_n 0, 1) := by decide +kernel
theorem dX8_type_13 : decode cX8_type 13 = .ok (.getfield 26, 3) := by decide +kernel
theorem dX8_type_16 : decode cX8_type 16 = .ok (.aload_n 0, 1) := by decide +kernel
theorem dX8_type_17 : decode cX8_type 17 = .ok (.getfield 79, 3) := by decide +kernel
theorem dX8_type_20 : decode cX8_type 20 = .ok (.iload_n 1, 1) := by decide +kernel
theorem dX8_type_21 : decode cX8_type 21 = .ok (.castore, 1) := by decide +kernel
theorem dX8_type_22 : decode cX8_type 22 = .ok (.aload_n 0, 1) := by decide +kernel
theorem dX8_type_23 : decode cX8_type 23 = .ok (.dup, 1) := by decide +kernel
theorem dX8_type_24 : decode cX8_type 24 = .ok (.getfield 79, 3) := by decide +kernel
theorem dX8_type_27 : decode cX8_type 27 = .ok (.iconst 1, 1) := by decide +kernel
theorem dX8_type_28 : decode cX8_type 28 = .ok (.iadd, 1) := by decide +kernel
theorem dX8_type_29 : decode cX8_type 29 = .ok (.putfield 79, 3) := by decide +kernel
theorem dX8_type_32 : decode cX8_type 32 = .ok (.aload_n 0, 1) := by decide +kernel
theorem dX8_type_33 : decode cX8_type 33 = .ok (.getfield 79, 3) := by decide +kernel
theorem dX8_type_36 : decode cX8_type 36 = .ok (.ireturn, 1) := by decide +kernel
theorem dX8_clearText_0 : decode cX8_clearText 0 = .ok (.aload_n 0, 1) := by decide +kernel
theorem dX8_clearText_1 : decode cX8_clearText 1 = .ok (.getfield 79, 3) := by decide +kernel
theorem dX8_clearText_4 : decode cX8_clearText 4 = .ok (.istore_n 1, 1) := by decide +kernel
theorem dX8_clearText_5 : decode cX8_clearText 5 = .ok (.aload_n 0, 1) := by decide +kernel
theorem dX8_clearText_6 : decode cX8_clearText 6 = .ok (.iconst 0, 1) := by decide +kernel
theorem dX8_clearText_7 : decode cX8_clearText 7 = .ok (.putfield 79, 3) := by decide +kernel
theorem dX8_clearText_10 : decode cX8_clearText 10 = .ok (.iload_n 1, 1) := by decide +kernel
theorem dX8_clearText_11 : decode cX8_clearText 11 = .ok (.ireturn, 1) := by decide +kernel
theorem dX8_isAt_0 : decode cX8_isAt 0 = .ok (.aload_n 0, 1) := by decide +kernel
theorem dX8_isAt_1 : decode cX8_isAt 1 = .ok (.getfield 82, 3) := by decide +kernel
theorem dX8_isAt_4 : decode cX8_isAt 4 = .ok (.aload_n 0, 1) := by decide +kernel
theorem dX8_isAt_5 : decode cX8_isAt 5 = .ok (.getfield 79, 3) := by decide +kernel
theorem dX8_isAt_8 : decode cX8_isAt 8 = .ok (.if_icmp .ge 33, 3) := by decide +kernel
theorem dX8_isAt_11 : decode cX8_isAt 11 = .ok (.aload_n 0, 1) := by decide +kernel
theorem dX8_isAt_12 : decode cX8_isAt 12 = .ok (.getfield 26, 3) := by decide +kernel
theorem dX8_isAt_15 : decode cX8_isAt 15 = .ok (.aload_n 0, 1) := by decide +kernel
theorem dX8_isAt_16 : decode cX8_isAt 16 = .ok (.getfield 82, 3) := by decide +kernel
theorem dX8_isAt_19 : decode cX8_isAt 19 = .ok (.caload, 1) := by decide +kernel
theorem dX8_isAt_20 : decode cX8_isAt 20 = .ok (.iload_n 1, 1) := by decide +kernel
theorem dX8_isAt_21 : decode cX8_isAt 21 = .ok (.if_icmp .lt 20, 3) := by decide +kernel
theorem dX8_isAt_24 : decode cX8_isAt 24 = .ok (.aload_n 0, 1) := by decide +kernel
theorem dX8_isAt_25 : decode cX8_isAt 25 = .ok (.getfield 26, 3) := by decide +kernel
theorem dX8_isAt_28 : decode cX8_isAt 28 = .ok (.aload_n 0, 1) := by decide +kernel
theorem dX8_isAt_29 : decode cX8_isAt 29 = .ok (.getfield 82, 3) := by decide +kernel
theorem dX8_isAt_32 : decode cX8_isAt 32 = .ok (.caload, 1) := by decide +kernel
theorem dX8_isAt_33 : decode cX8_isAt 33 = .ok (.iload_n 2, 1) := by decide +kernel
theorem dX8_isAt_34 : decode cX8_isAt 34 = .ok (.if_icmp .gt 7, 3) := by decide +kernel
theorem dX8_isAt_37 : decode cX8_isAt 37 = .ok (.iconst 1, 1) := by decide +kernel
theorem dX8_isAt_38 : decode cX8_isAt 38 = .ok (.goto 4, 3) := by decide +kernel
theorem dX8_isAt_41 : decode cX8_isAt 41 = .ok (.iconst 0, 1) := by decide +kernel
theorem dX8_isAt_42 : decode cX8_isAt 42 = .ok (.ireturn, 1) := by decide +kernel
theorem dX8_sortOf_0 : decode cX8_sortOf 0 = .ok (.iload_n 0, 1) := by decide +kernel
theorem dX8_sortOf_1 : decode cX8_sortOf 1 = .ok (.bipush 46, 2) := by decide +kernel
theorem dX8_sortOf_3 : decode cX8_sortOf 3 = .ok (.if_icmp .ne 7, 3) := by decide +kernel
theorem dX8_sortOf_6 : decode cX8_sortOf 6 = .ok (.iconst 0, 1) := by decide +kernel
theorem dX8_sortOf_7 : decode cX8_sortOf 7 = .ok (.goto 25, 3) := by decide +kernel
theorem dX8_sortOf_10 : decode cX8_sortOf 10 = .ok (.iload_n 0, 1) := by decide +kernel
theorem dX8_sortOf_11 : decode cX8_sortOf 11 = .ok (.bipush 45, 2) := by decide +kernel
theorem dX8_sortOf_13 : decode cX8_sortOf 13 = .ok (.if_icmp .ne 7, 3) := by decide +kernel
theorem dX8_sortOf_16 : decode cX8_sortOf 16 = .ok (.iconst 1, 1) := by decide +kernel
theorem dX8_sortOf_17 : decode cX8_sortOf 17 = .ok (.goto 15, 3) := by decide +kernel
theorem dX8_sortOf_20 : decode cX8_sortOf 20 = .ok (.iload_n 0, 1) := by decide +kernel
theorem dX8_sortOf_21 : decode cX8_sortOf 21 = .ok (.bipush 111, 2) := by decide +kernel
theorem dX8_sortOf_23 : decode cX8_sortOf 23 = .ok (.if_icmp .ne 7, 3) := by decide +kernel
theorem dX8_sortOf_26 : decode cX8_sortOf 26 = .ok (.iconst 2, 1) := by decide +kernel
theorem dX8_sortOf_27 : decode cX8_sortOf 27 = .ok (.goto 5, 3) := by decide +kernel
theorem dX8_sortOf_30 : decode cX8_sortOf 30 = .ok (.bipush (-5), 2) := by decide +kernel
theorem dX8_sortOf_32 : decode cX8_sortOf 32 = .ok (.ireturn, 1) := by decide +kernel
set_option maxRecDepth 20000 in
theorem ggX8_times_X8_isAt : GoodIn wsX8_times wsX8_isAt := goodIn_r _ [7, 2, 8, 1, 9, 10, 11, 12, 13, 14, 15, 16, 17, 18, 19, 20, 21, 22, 23, 24, 25, 26, 27, 28] (by decide +kernel) (by decide +kernel)
set_option maxRecDepth 20000 in
theorem gX8_times_X8_isAt : GoodIn wsX8_times (wsV RX8 85 RX8 yX8_isAt wsX8_isAt) := goodIn_app (goodIn_of _ (by decide +kernel)) ggX8_times_X8_isAt
theorem dX8_times_0 : decode cX8_times 0 = .ok (.aload_n 0, 1) := by decide +kernel
theorem dX8_times_1 : decode cX8_times 1 = .ok (.bipush 49, 2) := by decide +kernel
theorem dX8_times_3 : decode cX8_times 3 = .ok (.bipush 57, 2) := by decide +kernel
theorem dX8_times_5 : decode cX8_times 5 = .ok (.invokevirtual 85, 3) := by decide +kernel
theorem dX8_times_8 : decode cX8_times 8 = .ok (.ifCond .ne 6, 3) := by decide +kernel
theorem dX8_times_11 : decode cX8_times 11 = .ok (.bipush (-5), 2) := by decide +kernel
theorem dX8_times_13 : decode cX8_times 13 = .ok (.ireturn, 1) := by decide +kernel
theorem dX8_times_14 : decode cX8_times 14 = .ok (.aload_n 0, 1) := by decide +kernel
theorem dX8_times_15 : decode cX8_times 15 = .ok (.getfield 26, 3) := by decide +kernel
theorem dX8_times_18 : decode cX8_times 18 = .ok (.aload_n 0, 1) := by decide +kernel
theorem dX8_times_19 : decode cX8_times 19 = .ok (.getfield 82, 3) := by decide +kernel
theorem dX8_times_22 : decode cX8_times 22 = .ok (.caload, 1) := by decide +kernel
theorem dX8_times_23 : decode cX8_times 23 = .ok (.bipush 48, 2) := by decide +kernel
theorem dX8_times_25 : decode cX8_times 25 = .ok (.isub, 1) := by decide +kernel
theorem dX8_times_26 : decode cX8_times 26 = .ok (.istore_n 1, 1) := by decide +kernel
theorem dX8_times_27 : decode cX8_times 27 = .ok (.aload_n 0, 1) := by decide +kernel
theorem dX8_times_28 : decode cX8_times 28 = .ok (.dup, 1) := by decide +kernel
theorem dX8_times_29 : decode cX8_times 29 = .ok (.getfield 82, 3) := by decide +kernel
theorem dX8_times_32 : decode cX8_times 32 = .ok (.iconst 1, 1) := by decide +kernel
theorem dX8_times_33 : decode cX8_times 33 = .ok (.iadd, 1) := by decide +kernel
theorem dX8_times_34 : decode cX8_times 34 = .ok (.putfield 82, 3) := by decide +kernel
theorem dX8_times_37 : decode cX8_times 37 = .ok (.aload_n 0, 1) := by decide +kernel
theorem dX8_times_38 : decode cX8_times 38 = .ok (.bipush 48, 2) := by decide +kernel
theorem dX8_times_40 : decode cX8_times 40 = .ok (.bipush 57, 2) := by decide +kernel
theorem dX8_times_42 : decode cX8_times 42 = .ok (.invokevirtual 85, 3) := by decide +kernel
theorem dX8_times_45 : decode cX8_times 45 = .ok (.ifCond .eq 53, 3) := by decide +kernel
theorem dX8_times_48 : decode cX8_times 48 = .ok (.bipush 10, 2) := by decide +kernel
theorem dX8_times_50 : decode cX8_times 50 = .ok (.iload_n 1, 1) := by decide +kernel
theorem dX8_times_51 : decode cX8_times 51 = .ok (.imul, 1) := by decide +kernel
theorem dX8_times_52 : decode cX8_times 52 = .ok (.aload_n 0, 1) := by decide +kernel
theorem dX8_times_53 : decode cX8_times 53 = .ok (.getfield 26, 3) := by decide +kernel
theorem dX8_times_56 : decode cX8_times 56 = .ok (.aload_n 0, 1) := by decide +kernel
theorem dX8_times_57 : decode cX8_times 57 = .ok (.getfield 82, 3) := by decide +kernel
theorem dX8_times_60 : decode cX8_times 60 = .ok (.caload, 1) := by decide +kernel
theorem dX8_times_61 : decode cX8_times 61 = .ok (.iadd, 1) := by decide +kernel
theorem dX8_times_62 : decode cX8_times 62 = .ok (.bipush 48, 2) := by decide +kernel
theorem dX8_times_64 : decode cX8_times 64 = .ok (.isub, 1) := by decide +kernel
theorem dX8_times_65 : decode cX8_times 65 = .ok (.bipush 96, 2) := by decide +kernel
theorem dX8_times_67 : decode cX8_times 67 = .ok (.if_icmp .gt 31, 3) := by decide +kernel
theorem dX8_times_70 : decode cX8_times 70 = .ok (.bipush 10, 2) := by decide +kernel
theorem dX8_times_72 : decode cX8_times 72 = .ok (.iload_n 1, 1) := by decide +kernel
theorem dX8_times_73 : decode cX8_times 73 = .ok (.imul, 1) := by decide +kernel
theorem dX8_times_74 : decode cX8_times 74 = .ok (.aload_n 0, 1) := by decide +kernel
theorem dX8_times_75 : decode cX8_times 75 = .ok (.getfield 26, 3) := by decide +kernel
theorem dX8_times_78 : decode cX8_times 78 = .ok (.aload_n 0, 1) := by decide +kernel
theorem dX8_times_79 : decode cX8_times 79 = .ok (.getfield 82, 3) := by decide +kernel
theorem dX8_times_82 : decode cX8_times 82 = .ok (.caload, 1) := by decide +kernel
theorem dX8_times_83 : decode cX8_times 83 = .ok (.iadd, 1) := by decide +kernel
theorem dX8_times_84 : decode cX8_times 84 = .ok (.bipush 48, 2) := by decide +kernel
theorem dX8_times_86 : decode cX8_times 86 = .ok (.isub, 1) := by decide +kernel
theorem dX8_times_87 : decode cX8_times 87 = .ok (.istore_n 1, 1) := by decide +kernel
theorem dX8_times_88 : decode cX8_times 88 = .ok (.aload_n 0, 1) := by decide +kernel
theorem dX8_times_89 : decode cX8_times 89 = .ok (.dup, 1) := by decide +kernel
theorem dX8_times_90 : decode cX8_times 90 = .ok (.getfield 82, 3) := by decide +kernel
theorem dX8_times_93 : decode cX8_times 93 = .ok (.iconst 1, 1) := by decide +kernel
theorem dX8_times_94 : decode cX8_times 94 = .ok (.iadd, 1) := by decide +kernel
theorem dX8_times_95 : decode cX8_times 95 = .ok (.putfield 82, 3) := by decide +kernel
theorem dX8_times_98 : decode cX8_times 98 = .ok (.iload_n 1, 1) := by decide +kernel
theorem dX8_times_99 : decode cX8_times 99 = .ok (.iconst 2, 1) := by decide +kernel
theorem dX8_times_100 : decode cX8_times 100 = .ok (.if_icmp .lt 14, 3) := by decide +kernel
theorem dX8_times_103 : decode cX8_times 103 = .ok (.aload_n 0, 1) := by decide +kernel
theorem dX8_times_104 : decode cX8_times 104 = .ok (.bipush 48, 2) := by decide +kernel
theorem dX8_times_106 : decode cX8_times 106 = .ok (.bipush 57, 2) := by decide +kernel
theorem dX8_times_108 : decode cX8_times 108 = .ok (.invokevirtual 85, 3) := by decide +kernel
theorem dX8_times_111 : decode cX8_times 111 = .ok (.ifCond .eq 8, 3) := by decide +kernel
theorem dX8_times_114 : decode cX8_times 114 = .ok (.bipush (-5), 2) := by decide +kernel
theorem dX8_times_116 : decode cX8_times 116 = .ok (.goto 4, 3) := by decide +kernel
theorem dX8_times_119 : decode cX8_times 119 = .ok (.iload_n 1, 1) := by decide +kernel
theorem dX8_times_120 : decode cX8_times 120 = .ok (.ireturn, 1) := by decide +kernel
set_option maxRecDepth 20000 in
theorem ggX8_readText_X8_sortOf : GoodIn wsX8_readText wsX8_sortOf := goodIn_r _ [11] (by decide +kernel) (by decide +kernel)
set_option maxRecDepth 20000 in
theorem gX8_readText_X8_sortOf : GoodIn wsX8_readText (va_wsS RX8 89 yX8_sortOf wsX8_sortOf) := goodIn_app (goodIn_of _ (by decide +kernel)) ggX8_readText_X8_sortOf
set_option maxRecDepth 20000 in
theorem ggX8_readText_X8_isAt : GoodIn wsX8_readText wsX8_isAt := goodIn_r _ [15, 1, 2, 3, 20, 21, 22, 23, 24, 25, 26, 27, 28, 29, 30, 31, 32, 33, 34, 35, 36, 37, 38, 39] (by decide +kernel) (by decide +kernel)
set_option maxRecDepth 20000 in
theorem gX8_readText_X8_isAt : GoodIn wsX8_readText (wsV RX8 85 RX8 yX8_isAt wsX8_isAt) := goodIn_app (goodIn_of _ (by decide +kernel)) ggX8_readText_X8_isAt
set_option maxRecDepth 20000 in
theorem ggX8_readText_X8_times : GoodIn wsX8_readText wsX8_times := goodIn_r _ [19, 3, 1, 12, 13, 14, 10, 15, 2, 20, 21, 22, 23, 24, 25, 26, 27, 28, 29, 30, 31, 32, 33, 34, 35, 36, 37, 38, 39] (by decide +kernel) (by decide +kernel)
set_option maxRecDepth 20000 in
theorem gX8_readText_X8_times : GoodIn wsX8_readText (wsV RX8 93 RX8 yX8_times wsX8_times) := goodIn_app (goodIn_of _ (by decide +kernel)) ggX8_readText_X8_times
theorem dX8_readText_0 : decode cX8_readText 0 = .ok (.aload_n 0, 1) := by decide +kernel
theorem dX8_readText_1 : decode cX8_readText 1 = .ok (.iconst 0, 1) := by decide +kernel
theorem dX8_readText_2 : decode cX8_readText 2 = .ok (.putfield 82, 3) := by decide +kernel
theorem dX8_readText_5 : decode cX8_readText 5 = .ok (.iconst 0, 1) := by decide +kernel
theorem dX8_readText_6 : decode cX8_readText 6 = .ok (.istore_n 1, 1) := by decide +kernel
theorem dX8_readText_7 : decode cX8_readText 7 = .ok (.iconst 0, 1) := by decide +kernel
theorem dX8_readText_8 : decode cX8_readText 8 = .ok (.istore_n 2, 1) := by decide +kernel
theorem dX8_readText_9 : decode cX8_readText 9 = .ok (.bipush (-5), 2) := by decide +kernel
theorem dX8_readText_11 : decode cX8_readText 11 = .ok (.istore_n 3, 1) := by decide +kernel
theorem dX8_readText_12 : decode cX8_readText 12 = .ok (.aload_n 0, 1) := by decide +kernel
theorem dX8_readText_13 : decode cX8_readText 13 = .ok (.getfield 82, 3) := by decide +kernel
theorem dX8_readText_16 : decode cX8_readText 16 = .ok (.aload_n 0, 1) := by decide +kernel
theorem dX8_readText_17 : decode cX8_readText 17 = .ok (.getfield 79, 3) := by decide +kernel
theorem dX8_readText_20 : decode cX8_readText 20 = .ok (.if_icmp .lt 10, 3) := by decide +kernel
theorem dX8_readText_23 : decode cX8_readText 23 = .ok (.aload_n 0, 1) := by decide +kernel
theorem dX8_readText_24 : decode cX8_readText 24 = .ok (.getfield 82, 3) := by decide +kernel
theorem dX8_readText_27 : decode cX8_readText 27 = .ok (.ifCond .ne 207, 3) := by decide +kernel
theorem dX8_readText_30 : decode cX8_readText 30 = .ok (.aload_n 0, 1) := by decide +kernel
theorem dX8_readText_31 : decode cX8_readText 31 = .ok (.getfield 82, 3) := by decide +kernel
theorem dX8_readText_34 : decode cX8_readText 34 = .ok (.aload_n 0, 1) := by decide +kernel
theorem dX8_readText_35 : decode cX8_readText 35 = .ok (.getfield 79, 3) := by decide +kernel
theorem dX8_readText_38 : decode cX8_readText 38 = .ok (.if_icmp .eq 18, 3) := by decide +kernel
theorem dX8_readText_41 : decode cX8_readText 41 = .ok (.aload_n 0, 1) := by decide +kernel
theorem dX8_readText_42 : decode cX8_readText 42 = .ok (.getfield 26, 3) := by decide +kernel
theorem dX8_readText_45 : decode cX8_readText 45 = .ok (.aload_n 0, 1) := by decide +kernel
theorem dX8_readText_46 : decode cX8_readText 46 = .ok (.getfield 82, 3) := by decide +kernel
theorem dX8_readText_49 : decode cX8_readText 49 = .ok (.caload, 1) := by decide +kernel
theorem dX8_readText_50 : decode cX8_readText 50 = .ok (.invokestatic 89, 3) := by decide +kernel
theorem dX8_readText_53 : decode cX8_readText 53 = .ok (.ifCond .ge 8, 3) := by decide +kernel
theorem dX8_readText_56 : decode cX8_readText 56 = .ok (.aload_n 0, 1) := by decide +kernel
theorem dX8_readText_57 : decode cX8_readText 57 = .ok (.getfield 82, 3) := by decide +kernel
theorem dX8_readText_60 : decode cX8_readText 60 = .ok (.ireturn, 1) := by decide +kernel
theorem dX8_readText_61 : decode cX8_readText 61 = .ok (.aload_n 0, 1) := by decide +kernel
theorem dX8_readText_62 : decode cX8_readText 62 = .ok (.getfield 82, 3) := by decide +kernel
theorem dX8_readText_65 : decode cX8_readText 65 = .ok (.istore 4, 2) := by decide +kernel
theorem dX8_readText_67 : decode cX8_readText 67 = .ok (.aload_n 0, 1) := by decide +kernel
theorem dX8_readText_68 : decode cX8_readText 68 = .ok (.getfield 30, 3) := by decide +kernel
theorem dX8_readText_71 : decode cX8_readText 71 = .ok (.iload_n 1, 1) := by decide +kernel
theorem dX8_readText_72 : decode cX8_readText 72 = .ok (.aload_n 0, 1) := by decide +kernel
theorem dX8_readText_73 : decode cX8_readText 73 = .ok (.getfield 26, 3) := by decide +kernel
theorem dX8_readText_76 : decode cX8_readText 76 = .ok (.aload_n 0, 1) := by decide +kernel
theorem dX8_readText_77 : decode cX8_readText 77 = .ok (.getfield 82, 3) := by decide +kernel
theorem dX8_readText_80 : decode cX8_readText 80 = .ok (.caload, 1) := by decide +kernel
theorem dX8_readText_81 : decode cX8_readText 81 = .ok (.invokestatic 89, 3) := by decide +kernel
theorem dX8_readText_84 : decode cX8_readText 84 = .ok (.iastore, 1) := by decide +kernel
theorem dX8_readText_85 : decode cX8_readText 85 = .ok (.aload_n 0, 1) := by decide +kernel
theorem dX8_readText_86 : decode cX8_readText 86 = .ok (.getfield 33, 3) := by decide +kernel
theorem dX8_readText_89 : decode cX8_readText 89 = .ok (.iload_n 1, 1) := by decide +kernel
theorem dX8_readText_90 : decode cX8_readText 90 = .ok (.iconst 2, 1) := by decide +kernel
theorem dX8_readText_91 : decode cX8_readText 91 = .ok (.iastore, 1) := by decide +kernel
theorem dX8_readText_92 : decode cX8_readText 92 = .ok (.aload_n 0, 1) := by decide +kernel
theorem dX8_readText_93 : decode cX8_readText 93 = .ok (.getfield 36, 3) := by decide +kernel
theorem dX8_readText_96 : decode cX8_readText 96 = .ok (.iload_n 1, 1) := by decide +kernel
theorem dX8_readText_97 : decode cX8_readText 97 = .ok (.iconst 1, 1) := by decide +kernel
theorem dX8_readText_98 : decode cX8_readText 98 = .ok (.iastore, 1) := by decide +kernel
theorem dX8_readText_99 : decode cX8_readText 99 = .ok (.aload_n 0, 1) := by decide +kernel
theorem dX8_readText_100 : decode cX8_readText 100 = .ok (.dup, 1) := by decide +kernel
theorem dX8_readText_101 : decode cX8_readText 101 = .ok (.getfield 82, 3) := by decide +kernel
theorem dX8_readText_104 : decode cX8_readText 104 = .ok (.iconst 1, 1) := by decide +kernel
theorem dX8_readText_105 : decode cX8_readText 105 = .ok (.iadd, 1) := by decide +kernel
theorem dX8_readText_106 : decode cX8_readText 106 = .ok (.putfield 82, 3) := by decide +kernel
theorem dX8_readText_109 : decode cX8_readText 109 = .ok (.aload_n 0, 1) := by decide +kernel
theorem dX8_readText_110 : decode cX8_readText 110 = .ok (.getfield 30, 3) := by decide +kernel
theorem dX8_readText_113 : decode cX8_readText 113 = .ok (.iload_n 1, 1) := by decide +kernel
theorem dX8_readText_114 : decode cX8_readText 114 = .ok (.iaload, 1) := by decide +kernel
theorem dX8_readText_115 : decode cX8_readText 115 = .ok (.ifCond .le 42, 3) := by decide +kernel
theorem dX8_readText_118 : decode cX8_readText 118 = .ok (.aload_n 0, 1) := by decide +kernel
theorem dX8_readText_119 : decode cX8_readText 119 = .ok (.bipush 49, 2) := by decide +kernel
theorem dX8_readText_121 : decode cX8_readText 121 = .ok (.bipush 53, 2) := by decide +kernel
theorem dX8_readText_123 : decode cX8_readText 123 = .ok (.invokevirtual 85, 3) := by decide +kernel
theorem dX8_readText_126 : decode cX8_readText 126 = .ok (.ifCond .eq 31, 3) := by decide +kernel
theorem dX8_readText_129 : decode cX8_readText 129 = .ok (.aload_n 0, 1) := by decide +kernel
theorem dX8_readText_130 : decode cX8_readText 130 = .ok (.getfield 33, 3) := by decide +kernel
theorem dX8_readText_133 : decode cX8_readText 133 = .ok (.iload_n 1, 1) := by decide +kernel
theorem dX8_readText_134 : decode cX8_readText 134 = .ok (.aload_n 0, 1) := by decide +kernel
theorem dX8_readText_135 : decode cX8_readText 135 = .ok (.getfield 26, 3) := by decide +kernel
theorem dX8_readText_138 : decode cX8_readText 138 = .ok (.aload_n 0, 1) := by decide +kernel
theorem dX8_readText_139 : decode cX8_readText 139 = .ok (.getfield 82, 3) := by decide +kernel
theorem dX8_readText_142 : decode cX8_readText 142 = .ok (.caload, 1) := by decide +kernel
theorem dX8_readText_143 : decode cX8_readText 143 = .ok (.bipush 48, 2) := by decide +kernel
theorem dX8_readText_145 : decode cX8_readText 145 = .ok (.isub, 1) := by decide +kernel
theorem dX8_readText_146 : decode cX8_readText 146 = .ok (.iastore, 1) := by decide +kernel
theorem dX8_readText_147 : decode cX8_readText 147 = .ok (.aload_n 0, 1) := by decide +kernel
theorem dX8_readText_148 : decode cX8_readText 148 = .ok (.dup, 1) := by decide +kernel
theorem dX8_readText_149 : decode cX8_readText 149 = .ok (.getfield 82, 3) := by decide +kernel
theorem dX8_readText_152 : decode cX8_readText 152 = .ok (.iconst 1, 1) := by decide +kernel
theorem dX8_readText_153 : decode cX8_readText 153 = .ok (.iadd, 1) := by decide +kernel
theorem dX8_readText_154 : decode cX8_readText 154 = .ok (.putfield 82, 3) := by decide +kernel
theorem dX8_readText_157 : decode cX8_readText 157 = .ok (.aload_n 0, 1) := by decide +kernel
theorem dX8_readText_158 : decode cX8_readText 158 = .ok (.bipush 120, 2) := by decide +kernel
theorem dX8_readText_160 : decode cX8_readText 160 = .ok (.bipush 120, 2) := by decide +kernel
theorem dX8_readText_162 : decode cX8_readText 162 = .ok (.invokevirtual 85, 3) := by decide +kernel
theorem dX8_readText_165 : decode cX8_readText 165 = .ok (.ifCond .eq 37, 3) := by decide +kernel
theorem dX8_readText_168 : decode cX8_readText 168 = .ok (.aload_n 0, 1) := by decide +kernel
theorem dX8_readText_169 : decode cX8_readText 169 = .ok (.dup, 1) := by decide +kernel
theorem dX8_readText_170 : decode cX8_readText 170 = .ok (.getfield 82, 3) := by decide +kernel
theorem dX8_readText_173 : decode cX8_readText 173 = .ok (.iconst 1, 1) := by decide +kernel
theorem dX8_readText_174 : decode cX8_readText 174 = .ok (.iadd, 1) := by decide +kernel
theorem dX8_readText_175 : decode cX8_readText 175 = .ok (.putfield 82, 3) := by decide +kernel
theorem dX8_readText_178 : decode cX8_readText 178 = .ok (.aload_n 0, 1) := by decide +kernel
theorem dX8_readText_179 : decode cX8_readText 179 = .ok (.getfield 36, 3) := by decide +kernel
theorem dX8_readText_182 : decode cX8_readText 182 = .ok (.iload_n 1, 1) := by decide +kernel
theorem dX8_readText_183 : decode cX8_readText 183 = .ok (.aload_n 0, 1) := by decide +kernel
theorem dX8_readText_184 : decode cX8_readText 184 = .ok (.invokevirtual 93, 3) := by decide +kernel
theorem dX8_readText_187 : decode cX8_readText 187 = .ok (.iastore, 1) := by decide +kernel
theorem dX8_readText_188 : decode cX8_readText 188 = .ok (.aload_n 0, 1) := by decide +kernel
theorem dX8_readText_189 : decode cX8_readText 189 = .ok (.getfield 36, 3) := by decide +kernel
theorem dX8_readText_192 : decode cX8_readText 192 = .ok (.iload_n 1, 1) := by decide +kernel
theorem dX8_readText_193 : decode cX8_readText 193 = .ok (.iaload, 1) := by decide +kernel
theorem dX8_readText_194 : decode cX8_readText 194 = .ok (.ifCond .ge 8, 3) := by decide +kernel
theorem dX8_readText_197 : decode cX8_readText 197 = .ok (.aload_n 0, 1) := by decide +kernel
theorem dX8_readText_198 : decode cX8_readText 198 = .ok (.getfield 82, 3) := by decide +kernel
theorem dX8_readText_201 : decode cX8_readText 201 = .ok (.ireturn, 1) := by decide +kernel
theorem dX8_readText_202 : decode cX8_readText 202 = .ok (.iload_n 2, 1) := by decide +kernel
theorem dX8_readText_203 : decode cX8_readText 203 = .ok (.aload_n 0, 1) := by decide +kernel
theorem dX8_readText_204 : decode cX8_readText 204 = .ok (.getfield 36, 3) := by decide +kernel
theorem dX8_readText_207 : decode cX8_readText 207 = .ok (.iload_n 1, 1) := by decide +kernel
theorem dX8_readText_208 : decode cX8_readText 208 = .ok (.iaload, 1) := by decide +kernel
theorem dX8_readText_209 : decode cX8_readText 209 = .ok (.iadd, 1) := by decide +kernel
theorem dX8_readText_210 : decode cX8_readText 210 = .ok (.istore_n 2, 1) := by decide +kernel
theorem dX8_readText_211 : decode cX8_readText 211 = .ok (.iload_n 2, 1) := by decide +kernel
theorem dX8_readText_212 : decode cX8_readText 212 = .ok (.bipush 96, 2) := by decide +kernel
theorem dX8_readText_214 : decode cX8_readText 214 = .ok (.if_icmp .le 12, 3) := by decide +kernel
theorem dX8_readText_217 : decode cX8_readText 217 = .ok (.iload_n 3, 1) := by decide +kernel
theorem dX8_readText_218 : decode cX8_readText 218 = .ok (.ifCond .ge 8, 3) := by decide +kernel
theorem dX8_readText_221 : decode cX8_readText 221 = .ok (.iload 4, 2) := by decide +kernel
theorem dX8_readText_223 : decode cX8_readText 223 = .ok (.goto 4, 3) := by decide +kernel
theorem dX8_readText_226 : decode cX8_readText 226 = .ok (.iload_n 3, 1) := by decide +kernel
theorem dX8_readText_227 : decode cX8_readText 227 = .ok (.istore_n 3, 1) := by decide +kernel
theorem dX8_readText_228 : decode cX8_readText 228 = .ok (.iinc 1 1, 3) := by decide +kernel
theorem dX8_readText_231 : decode cX8_readText 231 = .ok (.goto (-219), 3) := by decide +kernel
theorem dX8_readText_234 : decode cX8_readText 234 = .ok (.aload_n 0, 1) := by decide +kernel
theorem dX8_readText_235 : decode cX8_readText 235 = .ok (.iload_n 1, 1) := by decide +kernel
theorem dX8_readText_236 : decode cX8_readText 236 = .ok (.putfield 96, 3) := by decide +kernel
theorem dX8_readText_239 : decode cX8_readText 239 = .ok (.iload_n 3, 1) := by decide +kernel
theorem dX8_readText_240 : decode cX8_readText 240 = .ok (.ireturn, 1) := by decide +kernel
set_option maxRecDepth 20000 in
theorem ggX8_read_X8_readText : GoodIn wsX8_read wsX8_readText := goodIn_r _ [10, 11, 12, 13, 4, 5, 2, 1, 14, 15, 9, 16, 17, 18, 19, 20, 21, 22, 23, 24, 40, 41, 42, 43, 44, 45, 46, 47, 48, 49, 50, 51, 52, 53, 54, 55, 56, 57, 58, 59] (by decide +kernel) (by decide +kernel)
set_option maxRecDepth 20000 in
theorem gX8_read_X8_readText : GoodIn wsX8_read (wsV RX8 99 RX8 yX8_readText wsX8_readText) := goodIn_app (goodIn_of _ (by decide +kernel)) ggX8_read_X8_readText
set_option maxRecDepth 20000 in
theorem ggX8_read_X8_begin : GoodIn wsX8_read wsX8_begin := goodIn_r _ [28, 29, 3, 40, 41, 42, 43, 44, 45, 46, 47, 48, 49, 50, 51, 52, 53, 54, 55, 56, 57, 58, 59] (by decide +kernel) (by decide +kernel)
set_option maxRecDepth 20000 in
theorem gX8_read_X8_begin : GoodIn wsX8_read (wsV RX8 69 RX8 yX8_begin wsX8_begin) := goodIn_app (goodIn_of _ (by decide +kernel)) ggX8_read_X8_begin
set_option maxRecDepth 20000 in
theorem ggX8_read_X8_clearMarks : GoodIn wsX8_read wsX8_clearMarks := goodIn_r _ [33, 3, 40, 41, 42, 43, 44, 45, 46, 47, 48, 49, 50, 51, 52, 53, 54, 55, 56, 57, 58, 59] (by decide +kernel) (by decide +kernel)
set_option maxRecDepth 20000 in
theorem gX8_read_X8_clearMarks : GoodIn wsX8_read (wsV RX8 102 RX8 yX8_clearMarks wsX8_clearMarks) := goodIn_app (goodIn_of _ (by decide +kernel)) ggX8_read_X8_clearMarks
set_option maxRecDepth 20000 in
theorem ggX8_read_X8_done : GoodIn wsX8_read wsX8_done := goodIn_r _ [37, 38, 39, 29, 40, 41, 42, 43, 44, 45, 46, 47, 48, 49, 50, 51, 52, 53, 54, 55, 56, 57, 58, 59] (by decide +kernel) (by decide +kernel)
set_option maxRecDepth 20000 in
theorem gX8_read_X8_done : GoodIn wsX8_read (wsV RX8 72 RX8 yX8_done wsX8_done) := goodIn_app (goodIn_of _ (by decide +kernel)) ggX8_read_X8_done
theorem dX8_read_0 : decode cX8_read 0 = .ok (.aload_n 0, 1) := by decide +kernel
theorem dX8_read_1 : decode cX8_read 1 = .ok (.invokevirtual 99, 3) := by decide +kernel
theorem dX8_read_4 : decode cX8_read 4 = .ok (.istore_n 1, 1) := by decide +kernel
theorem dX8_read_5 : decode cX8_read 5 = .ok (.iload_n 1, 1) := by decide +kernel
theorem dX8_read_6 : decode cX8_read 6 = .ok (.ifCond .lt 8, 3) := by decide +kernel
theorem dX8_read_9 : decode cX8_read 9 = .ok (.bipush (-100), 2) := by decide +kernel
theorem dX8_read_11 : decode cX8_read 11 = .ok (.iload_n 1, 1) := by decide +kernel
theorem dX8_read_12 : decode cX8_read 12 = .ok (.isub, 1) := by decide +kernel
theorem dX8_read_13 : decode cX8_read 13 = .ok (.ireturn, 1) := by decide +kernel
theorem dX8_read_14 : decode cX8_read 14 = .ok (.aload_n 0, 1) := by decide +kernel
theorem dX8_read_15 : decode cX8_read 15 = .ok (.invokevirtual 69, 3) := by decide +kernel
theorem dX8_read_18 : decode cX8_read 18 = .ok (.iconst 0, 1) := by decide +kernel
theorem dX8_read_19 : decode cX8_read 19 = .ok (.istore_n 2, 1) := by decide +kernel
theorem dX8_read_20 : decode cX8_read 20 = .ok (.iconst 0, 1) := by decide +kernel
theorem dX8_read_21 : decode cX8_read 21 = .ok (.istore_n 3, 1) := by decide +kernel
theorem dX8_read_22 : decode cX8_read 22 = .ok (.iload_n 3, 1) := by decide +kernel
theorem dX8_read_23 : decode cX8_read 23 = .ok (.aload_n 0, 1) := by decide +kernel
theorem dX8_read_24 : decode cX8_read 24 = .ok (.getfield 96, 3) := by decide +kernel
theorem dX8_read_27 : decode cX8_read 27 = .ok (.if_icmp .ge 61, 3) := by decide +kernel
theorem dX8_read_30 : decode cX8_read 30 = .ok (.iconst 0, 1) := by decide +kernel
theorem dX8_read_31 : decode cX8_read 31 = .ok (.istore 4, 2) := by decide +kernel
theorem dX8_read_33 : decode cX8_read 33 = .ok (.iload 4, 2) := by decide +kernel
theorem dX8_read_35 : decode cX8_read 35 = .ok (.aload_n 0, 1) := by decide +kernel
theorem dX8_read_36 : decode cX8_read 36 = .ok (.getfield 36, 3) := by decide +kernel
theorem dX8_read_39 : decode cX8_read 39 = .ok (.iload_n 3, 1) := by decide +kernel
theorem dX8_read_40 : decode cX8_read 40 = .ok (.iaload, 1) := by decide +kernel
theorem dX8_read_41 : decode cX8_read 41 = .ok (.if_icmp .ge 41, 3) := by decide +kernel
theorem dX8_read_44 : decode cX8_read 44 = .ok (.aload_n 0, 1) := by decide +kernel
theorem dX8_read_45 : decode cX8_read 45 = .ok (.getfield 7, 3) := by decide +kernel
theorem dX8_read_48 : decode cX8_read 48 = .ok (.iconst 4, 1) := by decide +kernel
theorem dX8_read_49 : decode cX8_read 49 = .ok (.iload_n 2, 1) := by decide +kernel
theorem dX8_read_50 : decode cX8_read 50 = .ok (.iadd, 1) := by decide +kernel
theorem dX8_read_51 : decode cX8_read 51 = .ok (.aload_n 0, 1) := by decide +kernel
theorem dX8_read_52 : decode cX8_read 52 = .ok (.getfield 30, 3) := by decide +kernel
theorem dX8_read_55 : decode cX8_read 55 = .ok (.iload_n 3, 1) := by decide +kernel
theorem dX8_read_56 : decode cX8_read 56 = .ok (.iaload, 1) := by decide +kernel
theorem dX8_read_57 : decode cX8_read 57 = .ok (.iastore, 1) := by decide +kernel
theorem dX8_read_58 : decode cX8_read 58 = .ok (.aload_n 0, 1) := by decide +kernel
theorem dX8_read_59 : decode cX8_read 59 = .ok (.getfield 7, 3) := by decide +kernel
theorem dX8_read_62 : decode cX8_read 62 = .ok (.bipush 100, 2) := by decide +kernel
theorem dX8_read_64 : decode cX8_read 64 = .ok (.iload_n 2, 1) := by decide +kernel
theorem dX8_read_65 : decode cX8_read 65 = .ok (.iadd, 1) := by decide +kernel
theorem dX8_read_66 : decode cX8_read 66 = .ok (.aload_n 0, 1) := by decide +kernel
theorem dX8_read_67 : decode cX8_read 67 = .ok (.getfield 33, 3) := by decide +kernel
theorem dX8_read_70 : decode cX8_read 70 = .ok (.iload_n 3, 1) := by decide +kernel
theorem dX8_read_71 : decode cX8_read 71 = .ok (.iaload, 1) := by decide +kernel
theorem dX8_read_72 : decode cX8_read 72 = .ok (.iastore, 1) := by decide +kernel
theorem dX8_read_73 : decode cX8_read 73 = .ok (.iinc 2 1, 3) := by decide +kernel
theorem dX8_read_76 : decode cX8_read 76 = .ok (.iinc 4 1, 3) := by decide +kernel
theorem dX8_read_79 : decode cX8_read 79 = .ok (.goto (-46), 3) := by decide +kernel
theorem dX8_read_82 : decode cX8_read 82 = .ok (.iinc 3 1, 3) := by decide +kernel
theorem dX8_read_85 : decode cX8_read 85 = .ok (.goto (-63), 3) := by decide +kernel
theorem dX8_read_88 : decode cX8_read 88 = .ok (.aload_n 0, 1) := by decide +kernel
theorem dX8_read_89 : decode cX8_read 89 = .ok (.getfield 7, 3) := by decide +kernel
theorem dX8_read_92 : decode cX8_read 92 = .ok (.iconst 0, 1) := by decide +kernel
theorem dX8_read_93 : decode cX8_read 93 = .ok (.iload_n 2, 1) := by decide +kernel
theorem dX8_read_94 : decode cX8_read 94 = .ok (.iastore, 1) := by decide +kernel
theorem dX8_read_95 : decode cX8_read 95 = .ok (.aload_n 0, 1) := by decide +kernel
theorem dX8_read_96 : decode cX8_read 96 = .ok (.getfield 7, 3) := by decide +kernel
theorem dX8_read_99 : decode cX8_read 99 = .ok (.iconst 2, 1) := by decide +kernel
theorem dX8_read_100 : decode cX8_read 100 = .ok (.iconst 0, 1) := by decide +kernel
theorem dX8_read_101 : decode cX8_read 101 = .ok (.iastore, 1) := by decide +kernel
theorem dX8_read_102 : decode cX8_read 102 = .ok (.aload_n 0, 1) := by decide +kernel
theorem dX8_read_103 : decode cX8_read 103 = .ok (.invokevirtual 102, 3) := by decide +kernel
theorem dX8_read_106 : decode cX8_read 106 = .ok (.aload_n 0, 1) := by decide +kernel
theorem dX8_read_107 : decode cX8_read 107 = .ok (.iload_n 2, 1) := by decide +kernel
theorem dX8_read_108 : decode cX8_read 108 = .ok (.invokevirtual 72, 3) := by decide +kernel
theorem dX8_read_111 : decode cX8_read 111 = .ok (.ireturn, 1) := by decide +kernel
set_option maxRecDepth 20000 in
theorem ggX8_setLoudness_X8_noBeat : GoodIn wsX8_setLoudness wsX8_noBeat := goodIn_r _ [6, 7, 8, 9, 5, 10, 1, 11, 12, 13, 29, 30, 31, 32, 33, 34, 35, 36, 37, 38, 39, 40, 41, 42, 43, 44, 45, 46, 47, 48] (by decide +kernel) (by decide +kernel)
set_option maxRecDepth 20000 in
theorem gX8_setLoudness_X8_noBeat : GoodIn wsX8_setLoudness (wsV RX8 105 RX8 yX8_noBeat wsX8_noBeat) := goodIn_app (goodIn_of _ (by decide +kernel)) ggX8_setLoudness_X8_noBeat
set_option maxRecDepth 20000 in
theorem ggX8_setLoudness_X8_in : GoodIn wsX8_setLoudness wsX8_in := goodIn_r _ [13] (by decide +kernel) (by decide +kernel)
set_option maxRecDepth 20000 in
theorem gX8_setLoudness_X8_in : GoodIn wsX8_setLoudness (va_wsS RX8 61 yX8_in wsX8_in) := goodIn_app (goodIn_of _ (by decide +kernel)) ggX8_setLoudness_X8_in
set_option maxRecDepth 20000 in
theorem ggX8_setLoudness_X8_begin : GoodIn wsX8_setLoudness wsX8_begin := goodIn_r _ [17, 18, 1, 29, 30, 31, 32, 33, 34, 35, 36, 37, 38, 39, 40, 41, 42, 43, 44, 45, 46, 47, 48] (by decide +kernel) (by decide +kernel)
set_option maxRecDepth 20000 in
theorem gX8_setLoudness_X8_begin : GoodIn wsX8_setLoudness (wsV RX8 69 RX8 yX8_begin wsX8_begin) := goodIn_app (goodIn_of _ (by decide +kernel)) ggX8_setLoudness_X8_begin
set_option maxRecDepth 20000 in
theorem ggX8_setLoudness_X8_isRest : GoodIn wsX8_setLoudness wsX8_isRest := goodIn_r _ [22, 1, 29, 30, 31, 32, 33, 34, 35, 36, 37, 38, 39, 40, 41, 42, 43, 44, 45, 46, 47, 48] (by decide +kernel) (by decide +kernel)
set_option maxRecDepth 20000 in
theorem gX8_setLoudness_X8_isRest : GoodIn wsX8_setLoudness (wsV RX8 109 RX8 yX8_isRest wsX8_isRest) := goodIn_app (goodIn_of _ (by decide +kernel)) ggX8_setLoudness_X8_isRest
set_option maxRecDepth 20000 in
theorem ggX8_setLoudness_X8_done : GoodIn wsX8_setLoudness wsX8_done := goodIn_r _ [26, 27, 28, 18, 29, 30, 31, 32, 33, 34, 35, 36, 37, 38, 39, 40, 41, 42, 43, 44, 45, 46, 47, 48] (by decide +kernel) (by decide +kernel)
set_option maxRecDepth 20000 in
theorem gX8_setLoudness_X8_done : GoodIn wsX8_setLoudness (wsV RX8 72 RX8 yX8_done wsX8_done) := goodIn_app (goodIn_of _ (by decide +kernel)) ggX8_setLoudness_X8_done
theorem dX8_setLoudness_0 : decode cX8_setLoudness 0 = .ok (.aload_n 0, 1) := by decide +kernel
theorem dX8_setLoudness_1 : decode cX8_setLoudness 1 = .ok (.iload_n 1, 1) := by decide +kernel
theorem dX8_setLoudness_2 : decode cX8_setLoudness 2 = .ok (.invokevirtual 105, 3) := by decide +kernel
theorem dX8_setLoudness_5 : decode cX8_setLoudness 5 = .ok (.ifCond .ne 11, 3) := by decide +kernel
theorem dX8_setLoudness_8 : decode cX8_setLoudness 8 = .ok (.aload_n 0, 1) := by decide +kernel
theorem dX8_setLoudness_9 : decode cX8_setLoudness 9 = .ok (.iload_n 2, 1) := by decide +kernel
theorem dX8_setLoudness_10 : decode cX8_setLoudness 10 = .ok (.invokevirtual 105, 3) := by decide +kernel
theorem dX8_setLoudness_13 : decode cX8_setLoudness 13 = .ok (.ifCond .eq 5, 3) := by decide +kernel
theorem dX8_setLoudness_16 : decode cX8_setLoudness 16 = .ok (.iconst (-1), 1) := by decide +kernel
theorem dX8_setLoudness_17 : decode cX8_setLoudness 17 = .ok (.ireturn, 1) := by decide +kernel
theorem dX8_setLoudness_18 : decode cX8_setLoudness 18 = .ok (.iload_n 2, 1) := by decide +kernel
theorem dX8_setLoudness_19 : decode cX8_setLoudness 19 = .ok (.iload_n 1, 1) := by decide +kernel
theorem dX8_setLoudness_20 : decode cX8_setLoudness 20 = .ok (.if_icmp .lt 12, 3) := by decide +kernel
theorem dX8_setLoudness_23 : decode cX8_setLoudness 23 = .ok (.iload_n 3, 1) := by decide +kernel
theorem dX8_setLoudness_24 : decode cX8_setLoudness 24 = .ok (.iconst 1, 1) := by decide +kernel
theorem dX8_setLoudness_25 : decode cX8_setLoudness 25 = .ok (.iconst 5, 1) := by decide +kernel
theorem dX8_setLoudness_26 : decode cX8_setLoudness 26 = .ok (.invokestatic 61, 3) := by decide +kernel
theorem dX8_setLoudness_29 : decode cX8_setLoudness 29 = .ok (.ifCond .ne 6, 3) := by decide +kernel
theorem dX8_setLoudness_32 : decode cX8_setLoudness 32 = .ok (.bipush (-2), 2) := by decide +kernel
theorem dX8_setLoudness_34 : decode cX8_setLoudness 34 = .ok (.ireturn, 1) := by decide +kernel
theorem dX8_setLoudness_35 : decode cX8_setLoudness 35 = .ok (.aload_n 0, 1) := by decide +kernel
theorem dX8_setLoudness_36 : decode cX8_setLoudness 36 = .ok (.invokevirtual 69, 3) := by decide +kernel
theorem dX8_setLoudness_39 : decode cX8_setLoudness 39 = .ok (.iconst 0, 1) := by decide +kernel
theorem dX8_setLoudness_40 : decode cX8_setLoudness 40 = .ok (.istore 4, 2) := by decide +kernel
theorem dX8_setLoudness_42 : decode cX8_setLoudness 42 = .ok (.iload_n 1, 1) := by decide +kernel
theorem dX8_setLoudness_43 : decode cX8_setLoudness 43 = .ok (.istore 5, 2) := by decide +kernel
theorem dX8_setLoudness_45 : decode cX8_setLoudness 45 = .ok (.iload 5, 2) := by decide +kernel
theorem dX8_setLoudness_47 : decode cX8_setLoudness 47 = .ok (.iload_n 2, 1) := by decide +kernel
theorem dX8_setLoudness_48 : decode cX8_setLoudness 48 = .ok (.if_icmp .gt 39, 3) := by decide +kernel
theorem dX8_setLoudness_51 : decode cX8_setLoudness 51 = .ok (.aload_n 0, 1) := by decide +kernel
theorem dX8_setLoudness_52 : decode cX8_setLoudness 52 = .ok (.getfield 7, 3) := by decide +kernel
theorem dX8_setLoudness_55 : decode cX8_setLoudness 55 = .ok (.bipush 100, 2) := by decide +kernel
theorem dX8_setLoudness_57 : decode cX8_setLoudness 57 = .ok (.iload 5, 2) := by decide +kernel
theorem dX8_setLoudness_59 : decode cX8_setLoudness 59 = .ok (.iadd, 1) := by decide +kernel
theorem dX8_setLoudness_60 : decode cX8_setLoudness 60 = .ok (.iload_n 3, 1) := by decide +kernel
theorem dX8_setLoudness_61 : decode cX8_setLoudness 61 = .ok (.iastore, 1) := by decide +kernel
theorem dX8_setLoudness_62 : decode cX8_setLoudness 62 = .ok (.iload 4, 2) := by decide +kernel
theorem dX8_setLoudness_64 : decode cX8_setLoudness 64 = .ok (.aload_n 0, 1) := by decide +kernel
theorem dX8_setLoudness_65 : decode cX8_setLoudness 65 = .ok (.iload 5, 2) := by decide +kernel
theorem dX8_setLoudness_67 : decode cX8_setLoudness 67 = .ok (.invokevirtual 109, 3) := by decide +kernel
theorem dX8_setLoudness_70 : decode cX8_setLoudness 70 = .ok (.ifCond .eq 7, 3) := by decide +kernel
theorem dX8_setLoudness_73 : decode cX8_setLoudness 73 = .ok (.iconst 0, 1) := by decide +kernel
theorem dX8_setLoudness_74 : decode cX8_setLoudness 74 = .ok (.goto 4, 3) := by decide +kernel
theorem dX8_setLoudness_77 : decode cX8_setLoudness 77 = .ok (.iconst 1, 1) := by decide +kernel
theorem dX8_setLoudness_78 : decode cX8_setLoudness 78 = .ok (.iadd, 1) := by decide +kernel
theorem dX8_setLoudness_79 : decode cX8_setLoudness 79 = .ok (.istore 4, 2) := by decide +kernel
theorem dX8_setLoudness_81 : decode cX8_setLoudness 81 = .ok (.iinc 5 1, 3) := by decide +kernel
theorem dX8_setLoudness_84 : decode cX8_setLoudness 84 = .ok (.goto (-39), 3) := by decide +kernel
theorem dX8_setLoudness_87 : decode cX8_setLoudness 87 = .ok (.aload_n 0, 1) := by decide +kernel
theorem dX8_setLoudness_88 : decode cX8_setLoudness 88 = .ok (.iload 4, 2) := by decide +kernel
theorem dX8_setLoudness_90 : decode cX8_setLoudness 90 = .ok (.invokevirtual 72, 3) := by decide +kernel
theorem dX8_setLoudness_93 : decode cX8_setLoudness 93 = .ok (.ireturn, 1) := by decide +kernel
set_option maxRecDepth 20000 in
theorem ggX8_setSort_X8_noBeat : GoodIn wsX8_setSort wsX8_noBeat := goodIn_r _ [6, 7, 8, 9, 5, 10, 1, 11, 12, 13, 25, 26, 27, 28, 29, 30, 31, 32, 33, 34, 35, 36, 37, 38, 39, 40, 41, 42, 43, 44] (by decide +kernel) (by decide +kernel)
set_option maxRecDepth 20000 in
theorem gX8_setSort_X8_noBeat : GoodIn wsX8_setSort (wsV RX8 105 RX8 yX8_noBeat wsX8_noBeat) := goodIn_app (goodIn_of _ (by decide +kernel)) ggX8_setSort_X8_noBeat
set_option maxRecDepth 20000 in
theorem ggX8_setSort_X8_in : GoodIn wsX8_setSort wsX8_in := goodIn_r _ [13] (by decide +kernel) (by decide +kernel)
set_option maxRecDepth 20000 in
theorem gX8_setSort_X8_in : GoodIn wsX8_setSort (va_wsS RX8 61 yX8_in wsX8_in) := goodIn_app (goodIn_of _ (by decide +kernel)) ggX8_setSort_X8_in
set_option maxRecDepth 20000 in
theorem ggX8_setSort_X8_begin : GoodIn wsX8_setSort wsX8_begin := goodIn_r _ [17, 18, 1, 25, 26, 27, 28, 29, 30, 31, 32, 33, 34, 35, 36, 37, 38, 39, 40, 41, 42, 43, 44] (by decide +kernel) (by decide +kernel)
set_option maxRecDepth 20000 in
theorem gX8_setSort_X8_begin : GoodIn wsX8_setSort (wsV RX8 69 RX8 yX8_begin wsX8_begin) := goodIn_app (goodIn_of _ (by decide +kernel)) ggX8_setSort_X8_begin
set_option maxRecDepth 20000 in
theorem ggX8_setSort_X8_done : GoodIn wsX8_setSort wsX8_done := goodIn_r _ [22, 23, 24, 18, 25, 26, 27, 28, 29, 30, 31, 32, 33, 34, 35, 36, 37, 38, 39, 40, 41, 42, 43, 44] (by decide +kernel) (by decide +kernel)
set_option maxRecDepth 20000 in
theorem gX8_setSort_X8_done : GoodIn wsX8_setSort (wsV RX8 72 RX8 yX8_done wsX8_done) := goodIn_app (goodIn_of _ (by decide +kernel)) ggX8_setSort_X8_done
theorem dX8_setSort_0 : decode cX8_setSort 0 = .ok (.aload_n 0, 1) := by decide +kernel
theorem dX8_setSort_1 : decode cX8_setSort 1 = .ok (.iload_n 1, 1) := by decide +kernel
theorem dX8_setSort_2 : decode cX8_setSort 2 = .ok (.invokevirtual 105, 3) := by decide +kernel
theorem dX8_setSort_5 : decode cX8_setSort 5 = .ok (.ifCond .eq 5, 3) := by decide +kernel
theorem dX8_setSort_8 : decode cX8_setSort 8 = .ok (.iconst (-1), 1) := by decide +kernel
theorem dX8_setSort_9 : decode cX8_setSort 9 = .ok (.ireturn, 1) := by decide +kernel
theorem dX8_setSort_10 : decode cX8_setSort 10 = .ok (.iload_n 2, 1) := by decide +kernel
theorem dX8_setSort_11 : decode cX8_setSort 11 = .ok (.iconst 0, 1) := by decide +kernel
theorem dX8_setSort_12 : decode cX8_setSort 12 = .ok (.iconst 2, 1) := by decide +kernel
theorem dX8_setSort_13 : decode cX8_setSort 13 = .ok (.invokestatic 61, 3) := by decide +kernel
theorem dX8_setSort_16 : decode cX8_setSort 16 = .ok (.ifCond .ne 6, 3) := by decide +kernel
theorem dX8_setSort_19 : decode cX8_setSort 19 = .ok (.bipush (-2), 2) := by decide +kernel
theorem dX8_setSort_21 : decode cX8_setSort 21 = .ok (.ireturn, 1) := by decide +kernel
theorem dX8_setSort_22 : decode cX8_setSort 22 = .ok (.aload_n 0, 1) := by decide +kernel
theorem dX8_setSort_23 : decode cX8_setSort 23 = .ok (.invokevirtual 69, 3) := by decide +kernel
theorem dX8_setSort_26 : decode cX8_setSort 26 = .ok (.aload_n 0, 1) := by decide +kernel
theorem dX8_setSort_27 : decode cX8_setSort 27 = .ok (.getfield 7, 3) := by decide +kernel
theorem dX8_setSort_30 : decode cX8_setSort 30 = .ok (.iconst 4, 1) := by decide +kernel
theorem dX8_setSort_31 : decode cX8_setSort 31 = .ok (.iload_n 1, 1) := by decide +kernel
theorem dX8_setSort_32 : decode cX8_setSort 32 = .ok (.iadd, 1) := by decide +kernel
theorem dX8_setSort_33 : decode cX8_setSort 33 = .ok (.iaload, 1) := by decide +kernel
theorem dX8_setSort_34 : decode cX8_setSort 34 = .ok (.istore_n 3, 1) := by decide +kernel
theorem dX8_setSort_35 : decode cX8_setSort 35 = .ok (.aload_n 0, 1) := by decide +kernel
theorem dX8_setSort_36 : decode cX8_setSort 36 = .ok (.getfield 7, 3) := by decide +kernel
theorem dX8_setSort_39 : decode cX8_setSort 39 = .ok (.iconst 4, 1) := by decide +kernel
theorem dX8_setSort_40 : decode cX8_setSort 40 = .ok (.iload_n 1, 1) := by decide +kernel
theorem dX8_setSort_41 : decode cX8_setSort 41 = .ok (.iadd, 1) := by decide +kernel
theorem dX8_setSort_42 : decode cX8_setSort 42 = .ok (.iload_n 2, 1) := by decide +kernel
theorem dX8_setSort_43 : decode cX8_setSort 43 = .ok (.iastore, 1) := by decide +kernel
theorem dX8_setSort_44 : decode cX8_setSort 44 = .ok (.aload_n 0, 1) := by decide +kernel
theorem dX8_setSort_45 : decode cX8_setSort 45 = .ok (.iload_n 3, 1) := by decide +kernel
theorem dX8_setSort_46 : decode cX8_setSort 46 = .ok (.invokevirtual 72, 3) := by decide +kernel
theorem dX8_setSort_49 : decode cX8_setSort 49 = .ok (.ireturn, 1) := by decide +kernel
set_option maxRecDepth 20000 in
theorem ggX8_firstOf_X8_isRest : GoodIn wsX8_firstOf wsX8_isRest := goodIn_r _ [6, 1, 7, 8, 9, 10, 11, 12, 13, 14, 15, 16, 17, 18, 19, 20, 21, 22, 23, 24, 25, 26] (by decide +kernel) (by decide +kernel)
set_option maxRecDepth 20000 in
theorem gX8_firstOf_X8_isRest : GoodIn wsX8_firstOf (wsV RX8 109 RX8 yX8_isRest wsX8_isRest) := goodIn_app (goodIn_of _ (by decide +kernel)) ggX8_firstOf_X8_isRest
theorem dX8_firstOf_0 : decode cX8_firstOf 0 = .ok (.aload_n 0, 1) := by decide +kernel
theorem dX8_firstOf_1 : decode cX8_firstOf 1 = .ok (.iload_n 1, 1) := by decide +kernel
theorem dX8_firstOf_2 : decode cX8_firstOf 2 = .ok (.invokevirtual 109, 3) := by decide +kernel
theorem dX8_firstOf_5 : decode cX8_firstOf 5 = .ok (.ifCond .eq 6, 3) := by decide +kernel
theorem dX8_firstOf_8 : decode cX8_firstOf 8 = .ok (.bipush (-5), 2) := by decide +kernel
theorem dX8_firstOf_10 : decode cX8_firstOf 10 = .ok (.ireturn, 1) := by decide +kernel
theorem dX8_firstOf_11 : decode cX8_firstOf 11 = .ok (.iload_n 1, 1) := by decide +kernel
theorem dX8_firstOf_12 : decode cX8_firstOf 12 = .ok (.istore_n 2, 1) := by decide +kernel
theorem dX8_firstOf_13 : decode cX8_firstOf 13 = .ok (.aload_n 0, 1) := by decide +kernel
theorem dX8_firstOf_14 : decode cX8_firstOf 14 = .ok (.getfield 7, 3) := by decide +kernel
theorem dX8_firstOf_17 : decode cX8_firstOf 17 = .ok (.iconst 4, 1) := by decide +kernel
theorem dX8_firstOf_18 : decode cX8_firstOf 18 = .ok (.iload_n 2, 1) := by decide +kernel
theorem dX8_firstOf_19 : decode cX8_firstOf 19 = .ok (.iadd, 1) := by decide +kernel
theorem dX8_firstOf_20 : decode cX8_firstOf 20 = .ok (.iaload, 1) := by decide +kernel
theorem dX8_firstOf_21 : decode cX8_firstOf 21 = .ok (.iconst 1, 1) := by decide +kernel
theorem dX8_firstOf_22 : decode cX8_firstOf 22 = .ok (.if_icmp .ne 23, 3) := by decide +kernel
theorem dX8_firstOf_25 : decode cX8_firstOf 25 = .ok (.iload_n 2, 1) := by decide +kernel
theorem dX8_firstOf_26 : decode cX8_firstOf 26 = .ok (.ifCond .le 19, 3) := by decide +kernel
theorem dX8_firstOf_29 : decode cX8_firstOf 29 = .ok (.aload_n 0, 1) := by decide +kernel
theorem dX8_firstOf_30 : decode cX8_firstOf 30 = .ok (.iload_n 2, 1) := by decide +kernel
theorem dX8_firstOf_31 : decode cX8_firstOf 31 = .ok (.iconst 1, 1) := by decide +kernel
theorem dX8_firstOf_32 : decode cX8_firstOf 32 = .ok (.isub, 1) := by decide +kernel
theorem dX8_firstOf_33 : decode cX8_firstOf 33 = .ok (.invokevirtual 109, 3) := by decide +kernel
theorem dX8_firstOf_36 : decode cX8_firstOf 36 = .ok (.ifCond .ne 9, 3) := by decide +kernel
theorem dX8_firstOf_39 : decode cX8_firstOf 39 = .ok (.iinc 2 (-1), 3) := by decide +kernel
theorem dX8_firstOf_42 : decode cX8_firstOf 42 = .ok (.goto (-29), 3) := by decide +kernel
theorem dX8_firstOf_45 : decode cX8_firstOf 45 = .ok (.iload_n 2, 1) := by decide +kernel
theorem dX8_firstOf_46 : decode cX8_firstOf 46 = .ok (.ireturn, 1) := by decide +kernel
set_option maxRecDepth 20000 in
theorem ggX8_addSinger_X8_in : GoodIn wsX8_addSinger wsX8_in := goodIn_r _ [5] (by decide +kernel) (by decide +kernel)
set_option maxRecDepth 20000 in
theorem gX8_addSinger_X8_in : GoodIn wsX8_addSinger (va_wsS RX8 61 yX8_in wsX8_in) := goodIn_app (goodIn_of _ (by decide +kernel)) ggX8_addSinger_X8_in
set_option maxRecDepth 20000 in
theorem ggX8_addSinger_X8_singers : GoodIn wsX8_addSinger wsX8_singers := goodIn_r _ [9, 1, 21, 22, 23, 24, 25, 26, 27, 28, 29, 30, 31, 32, 33, 34, 35, 36, 37, 38, 39, 40] (by decide +kernel) (by decide +kernel)
set_option maxRecDepth 20000 in
theorem gX8_addSinger_X8_singers : GoodIn wsX8_addSinger (wsV RX8 76 RX8 yX8_singers wsX8_singers) := goodIn_app (goodIn_of _ (by decide +kernel)) ggX8_addSinger_X8_singers
set_option maxRecDepth 20000 in
theorem ggX8_addSinger_X8_begin : GoodIn wsX8_addSinger wsX8_begin := goodIn_r _ [13, 14, 1, 21, 22, 23, 24, 25, 26, 27, 28, 29, 30, 31, 32, 33, 34, 35, 36, 37, 38, 39, 40] (by decide +kernel) (by decide +kernel)
set_option maxRecDepth 20000 in
theorem gX8_addSinger_X8_begin : GoodIn wsX8_addSinger (wsV RX8 69 RX8 yX8_begin wsX8_begin) := goodIn_app (goodIn_of _ (by decide +kernel)) ggX8_addSinger_X8_begin
set_option maxRecDepth 20000 in
theorem ggX8_addSinger_X8_done : GoodIn wsX8_addSinger wsX8_done := goodIn_r _ [18, 19, 20, 14, 21, 22, 23, 24, 25, 26, 27, 28, 29, 30, 31, 32, 33, 34, 35, 36, 37, 38, 39, 40] (by decide +kernel) (by decide +kernel)
set_option maxRecDepth 20000 in
theorem gX8_addSinger_X8_done : GoodIn wsX8_addSinger (wsV RX8 72 RX8 yX8_done wsX8_done) := goodIn_app (goodIn_of _ (by decide +kernel)) ggX8_addSinger_X8_done
theorem dX8_addSinger_0 : decode cX8_addSinger 0 = .ok (.iload_n 1, 1) := by decide +kernel
theorem dX8_addSinger_1 : decode cX8_addSinger 1 = .ok (.iconst 4, 1) := by decide +kernel
theorem dX8_addSinger_2 : decode cX8_addSinger 2 = .ok (.bipush 40, 2) := by decide +kernel
theorem dX8_addSinger_4 : decode cX8_addSinger 4 = .ok (.invokestatic 61, 3) := by decide +kernel
theorem dX8_addSinger_7 : decode cX8_addSinger 7 = .ok (.ifCond .eq 13, 3) := by decide +kernel
theorem dX8_addSinger_10 : decode cX8_addSinger 10 = .ok (.iload_n 2, 1) := by decide +kernel
theorem dX8_addSinger_11 : decode cX8_addSinger 11 = .ok (.iconst 1, 1) := by decide +kernel
theorem dX8_addSinger_12 : decode cX8_addSinger 12 = .ok (.bipush 10, 2) := by decide +kernel
theorem dX8_addSinger_14 : decode cX8_addSinger 14 = .ok (.invokestatic 61, 3) := by decide +kernel
theorem dX8_addSinger_17 : decode cX8_addSinger 17 = .ok (.ifCond .ne 6, 3) := by decide +kernel
theorem dX8_addSinger_20 : decode cX8_addSinger 20 = .ok (.bipush (-2), 2) := by decide +kernel
theorem dX8_addSinger_22 : decode cX8_addSinger 22 = .ok (.ireturn, 1) := by decide +kernel
theorem dX8_addSinger_23 : decode cX8_addSinger 23 = .ok (.aload_n 0, 1) := by decide +kernel
theorem dX8_addSinger_24 : decode cX8_addSinger 24 = .ok (.invokevirtual 76, 3) := by decide +kernel
theorem dX8_addSinger_27 : decode cX8_addSinger 27 = .ok (.bipush 12, 2) := by decide +kernel
theorem dX8_addSinger_29 : decode cX8_addSinger 29 = .ok (.if_icmp .ne 6, 3) := by decide +kernel
theorem dX8_addSinger_32 : decode cX8_addSinger 32 = .ok (.bipush (-3), 2) := by decide +kernel
theorem dX8_addSinger_34 : decode cX8_addSinger 34 = .ok (.ireturn, 1) := by decide +kernel
theorem dX8_addSinger_35 : decode cX8_addSinger 35 = .ok (.aload_n 0, 1) := by decide +kernel
theorem dX8_addSinger_36 : decode cX8_addSinger 36 = .ok (.invokevirtual 69, 3) := by decide +kernel
theorem dX8_addSinger_39 : decode cX8_addSinger 39 = .ok (.aload_n 0, 1) := by decide +kernel
theorem dX8_addSinger_40 : decode cX8_addSinger 40 = .ok (.invokevirtual 76, 3) := by decide +kernel
theorem dX8_addSinger_43 : decode cX8_addSinger 43 = .ok (.istore_n 3, 1) := by decide +kernel
theorem dX8_addSinger_44 : decode cX8_addSinger 44 = .ok (.aload_n 0, 1) := by decide +kernel
theorem dX8_addSinger_45 : decode cX8_addSinger 45 = .ok (.getfield 7, 3) := by decide +kernel
theorem dX8_addSinger_48 : decode cX8_addSinger 48 = .ok (.sipush 196, 3) := by decide +kernel
theorem dX8_addSinger_51 : decode cX8_addSinger 51 = .ok (.iconst 3, 1) := by decide +kernel
theorem dX8_addSinger_52 : decode cX8_addSinger 52 = .ok (.iload_n 3, 1) := by decide +kernel
theorem dX8_addSinger_53 : decode cX8_addSinger 53 = .ok (.imul, 1) := by decide +kernel
theorem dX8_addSinger_54 : decode cX8_addSinger 54 = .ok (.iadd, 1) := by decide +kernel
theorem dX8_addSinger_55 : decode cX8_addSinger 55 = .ok (.iload_n 1, 1) := by decide +kernel
theorem dX8_addSinger_56 : decode cX8_addSinger 56 = .ok (.iastore, 1) := by decide +kernel
theorem dX8_addSinger_57 : decode cX8_addSinger 57 = .ok (.aload_n 0, 1) := by decide +kernel
theorem dX8_addSinger_58 : decode cX8_addSinger 58 = .ok (.getfield 7, 3) := by decide +kernel
theorem dX8_addSinger_61 : decode cX8_addSinger 61 = .ok (.sipush 196, 3) := by decide +kernel
theorem dX8_addSinger_64 : decode cX8_addSinger 64 = .ok (.iconst 3, 1) := by decide +kernel
theorem dX8_addSinger_65 : decode cX8_addSinger 65 = .ok (.iload_n 3, 1) := by decide +kernel
theorem dX8_addSinger_66 : decode cX8_addSinger 66 = .ok (.imul, 1) := by decide +kernel
theorem dX8_addSinger_67 : decode cX8_addSinger 67 = .ok (.iadd, 1) := by decide +kernel
theorem dX8_addSinger_68 : decode cX8_addSinger 68 = .ok (.iconst 1, 1) := by decide +kernel
theorem dX8_addSinger_69 : decode cX8_addSinger 69 = .ok (.iadd, 1) := by decide +kernel
theorem dX8_addSinger_70 : decode cX8_addSinger 70 = .ok (.iload_n 2, 1) := by decide +kernel
theorem dX8_addSinger_71 : decode cX8_addSinger 71 = .ok (.iastore, 1) := by decide +kernel
theorem dX8_addSinger_72 : decode cX8_addSinger 72 = .ok (.aload_n 0, 1) := by decide +kernel
theorem dX8_addSinger_73 : decode cX8_addSinger 73 = .ok (.getfield 7, 3) := by decide +kernel
theorem dX8_addSinger_76 : decode cX8_addSinger 76 = .ok (.sipush 196, 3) := by decide +kernel
theorem dX8_addSinger_79 : decode cX8_addSinger 79 = .ok (.iconst 3, 1) := by decide +kernel
theorem dX8_addSinger_80 : decode cX8_addSinger 80 = .ok (.iload_n 3, 1) := by decide +kernel
theorem dX8_addSinger_81 : decode cX8_addSinger 81 = .ok (.imul, 1) := by decide +kernel
theorem dX8_addSinger_82 : decode cX8_addSinger 82 = .ok (.iadd, 1) := by decide +kernel
theorem dX8_addSinger_83 : decode cX8_addSinger 83 = .ok (.iconst 2, 1) := by decide +kernel
theorem dX8_addSinger_84 : decode cX8_addSinger 84 = .ok (.iadd, 1) := by decide +kernel
theorem dX8_addSinger_85 : decode cX8_addSinger 85 = .ok (.iconst 1, 1) := by decide +kernel
theorem dX8_addSinger_86 : decode cX8_addSinger 86 = .ok (.iastore, 1) := by decide +kernel
theorem dX8_addSinger_87 : decode cX8_addSinger 87 = .ok (.iconst 0, 1) := by decide +kernel
theorem dX8_addSinger_88 : decode cX8_addSinger 88 = .ok (.istore 4, 2) := by decide +kernel
theorem dX8_addSinger_90 : decode cX8_addSinger 90 = .ok (.iload 4, 2) := by decide +kernel
theorem dX8_addSinger_92 : decode cX8_addSinger 92 = .ok (.iconst 3, 1) := by decide +kernel
theorem dX8_addSinger_93 : decode cX8_addSinger 93 = .ok (.if_icmp .ge 25, 3) := by decide +kernel
theorem dX8_addSinger_96 : decode cX8_addSinger 96 = .ok (.aload_n 0, 1) := by decide +kernel
theorem dX8_addSinger_97 : decode cX8_addSinger 97 = .ok (.getfield 7, 3) := by decide +kernel
theorem dX8_addSinger_100 : decode cX8_addSinger 100 = .ok (.sipush 232, 3) := by decide +kernel
theorem dX8_addSinger_103 : decode cX8_addSinger 103 = .ok (.iconst 3, 1) := by decide +kernel
theorem dX8_addSinger_104 : decode cX8_addSinger 104 = .ok (.iload_n 3, 1) := by decide +kernel
theorem dX8_addSinger_105 : decode cX8_addSinger 105 = .ok (.imul, 1) := by decide +kernel
theorem dX8_addSinger_106 : decode cX8_addSinger 106 = .ok (.iadd, 1) := by decide +kernel
theorem dX8_addSinger_107 : decode cX8_addSinger 107 = .ok (.iload 4, 2) := by decide +kernel
theorem dX8_addSinger_109 : decode cX8_addSinger 109 = .ok (.iadd, 1) := by decide +kernel
theorem dX8_addSinger_110 : decode cX8_addSinger 110 = .ok (.iconst 0, 1) := by decide +kernel
theorem dX8_addSinger_111 : decode cX8_addSinger 111 = .ok (.iastore, 1) := by decide +kernel
theorem dX8_addSinger_112 : decode cX8_addSinger 112 = .ok (.iinc 4 1, 3) := by decide +kernel
theorem dX8_addSinger_115 : decode cX8_addSinger 115 = .ok (.goto (-25), 3) := by decide +kernel
theorem dX8_addSinger_118 : decode cX8_addSinger 118 = .ok (.aload_n 0, 1) := by decide +kernel
theorem dX8_addSinger_119 : decode cX8_addSinger 119 = .ok (.getfield 7, 3) := by decide +kernel
theorem dX8_addSinger_122 : decode cX8_addSinger 122 = .ok (.iconst 1, 1) := by decide +kernel
theorem dX8_addSinger_123 : decode cX8_addSinger 123 = .ok (.dup2, 1) := by decide +kernel
theorem dX8_addSinger_124 : decode cX8_addSinger 124 = .ok (.iaload, 1) := by decide +kernel
theorem dX8_addSinger_125 : decode cX8_addSinger 125 = .ok (.iconst 1, 1) := by decide +kernel
theorem dX8_addSinger_126 : decode cX8_addSinger 126 = .ok (.iadd, 1) := by decide +kernel
theorem dX8_addSinger_127 : decode cX8_addSinger 127 = .ok (.iastore, 1) := by decide +kernel
theorem dX8_addSinger_128 : decode cX8_addSinger 128 = .ok (.aload_n 0, 1) := by decide +kernel
theorem dX8_addSinger_129 : decode cX8_addSinger 129 = .ok (.iload_n 3, 1) := by decide +kernel
theorem dX8_addSinger_130 : decode cX8_addSinger 130 = .ok (.invokevirtual 72, 3) := by decide +kernel
theorem dX8_addSinger_133 : decode cX8_addSinger 133 = .ok (.ireturn, 1) := by decide +kernel
set_option maxRecDepth 20000 in
theorem ggX8_presentOnes_X8_singers : GoodIn wsX8_presentOnes wsX8_singers := goodIn_r _ [5, 6, 11, 12, 13, 14, 15, 16, 17, 18, 19, 20, 21, 22, 23, 24, 25, 26, 27, 28, 29, 30] (by decide +kernel) (by decide +kernel)
set_option maxRecDepth 20000 in
theorem gX8_presentOnes_X8_singers : GoodIn wsX8_presentOnes (wsV RX8 76 RX8 yX8_singers wsX8_singers) := goodIn_app (goodIn_of _ (by decide +kernel)) ggX8_presentOnes_X8_singers
set_option maxRecDepth 20000 in
theorem ggX8_presentOnes_X8_of : GoodIn wsX8_presentOnes wsX8_of := goodIn_r _ [10, 6, 11, 12, 13, 14, 15, 16, 17, 18, 19, 20, 21, 22, 23, 24, 25, 26, 27, 28, 29, 30] (by decide +kernel) (by decide +kernel)
set_option maxRecDepth 20000 in
theorem gX8_presentOnes_X8_of : GoodIn wsX8_presentOnes (wsV RX8 112 RX8 yX8_of wsX8_of) := goodIn_app (goodIn_of _ (by decide +kernel)) ggX8_presentOnes_X8_of
theorem dX8_presentOnes_0 : decode cX8_presentOnes 0 = .ok (.iconst 0, 1) := by decide +kernel
theorem dX8_presentOnes_1 : decode cX8_presentOnes 1 = .ok (.istore_n 1, 1) := by decide +kernel
theorem dX8_presentOnes_2 : decode cX8_presentOnes 2 = .ok (.iconst 0, 1) := by decide +kernel
theorem dX8_presentOnes_3 : decode cX8_presentOnes 3 = .ok (.istore_n 2, 1) := by decide +kernel
theorem dX8_presentOnes_4 : decode cX8_presentOnes 4 = .ok (.iload_n 2, 1) := by decide +kernel
theorem dX8_presentOnes_5 : decode cX8_presentOnes 5 = .ok (.aload_n 0, 1) := by decide +kernel
theorem dX8_presentOnes_6 : decode cX8_presentOnes 6 = .ok (.invokevirtual 76, 3) := by decide +kernel
theorem dX8_presentOnes_9 : decode cX8_presentOnes 9 = .ok (.if_icmp .ge 18, 3) := by decide +kernel
theorem dX8_presentOnes_12 : decode cX8_presentOnes 12 = .ok (.iload_n 1, 1) := by decide +kernel
theorem dX8_presentOnes_13 : decode cX8_presentOnes 13 = .ok (.aload_n 0, 1) := by decide +kernel
theorem dX8_presentOnes_14 : decode cX8_presentOnes 14 = .ok (.iload_n 2, 1) := by decide +kernel
theorem dX8_presentOnes_15 : decode cX8_presentOnes 15 = .ok (.iconst 2, 1) := by decide +kernel
theorem dX8_presentOnes_16 : decode cX8_presentOnes 16 = .ok (.invokevirtual 112, 3) := by decide +kernel
theorem dX8_presentOnes_19 : decode cX8_presentOnes 19 = .ok (.iadd, 1) := by decide +kernel
theorem dX8_presentOnes_20 : decode cX8_presentOnes 20 = .ok (.istore_n 1, 1) := by decide +kernel
theorem dX8_presentOnes_21 : decode cX8_presentOnes 21 = .ok (.iinc 2 1, 3) := by decide +kernel
theorem dX8_presentOnes_24 : decode cX8_presentOnes 24 = .ok (.goto (-20), 3) := by decide +kernel
theorem dX8_presentOnes_27 : decode cX8_presentOnes 27 = .ok (.iload_n 1, 1) := by decide +kernel
theorem dX8_presentOnes_28 : decode cX8_presentOnes 28 = .ok (.ireturn, 1) := by decide +kernel
set_option maxRecDepth 20000 in
theorem ggX8_setPresent_X8_noSinger : GoodIn wsX8_setPresent wsX8_noSinger := goodIn_r _ [6, 7, 8, 9, 5, 10, 1, 11, 12, 13, 33, 34, 35, 36, 37, 38, 39, 40, 41, 42, 43, 44, 45, 46, 47, 48, 49, 50, 51, 52] (by decide +kernel) (by decide +kernel)
set_option maxRecDepth 20000 in
theorem gX8_setPresent_X8_noSinger : GoodIn wsX8_setPresent (wsV RX8 116 RX8 yX8_noSinger wsX8_noSinger) := goodIn_app (goodIn_of _ (by decide +kernel)) ggX8_setPresent_X8_noSinger
set_option maxRecDepth 20000 in
theorem ggX8_setPresent_X8_of : GoodIn wsX8_setPresent wsX8_of := goodIn_r _ [17, 1, 33, 34, 35, 36, 37, 38, 39, 40, 41, 42, 43, 44, 45, 46, 47, 48, 49, 50, 51, 52] (by decide +kernel) (by decide +kernel)
set_option maxRecDepth 20000 in
theorem gX8_setPresent_X8_of : GoodIn wsX8_setPresent (wsV RX8 112 RX8 yX8_of wsX8_of) := goodIn_app (goodIn_of _ (by decide +kernel)) ggX8_setPresent_X8_of
set_option maxRecDepth 20000 in
theorem ggX8_setPresent_X8_begin : GoodIn wsX8_setPresent wsX8_begin := goodIn_r _ [21, 22, 1, 33, 34, 35, 36, 37, 38, 39, 40, 41, 42, 43, 44, 45, 46, 47, 48, 49, 50, 51, 52] (by decide +kernel) (by decide +kernel)
set_option maxRecDepth 20000 in
theorem gX8_setPresent_X8_begin : GoodIn wsX8_setPresent (wsV RX8 69 RX8 yX8_begin wsX8_begin) := goodIn_app (goodIn_of _ (by decide +kernel)) ggX8_setPresent_X8_begin
set_option maxRecDepth 20000 in
theorem ggX8_setPresent_X8_presentOnes : GoodIn wsX8_setPresent wsX8_presentOnes := goodIn_r _ [26, 7, 8, 9, 5, 10, 1, 14, 15, 16, 17, 33, 34, 35, 36, 37, 38, 39, 40, 41, 42, 43, 44, 45, 46, 47, 48, 49, 50, 51, 52] (by decide +kernel) (by decide +kernel)
set_option maxRecDepth 20000 in
theorem gX8_setPresent_X8_presentOnes : GoodIn wsX8_setPresent (wsV RX8 119 RX8 yX8_presentOnes wsX8_presentOnes) := goodIn_app (goodIn_of _ (by decide +kernel)) ggX8_setPresent_X8_presentOnes
set_option maxRecDepth 20000 in
theorem ggX8_setPresent_X8_done : GoodIn wsX8_setPresent wsX8_done := goodIn_r _ [30, 31, 32, 22, 33, 34, 35, 36, 37, 38, 39, 40, 41, 42, 43, 44, 45, 46, 47, 48, 49, 50, 51, 52] (by decide +kernel) (by decide +kernel)
set_option maxRecDepth 20000 in
theorem gX8_setPresent_X8_done : GoodIn wsX8_setPresent (wsV RX8 72 RX8 yX8_done wsX8_done) := goodIn_app (goodIn_of _ (by decide +kernel)) ggX8_setPresent_X8_done
theorem dX8_setPresent_0 : decode cX8_setPresent 0 = .ok (.aload_n 0, 1) := by decide +kernel
theorem dX8_setPresent_1 : decode cX8_setPresent 1 = .ok (.iload_n 1, 1) := by decide +kernel
theorem dX8_setPresent_2 : decode cX8_setPresent 2 = .ok (.invokevirtual 116, 3) := by decide +kernel
theorem dX8_setPresent_5 : decode cX8_setPresent 5 = .ok (.ifCond .eq 5, 3) := by decide +kernel
theorem dX8_setPresent_8 : decode cX8_setPresent 8 = .ok (.iconst (-1), 1) := by decide +kernel
theorem dX8_setPresent_9 : decode cX8_setPresent 9 = .ok (.ireturn, 1) := by decide +kernel
theorem dX8_setPresent_10 : decode cX8_setPresent 10 = .ok (.iload_n 2, 1) := by decide +kernel
theorem dX8_setPresent_11 : decode cX8_setPresent 11 = .ok (.ifCond .eq 7, 3) := by decide +kernel
theorem dX8_setPresent_14 : decode cX8_setPresent 14 = .ok (.iconst 1, 1) := by decide +kernel
theorem dX8_setPresent_15 : decode cX8_setPresent 15 = .ok (.goto 4, 3) := by decide +kernel
theorem dX8_setPresent_18 : decode cX8_setPresent 18 = .ok (.iconst 0, 1) := by decide +kernel
theorem dX8_setPresent_19 : decode cX8_setPresent 19 = .ok (.istore_n 3, 1) := by decide +kernel
theorem dX8_setPresent_20 : decode cX8_setPresent 20 = .ok (.aload_n 0, 1) := by decide +kernel
theorem dX8_setPresent_21 : decode cX8_setPresent 21 = .ok (.iload_n 1, 1) := by decide +kernel
theorem dX8_setPresent_22 : decode cX8_setPresent 22 = .ok (.iconst 2, 1) := by decide +kernel
theorem dX8_setPresent_23 : decode cX8_setPresent 23 = .ok (.invokevirtual 112, 3) := by decide +kernel
theorem dX8_setPresent_26 : decode cX8_setPresent 26 = .ok (.iload_n 3, 1) := by decide +kernel
theorem dX8_setPresent_27 : decode cX8_setPresent 27 = .ok (.if_icmp .ne 6, 3) := by decide +kernel
theorem dX8_setPresent_30 : decode cX8_setPresent 30 = .ok (.bipush (-5), 2) := by decide +kernel
theorem dX8_setPresent_32 : decode cX8_setPresent 32 = .ok (.ireturn, 1) := by decide +kernel
theorem dX8_setPresent_33 : decode cX8_setPresent 33 = .ok (.aload_n 0, 1) := by decide +kernel
theorem dX8_setPresent_34 : decode cX8_setPresent 34 = .ok (.invokevirtual 69, 3) := by decide +kernel
theorem dX8_setPresent_37 : decode cX8_setPresent 37 = .ok (.aload_n 0, 1) := by decide +kernel
theorem dX8_setPresent_38 : decode cX8_setPresent 38 = .ok (.getfield 7, 3) := by decide +kernel
theorem dX8_setPresent_41 : decode cX8_setPresent 41 = .ok (.sipush 196, 3) := by decide +kernel
theorem dX8_setPresent_44 : decode cX8_setPresent 44 = .ok (.iconst 3, 1) := by decide +kernel
theorem dX8_setPresent_45 : decode cX8_setPresent 45 = .ok (.iload_n 1, 1) := by decide +kernel
theorem dX8_setPresent_46 : decode cX8_setPresent 46 = .ok (.imul, 1) := by decide +kernel
theorem dX8_setPresent_47 : decode cX8_setPresent 47 = .ok (.iadd, 1) := by decide +kernel
theorem dX8_setPresent_48 : decode cX8_setPresent 48 = .ok (.iconst 2, 1) := by decide +kernel
theorem dX8_setPresent_49 : decode cX8_setPresent 49 = .ok (.iadd, 1) := by decide +kernel
theorem dX8_setPresent_50 : decode cX8_setPresent 50 = .ok (.iload_n 3, 1) := by decide +kernel
theorem dX8_setPresent_51 : decode cX8_setPresent 51 = .ok (.iastore, 1) := by decide +kernel
theorem dX8_setPresent_52 : decode cX8_setPresent 52 = .ok (.aload_n 0, 1) := by decide +kernel
theorem dX8_setPresent_53 : decode cX8_setPresent 53 = .ok (.aload_n 0, 1) := by decide +kernel
theorem dX8_setPresent_54 : decode cX8_setPresent 54 = .ok (.invokevirtual 119, 3) := by decide +kernel
theorem dX8_setPresent_57 : decode cX8_setPresent 57 = .ok (.invokevirtual 72, 3) := by decide +kernel
theorem dX8_setPresent_60 : decode cX8_setPresent 60 = .ok (.ireturn, 1) := by decide +kernel
set_option maxRecDepth 20000 in
theorem ggX8_addSolo_X8_noSinger : GoodIn wsX8_addSolo wsX8_noSinger := goodIn_r _ [6, 7, 8, 9, 5, 10, 1, 11, 12, 13, 41, 42, 43, 44, 45, 46, 47, 48, 49, 50, 51, 52, 53, 54, 55, 56, 57, 58, 59, 60] (by decide +kernel) (by decide +kernel)
set_option maxRecDepth 20000 in
theorem gX8_addSolo_X8_noSinger : GoodIn wsX8_addSolo (wsV RX8 116 RX8 yX8_noSinger wsX8_noSinger) := goodIn_app (goodIn_of _ (by decide +kernel)) ggX8_addSolo_X8_noSinger
set_option maxRecDepth 20000 in
theorem ggX8_addSolo_X8_noBeat : GoodIn wsX8_addSolo wsX8_noBeat := goodIn_r _ [17, 18, 19, 20, 5, 21, 1, 11, 12, 13, 41, 42, 43, 44, 45, 46, 47, 48, 49, 50, 51, 52, 53, 54, 55, 56, 57, 58, 59, 60] (by decide +kernel) (by decide +kernel)
set_option maxRecDepth 20000 in
theorem gX8_addSolo_X8_noBeat : GoodIn wsX8_addSolo (wsV RX8 105 RX8 yX8_noBeat wsX8_noBeat) := goodIn_app (goodIn_of _ (by decide +kernel)) ggX8_addSolo_X8_noBeat
set_option maxRecDepth 20000 in
theorem ggX8_addSolo_X8_solos : GoodIn wsX8_addSolo wsX8_solos := goodIn_r _ [25, 1, 41, 42, 43, 44, 45, 46, 47, 48, 49, 50, 51, 52, 53, 54, 55, 56, 57, 58, 59, 60] (by decide +kernel) (by decide +kernel)
set_option maxRecDepth 20000 in
theorem gX8_addSolo_X8_solos : GoodIn wsX8_addSolo (wsV RX8 122 RX8 yX8_solos wsX8_solos) := goodIn_app (goodIn_of _ (by decide +kernel)) ggX8_addSolo_X8_solos
set_option maxRecDepth 20000 in
theorem ggX8_addSolo_X8_soloOf : GoodIn wsX8_addSolo wsX8_soloOf := goodIn_r _ [29, 1, 41, 42, 43, 44, 45, 46, 47, 48, 49, 50, 51, 52, 53, 54, 55, 56, 57, 58, 59, 60] (by decide +kernel) (by decide +kernel)
set_option maxRecDepth 20000 in
theorem gX8_addSolo_X8_soloOf : GoodIn wsX8_addSolo (wsV RX8 125 RX8 yX8_soloOf wsX8_soloOf) := goodIn_app (goodIn_of _ (by decide +kernel)) ggX8_addSolo_X8_soloOf
set_option maxRecDepth 20000 in
theorem ggX8_addSolo_X8_begin : GoodIn wsX8_addSolo wsX8_begin := goodIn_r _ [33, 34, 1, 41, 42, 43, 44, 45, 46, 47, 48, 49, 50, 51, 52, 53, 54, 55, 56, 57, 58, 59, 60] (by decide +kernel) (by decide +kernel)
set_option maxRecDepth 20000 in
theorem gX8_addSolo_X8_begin : GoodIn wsX8_addSolo (wsV RX8 69 RX8 yX8_begin wsX8_begin) := goodIn_app (goodIn_of _ (by decide +kernel)) ggX8_addSolo_X8_begin
set_option maxRecDepth 20000 in
theorem ggX8_addSolo_X8_done : GoodIn wsX8_addSolo wsX8_done := goodIn_r _ [38, 39, 40, 34, 41, 42, 43, 44, 45, 46, 47, 48, 49, 50, 51, 52, 53, 54, 55, 56, 57, 58, 59, 60] (by decide +kernel) (by decide +kernel)
set_option maxRecDepth 20000 in
theorem gX8_addSolo_X8_done : GoodIn wsX8_addSolo (wsV RX8 72 RX8 yX8_done wsX8_done) := goodIn_app (goodIn_of _ (by decide +kernel)) ggX8_addSolo_X8_done
theorem dX8_addSolo_0 : decode cX8_addSolo 0 = .ok (.aload_n 0, 1) := by decide +kernel
theorem dX8_addSolo_1 : decode cX8_addSolo 1 = .ok (.iload_n 1, 1) := by decide +kernel
theorem dX8_addSolo_2 : decode cX8_addSolo 2 = .ok (.invokevirtual 116, 3) := by decide +kernel
theorem dX8_addSolo_5 : decode cX8_addSolo 5 = .ok (.ifCond .ne 19, 3) := by decide +kernel
theorem dX8_addSolo_8 : decode cX8_addSolo 8 = .ok (.aload_n 0, 1) := by decide +kernel
theorem dX8_addSolo_9 : decode cX8_addSolo 9 = .ok (.iload_n 2, 1) := by decide +kernel
theorem dX8_addSolo_10 : decode cX8_addSolo 10 = .ok (.invokevirtual 105, 3) := by decide +kernel
theorem dX8_addSolo_13 : decode cX8_addSolo 13 = .ok (.ifCond .ne 11, 3) := by decide +kernel
theorem dX8_addSolo_16 : decode cX8_addSolo 16 = .ok (.aload_n 0, 1) := by decide +kernel
theorem dX8_addSolo_17 : decode cX8_addSolo 17 = .ok (.iload_n 3, 1) := by decide +kernel
theorem dX8_addSolo_18 : decode cX8_addSolo 18 = .ok (.invokevirtual 105, 3) := by decide +kernel
theorem dX8_addSolo_21 : decode cX8_addSolo 21 = .ok (.ifCond .eq 5, 3) := by decide +kernel
theorem dX8_addSolo_24 : decode cX8_addSolo 24 = .ok (.iconst (-1), 1) := by decide +kernel
theorem dX8_addSolo_25 : decode cX8_addSolo 25 = .ok (.ireturn, 1) := by decide +kernel
theorem dX8_addSolo_26 : decode cX8_addSolo 26 = .ok (.iload_n 3, 1) := by decide +kernel
theorem dX8_addSolo_27 : decode cX8_addSolo 27 = .ok (.iload_n 2, 1) := by decide +kernel
theorem dX8_addSolo_28 : decode cX8_addSolo 28 = .ok (.if_icmp .ge 6, 3) := by decide +kernel
theorem dX8_addSolo_31 : decode cX8_addSolo 31 = .ok (.bipush (-2), 2) := by decide +kernel
theorem dX8_addSolo_33 : decode cX8_addSolo 33 = .ok (.ireturn, 1) := by decide +kernel
theorem dX8_addSolo_34 : decode cX8_addSolo 34 = .ok (.iconst 0, 1) := by decide +kernel
theorem dX8_addSolo_35 : decode cX8_addSolo 35 = .ok (.istore 4, 2) := by decide +kernel
theorem dX8_addSolo_37 : decode cX8_addSolo 37 = .ok (.iload 4, 2) := by decide +kernel
theorem dX8_addSolo_39 : decode cX8_addSolo 39 = .ok (.aload_n 0, 1) := by decide +kernel
theorem dX8_addSolo_40 : decode cX8_addSolo 40 = .ok (.invokevirtual 122, 3) := by decide +kernel
theorem dX8_addSolo_43 : decode cX8_addSolo 43 = .ok (.if_icmp .ge 34, 3) := by decide +kernel
theorem dX8_addSolo_46 : decode cX8_addSolo 46 = .ok (.aload_n 0, 1) := by decide +kernel
theorem dX8_addSolo_47 : decode cX8_addSolo 47 = .ok (.iload 4, 2) := by decide +kernel
theorem dX8_addSolo_49 : decode cX8_addSolo 49 = .ok (.iconst 1, 1) := by decide +kernel
theorem dX8_addSolo_50 : decode cX8_addSolo 50 = .ok (.invokevirtual 125, 3) := by decide +kernel
theorem dX8_addSolo_53 : decode cX8_addSolo 53 = .ok (.iload_n 3, 1) := by decide +kernel
theorem dX8_addSolo_54 : decode cX8_addSolo 54 = .ok (.if_icmp .gt 17, 3) := by decide +kernel
theorem dX8_addSolo_57 : decode cX8_addSolo 57 = .ok (.aload_n 0, 1) := by decide +kernel
theorem dX8_addSolo_58 : decode cX8_addSolo 58 = .ok (.iload 4, 2) := by decide +kernel
theorem dX8_addSolo_60 : decode cX8_addSolo 60 = .ok (.iconst 2, 1) := by decide +kernel
theorem dX8_addSolo_61 : decode cX8_addSolo 61 = .ok (.invokevirtual 125, 3) := by decide +kernel
theorem dX8_addSolo_64 : decode cX8_addSolo 64 = .ok (.iload_n 2, 1) := by decide +kernel
theorem dX8_addSolo_65 : decode cX8_addSolo 65 = .ok (.if_icmp .lt 6, 3) := by decide +kernel
theorem dX8_addSolo_68 : decode cX8_addSolo 68 = .ok (.bipush (-4), 2) := by decide +kernel
theorem dX8_addSolo_70 : decode cX8_addSolo 70 = .ok (.ireturn, 1) := by decide +kernel
theorem dX8_addSolo_71 : decode cX8_addSolo 71 = .ok (.iinc 4 1, 3) := by decide +kernel
theorem dX8_addSolo_74 : decode cX8_addSolo 74 = .ok (.goto (-37), 3) := by decide +kernel
theorem dX8_addSolo_77 : decode cX8_addSolo 77 = .ok (.aload_n 0, 1) := by decide +kernel
theorem dX8_addSolo_78 : decode cX8_addSolo 78 = .ok (.invokevirtual 122, 3) := by decide +kernel
theorem dX8_addSolo_81 : decode cX8_addSolo 81 = .ok (.bipush 8, 2) := by decide +kernel
theorem dX8_addSolo_83 : decode cX8_addSolo 83 = .ok (.if_icmp .ne 6, 3) := by decide +kernel
theorem dX8_addSolo_86 : decode cX8_addSolo 86 = .ok (.bipush (-3), 2) := by decide +kernel
theorem dX8_addSolo_88 : decode cX8_addSolo 88 = .ok (.ireturn, 1) := by decide +kernel
theorem dX8_addSolo_89 : decode cX8_addSolo 89 = .ok (.aload_n 0, 1) := by decide +kernel
theorem dX8_addSolo_90 : decode cX8_addSolo 90 = .ok (.invokevirtual 69, 3) := by decide +kernel
theorem dX8_addSolo_93 : decode cX8_addSolo 93 = .ok (.aload_n 0, 1) := by decide +kernel
theorem dX8_addSolo_94 : decode cX8_addSolo 94 = .ok (.invokevirtual 122, 3) := by decide +kernel
theorem dX8_addSolo_97 : decode cX8_addSolo 97 = .ok (.istore 4, 2) := by decide +kernel
theorem dX8_addSolo_99 : decode cX8_addSolo 99 = .ok (.iload 4, 2) := by decide +kernel
theorem dX8_addSolo_101 : decode cX8_addSolo 101 = .ok (.ifCond .le 63, 3) := by decide +kernel
theorem dX8_addSolo_104 : decode cX8_addSolo 104 = .ok (.aload_n 0, 1) := by decide +kernel
theorem dX8_addSolo_105 : decode cX8_addSolo 105 = .ok (.iload 4, 2) := by decide +kernel
theorem dX8_addSolo_107 : decode cX8_addSolo 107 = .ok (.iconst 1, 1) := by decide +kernel
theorem dX8_addSolo_108 : decode cX8_addSolo 108 = .ok (.isub, 1) := by decide +kernel
theorem dX8_addSolo_109 : decode cX8_addSolo 109 = .ok (.iconst 1, 1) := by decide +kernel
theorem dX8_addSolo_110 : decode cX8_addSolo 110 = .ok (.invokevirtual 125, 3) := by decide +kernel
theorem dX8_addSolo_113 : decode cX8_addSolo 113 = .ok (.iload_n 2, 1) := by decide +kernel
theorem dX8_addSolo_114 : decode cX8_addSolo 114 = .ok (.if_icmp .le 50, 3) := by decide +kernel
theorem dX8_addSolo_117 : decode cX8_addSolo 117 = .ok (.iconst 0, 1) := by decide +kernel
theorem dX8_addSolo_118 : decode cX8_addSolo 118 = .ok (.istore 5, 2) := by decide +kernel
theorem dX8_addSolo_120 : decode cX8_addSolo 120 = .ok (.iload 5, 2) := by decide +kernel
theorem dX8_addSolo_122 : decode cX8_addSolo 122 = .ok (.iconst 3, 1) := by decide +kernel
theorem dX8_addSolo_123 : decode cX8_addSolo 123 = .ok (.if_icmp .ge 35, 3) := by decide +kernel
theorem dX8_addSolo_126 : decode cX8_addSolo 126 = .ok (.aload_n 0, 1) := by decide +kernel
theorem dX8_addSolo_127 : decode cX8_addSolo 127 = .ok (.getfield 7, 3) := by decide +kernel
theorem dX8_addSolo_130 : decode cX8_addSolo 130 = .ok (.sipush 268, 3) := by decide +kernel
theorem dX8_addSolo_133 : decode cX8_addSolo 133 = .ok (.iconst 3, 1) := by decide +kernel
theorem dX8_addSolo_134 : decode cX8_addSolo 134 = .ok (.iload 4, 2) := by decide +kernel
theorem dX8_addSolo_136 : decode cX8_addSolo 136 = .ok (.imul, 1) := by decide +kernel
theorem dX8_addSolo_137 : decode cX8_addSolo 137 = .ok (.iadd, 1) := by decide +kernel
theorem dX8_addSolo_138 : decode cX8_addSolo 138 = .ok (.iload 5, 2) := by decide +kernel
theorem dX8_addSolo_140 : decode cX8_addSolo 140 = .ok (.iadd, 1) := by decide +kernel
theorem dX8_addSolo_141 : decode cX8_addSolo 141 = .ok (.aload_n 0, 1) := by decide +kernel
theorem dX8_addSolo_142 : decode cX8_addSolo 142 = .ok (.iload 4, 2) := by decide +kernel
theorem dX8_addSolo_144 : decode cX8_addSolo 144 = .ok (.iconst 1, 1) := by decide +kernel
theorem dX8_addSolo_145 : decode cX8_addSolo 145 = .ok (.isub, 1) := by decide +kernel
theorem dX8_addSolo_146 : decode cX8_addSolo 146 = .ok (.iload 5, 2) := by decide +kernel
theorem dX8_addSolo_148 : decode cX8_addSolo 148 = .ok (.invokevirtual 125, 3) := by decide +kernel
theorem dX8_addSolo_151 : decode cX8_addSolo 151 = .ok (.iastore, 1) := by decide +kernel
theorem dX8_addSolo_152 : decode cX8_addSolo 152 = .ok (.iinc 5 1, 3) := by decide +kernel
theorem dX8_addSolo_155 : decode cX8_addSolo 155 = .ok (.goto (-35), 3) := by decide +kernel
theorem dX8_addSolo_158 : decode cX8_addSolo 158 = .ok (.iinc 4 (-1), 3) := by decide +kernel
theorem dX8_addSolo_161 : decode cX8_addSolo 161 = .ok (.goto (-62), 3) := by decide +kernel
theorem dX8_addSolo_164 : decode cX8_addSolo 164 = .ok (.aload_n 0, 1) := by decide +kernel
theorem dX8_addSolo_165 : decode cX8_addSolo 165 = .ok (.getfield 7, 3) := by decide +kernel
theorem dX8_addSolo_168 : decode cX8_addSolo 168 = .ok (.sipush 268, 3) := by decide +kernel
theorem dX8_addSolo_171 : decode cX8_addSolo 171 = .ok (.iconst 3, 1) := by decide +kernel
theorem dX8_addSolo_172 : decode cX8_addSolo 172 = .ok (.iload 4, 2) := by decide +kernel
theorem dX8_addSolo_174 : decode cX8_addSolo 174 = .ok (.imul, 1) := by decide +kernel
theorem dX8_addSolo_175 : decode cX8_addSolo 175 = .ok (.iadd, 1) := by decide +kernel
theorem dX8_addSolo_176 : decode cX8_addSolo 176 = .ok (.iload_n 1, 1) := by decide +kernel
theorem dX8_addSolo_177 : decode cX8_addSolo 177 = .ok (.iastore, 1) := by decide +kernel
theorem dX8_addSolo_178 : decode cX8_addSolo 178 = .ok (.aload_n 0, 1) := by decide +kernel
theorem dX8_addSolo_179 : decode cX8_addSolo 179 = .ok (.getfield 7, 3) := by decide +kernel
theorem dX8_addSolo_182 : decode cX8_addSolo 182 = .ok (.sipush 268, 3) := by decide +kernel
theorem dX8_addSolo_185 : decode cX8_addSolo 185 = .ok (.iconst 3, 1) := by decide +kernel
theorem dX8_addSolo_186 : decode cX8_addSolo 186 = .ok (.iload 4, 2) := by decide +kernel
theorem dX8_addSolo_188 : decode cX8_addSolo 188 = .ok (.imul, 1) := by decide +kernel
theorem dX8_addSolo_189 : decode cX8_addSolo 189 = .ok (.iadd, 1) := by decide +kernel
theorem dX8_addSolo_190 : decode cX8_addSolo 190 = .ok (.iconst 1, 1) := by decide +kernel
theorem dX8_addSolo_191 : decode cX8_addSolo 191 = .ok (.iadd, 1) := by decide +kernel
theorem dX8_addSolo_192 : decode cX8_addSolo 192 = .ok (.iload_n 2, 1) := by decide +kernel
theorem dX8_addSolo_193 : decode cX8_addSolo 193 = .ok (.iastore, 1) := by decide +kernel
theorem dX8_addSolo_194 : decode cX8_addSolo 194 = .ok (.aload_n 0, 1) := by decide +kernel
theorem dX8_addSolo_195 : decode cX8_addSolo 195 = .ok (.getfield 7, 3) := by decide +kernel
theorem dX8_addSolo_198 : decode cX8_addSolo 198 = .ok (.sipush 268, 3) := by decide +kernel
theorem dX8_addSolo_201 : decode cX8_addSolo 201 = .ok (.iconst 3, 1) := by decide +kernel
theorem dX8_addSolo_202 : decode cX8_addSolo 202 = .ok (.iload 4, 2) := by decide +kernel
theorem dX8_addSolo_204 : decode cX8_addSolo 204 = .ok (.imul, 1) := by decide +kernel
theorem dX8_addSolo_205 : decode cX8_addSolo 205 = .ok (.iadd, 1) := by decide +kernel
theorem dX8_addSolo_206 : decode cX8_addSolo 206 = .ok (.iconst 2, 1) := by decide +kernel
theorem dX8_addSolo_207 : decode cX8_addSolo 207 = .ok (.iadd, 1) := by decide +kernel
theorem dX8_addSolo_208 : decode cX8_addSolo 208 = .ok (.iload_n 3, 1) := by decide +kernel
theorem dX8_addSolo_209 : decode cX8_addSolo 209 = .ok (.iastore, 1) := by decide +kernel
theorem dX8_addSolo_210 : decode cX8_addSolo 210 = .ok (.aload_n 0, 1) := by decide +kernel
theorem dX8_addSolo_211 : decode cX8_addSolo 211 = .ok (.getfield 7, 3) := by decide +kernel
theorem dX8_addSolo_214 : decode cX8_addSolo 214 = .ok (.iconst 2, 1) := by decide +kernel
theorem dX8_addSolo_215 : decode cX8_addSolo 215 = .ok (.dup2, 1) := by decide +kernel
theorem dX8_addSolo_216 : decode cX8_addSolo 216 = .ok (.iaload, 1) := by decide +kernel
theorem dX8_addSolo_217 : decode cX8_addSolo 217 = .ok (.iconst 1, 1) := by decide +kernel
theorem dX8_addSolo_218 : decode cX8_addSolo 218 = .ok (.iadd, 1) := by decide +kernel
theorem dX8_addSolo_219 : decode cX8_addSolo 219 = .ok (.iastore, 1) := by decide +kernel
theorem dX8_addSolo_220 : decode cX8_addSolo 220 = .ok (.aload_n 0, 1) := by decide +kernel
theorem dX8_addSolo_221 : decode cX8_addSolo 221 = .ok (.iload 4, 2) := by decide +kernel
theorem dX8_addSolo_223 : decode cX8_addSolo 223 = .ok (.invokevirtual 72, 3) := by decide +kernel
theorem dX8_addSolo_226 : decode cX8_addSolo 226 = .ok (.ireturn, 1) := by decide +kernel
set_option maxRecDepth 20000 in
theorem ggX8_removeSolo_X8_solos : GoodIn wsX8_removeSolo wsX8_solos := goodIn_r _ [6, 1, 21, 22, 23, 24, 25, 26, 27, 28, 29, 30, 31, 32, 33, 34, 35, 36, 37, 38, 39, 40] (by decide +kernel) (by decide +kernel)
set_option maxRecDepth 20000 in
theorem gX8_removeSolo_X8_solos : GoodIn wsX8_removeSolo (wsV RX8 122 RX8 yX8_solos wsX8_solos) := goodIn_app (goodIn_of _ (by decide +kernel)) ggX8_removeSolo_X8_solos
set_option maxRecDepth 20000 in
theorem ggX8_removeSolo_X8_in : GoodIn wsX8_removeSolo wsX8_in := goodIn_r _ [9] (by decide +kernel) (by decide +kernel)
set_option maxRecDepth 20000 in
theorem gX8_removeSolo_X8_in : GoodIn wsX8_removeSolo (va_wsS RX8 61 yX8_in wsX8_in) := goodIn_app (goodIn_of _ (by decide +kernel)) ggX8_removeSolo_X8_in
set_option maxRecDepth 20000 in
theorem ggX8_removeSolo_X8_begin : GoodIn wsX8_removeSolo wsX8_begin := goodIn_r _ [13, 14, 1, 21, 22, 23, 24, 25, 26, 27, 28, 29, 30, 31, 32, 33, 34, 35, 36, 37, 38, 39, 40] (by decide +kernel) (by decide +kernel)
set_option maxRecDepth 20000 in
theorem gX8_removeSolo_X8_begin : GoodIn wsX8_removeSolo (wsV RX8 69 RX8 yX8_begin wsX8_begin) := goodIn_app (goodIn_of _ (by decide +kernel)) ggX8_removeSolo_X8_begin
set_option maxRecDepth 20000 in
theorem ggX8_removeSolo_X8_done : GoodIn wsX8_removeSolo wsX8_done := goodIn_r _ [18, 19, 20, 14, 21, 22, 23, 24, 25, 26, 27, 28, 29, 30, 31, 32, 33, 34, 35, 36, 37, 38, 39, 40] (by decide +kernel) (by decide +kernel)
set_option maxRecDepth 20000 in
theorem gX8_removeSolo_X8_done : GoodIn wsX8_removeSolo (wsV RX8 72 RX8 yX8_done wsX8_done) := goodIn_app (goodIn_of _ (by decide +kernel)) ggX8_removeSolo_X8_done
theorem dX8_removeSolo_0 : decode cX8_removeSolo 0 = .ok (.iload_n 1, 1) := by decide +kernel
theorem dX8_removeSolo_1 : decode cX8_removeSolo 1 = .ok (.iconst 0, 1) := by decide +kernel
theorem dX8_removeSolo_2 : decode cX8_removeSolo 2 = .ok (.aload_n 0, 1) := by decide +kernel
theorem dX8_removeSolo_3 : decode cX8_removeSolo 3 = .ok (.invokevirtual 122, 3) := by decide +kernel
theorem dX8_removeSolo_6 : decode cX8_removeSolo 6 = .ok (.iconst 1, 1) := by decide +kernel
theorem dX8_removeSolo_7 : decode cX8_removeSolo 7 = .ok (.isub, 1) := by decide +kernel
theorem dX8_removeSolo_8 : decode cX8_removeSolo 8 = .ok (.invokestatic 61, 3) := by decide +kernel
theorem dX8_removeSolo_11 : decode cX8_removeSolo 11 = .ok (.ifCond .ne 5, 3) := by decide +kernel
theorem dX8_removeSolo_14 : decode cX8_removeSolo 14 = .ok (.iconst (-1), 1) := by decide +kernel
theorem dX8_removeSolo_15 : decode cX8_removeSolo 15 = .ok (.ireturn, 1) := by decide +kernel
theorem dX8_removeSolo_16 : decode cX8_removeSolo 16 = .ok (.aload_n 0, 1) := by decide +kernel
theorem dX8_removeSolo_17 : decode cX8_removeSolo 17 = .ok (.invokevirtual 69, 3) := by decide +kernel
theorem dX8_removeSolo_20 : decode cX8_removeSolo 20 = .ok (.aload_n 0, 1) := by decide +kernel
theorem dX8_removeSolo_21 : decode cX8_removeSolo 21 = .ok (.getfield 7, 3) := by decide +kernel
theorem dX8_removeSolo_24 : decode cX8_removeSolo 24 = .ok (.iconst 2, 1) := by decide +kernel
theorem dX8_removeSolo_25 : decode cX8_removeSolo 25 = .ok (.dup2, 1) := by decide +kernel
theorem dX8_removeSolo_26 : decode cX8_removeSolo 26 = .ok (.iaload, 1) := by decide +kernel
theorem dX8_removeSolo_27 : decode cX8_removeSolo 27 = .ok (.iconst 1, 1) := by decide +kernel
theorem dX8_removeSolo_28 : decode cX8_removeSolo 28 = .ok (.isub, 1) := by decide +kernel
theorem dX8_removeSolo_29 : decode cX8_removeSolo 29 = .ok (.iastore, 1) := by decide +kernel
theorem dX8_removeSolo_30 : decode cX8_removeSolo 30 = .ok (.sipush 268, 3) := by decide +kernel
theorem dX8_removeSolo_33 : decode cX8_removeSolo 33 = .ok (.iconst 3, 1) := by decide +kernel
theorem dX8_removeSolo_34 : decode cX8_removeSolo 34 = .ok (.iload_n 1, 1) := by decide +kernel
theorem dX8_removeSolo_35 : decode cX8_removeSolo 35 = .ok (.imul, 1) := by decide +kernel
theorem dX8_removeSolo_36 : decode cX8_removeSolo 36 = .ok (.iadd, 1) := by decide +kernel
theorem dX8_removeSolo_37 : decode cX8_removeSolo 37 = .ok (.istore_n 2, 1) := by decide +kernel
theorem dX8_removeSolo_38 : decode cX8_removeSolo 38 = .ok (.iload_n 2, 1) := by decide +kernel
theorem dX8_removeSolo_39 : decode cX8_removeSolo 39 = .ok (.sipush 268, 3) := by decide +kernel
theorem dX8_removeSolo_42 : decode cX8_removeSolo 42 = .ok (.iconst 3, 1) := by decide +kernel
theorem dX8_removeSolo_43 : decode cX8_removeSolo 43 = .ok (.aload_n 0, 1) := by decide +kernel
theorem dX8_removeSolo_44 : decode cX8_removeSolo 44 = .ok (.invokevirtual 122, 3) := by decide +kernel
theorem dX8_removeSolo_47 : decode cX8_removeSolo 47 = .ok (.imul, 1) := by decide +kernel
theorem dX8_removeSolo_48 : decode cX8_removeSolo 48 = .ok (.iadd, 1) := by decide +kernel
theorem dX8_removeSolo_49 : decode cX8_removeSolo 49 = .ok (.if_icmp .ge 23, 3) := by decide +kernel
theorem dX8_removeSolo_52 : decode cX8_removeSolo 52 = .ok (.aload_n 0, 1) := by decide +kernel
theorem dX8_removeSolo_53 : decode cX8_removeSolo 53 = .ok (.getfield 7, 3) := by decide +kernel
theorem dX8_removeSolo_56 : decode cX8_removeSolo 56 = .ok (.iload_n 2, 1) := by decide +kernel
theorem dX8_removeSolo_57 : decode cX8_removeSolo 57 = .ok (.aload_n 0, 1) := by decide +kernel
theorem dX8_removeSolo_58 : decode cX8_removeSolo 58 = .ok (.getfield 7, 3) := by decide +kernel
theorem dX8_removeSolo_61 : decode cX8_removeSolo 61 = .ok (.iload_n 2, 1) := by decide +kernel
theorem dX8_removeSolo_62 : decode cX8_removeSolo 62 = .ok (.iconst 3, 1) := by decide +kernel
theorem dX8_removeSolo_63 : decode cX8_removeSolo 63 = .ok (.iadd, 1) := by decide +kernel
theorem dX8_removeSolo_64 : decode cX8_removeSolo 64 = .ok (.iaload, 1) := by decide +kernel
theorem dX8_removeSolo_65 : decode cX8_removeSolo 65 = .ok (.iastore, 1) := by decide +kernel
theorem dX8_removeSolo_66 : decode cX8_removeSolo 66 = .ok (.iinc 2 1, 3) := by decide +kernel
theorem dX8_removeSolo_69 : decode cX8_removeSolo 69 = .ok (.goto (-31), 3) := by decide +kernel
theorem dX8_removeSolo_72 : decode cX8_removeSolo 72 = .ok (.aload_n 0, 1) := by decide +kernel
theorem dX8_removeSolo_73 : decode cX8_removeSolo 73 = .ok (.aload_n 0, 1) := by decide +kernel
theorem dX8_removeSolo_74 : decode cX8_removeSolo 74 = .ok (.invokevirtual 122, 3) := by decide +kernel
theorem dX8_removeSolo_77 : decode cX8_removeSolo 77 = .ok (.invokevirtual 72, 3) := by decide +kernel
theorem dX8_removeSolo_80 : decode cX8_removeSolo 80 = .ok (.ireturn, 1) := by decide +kernel
set_option maxRecDepth 20000 in
theorem ggX8_soloAt_X8_solos : GoodIn wsX8_soloAt wsX8_solos := goodIn_r _ [5, 6, 14, 15, 16, 17, 18, 19, 20, 21, 22, 23, 24, 25, 26, 27, 28, 29, 30, 31, 32, 33] (by decide +kernel) (by decide +kernel)
set_option maxRecDepth 20000 in
theorem gX8_soloAt_X8_solos : GoodIn wsX8_soloAt (wsV RX8 122 RX8 yX8_solos wsX8_solos) := goodIn_app (goodIn_of _ (by decide +kernel)) ggX8_soloAt_X8_solos
set_option maxRecDepth 20000 in
theorem ggX8_soloAt_X8_soloOf : GoodIn wsX8_soloAt wsX8_soloOf := goodIn_r _ [10, 6, 14, 15, 16, 17, 18, 19, 20, 21, 22, 23, 24, 25, 26, 27, 28, 29, 30, 31, 32, 33] (by decide +kernel) (by decide +kernel)
set_option maxRecDepth 20000 in
theorem gX8_soloAt_X8_soloOf : GoodIn wsX8_soloAt (wsV RX8 125 RX8 yX8_soloOf wsX8_soloOf) := goodIn_app (goodIn_of _ (by decide +kernel)) ggX8_soloAt_X8_soloOf
set_option maxRecDepth 20000 in
theorem ggX8_soloAt_X8_in : GoodIn wsX8_soloAt wsX8_in := goodIn_r _ [13] (by decide +kernel) (by decide +kernel)
set_option maxRecDepth 20000 in
theorem gX8_soloAt_X8_in : GoodIn wsX8_soloAt (va_wsS RX8 61 yX8_in wsX8_in) := goodIn_app (goodIn_of _ (by decide +kernel)) ggX8_soloAt_X8_in
theorem dX8_soloAt_0 : decode cX8_soloAt 0 = .ok (.iconst 0, 1) := by decide +kernel
theorem dX8_soloAt_1 : decode cX8_soloAt 1 = .ok (.istore_n 2, 1) := by decide +kernel
theorem dX8_soloAt_2 : decode cX8_soloAt 2 = .ok (.iload_n 2, 1) := by decide +kernel
theorem dX8_soloAt_3 : decode cX8_soloAt 3 = .ok (.aload_n 0, 1) := by decide +kernel
theorem dX8_soloAt_4 : decode cX8_soloAt 4 = .ok (.invokevirtual 122, 3) := by decide +kernel
theorem dX8_soloAt_7 : decode cX8_soloAt 7 = .ok (.if_icmp .ge 30, 3) := by decide +kernel
theorem dX8_soloAt_10 : decode cX8_soloAt 10 = .ok (.iload_n 1, 1) := by decide +kernel
theorem dX8_soloAt_11 : decode cX8_soloAt 11 = .ok (.aload_n 0, 1) := by decide +kernel
theorem dX8_soloAt_12 : decode cX8_soloAt 12 = .ok (.iload_n 2, 1) := by decide +kernel
theorem dX8_soloAt_13 : decode cX8_soloAt 13 = .ok (.iconst 1, 1) := by decide +kernel
theorem dX8_soloAt_14 : decode cX8_soloAt 14 = .ok (.invokevirtual 125, 3) := by decide +kernel
theorem dX8_soloAt_17 : decode cX8_soloAt 17 = .ok (.aload_n 0, 1) := by decide +kernel
theorem dX8_soloAt_18 : decode cX8_soloAt 18 = .ok (.iload_n 2, 1) := by decide +kernel
theorem dX8_soloAt_19 : decode cX8_soloAt 19 = .ok (.iconst 2, 1) := by decide +kernel
theorem dX8_soloAt_20 : decode cX8_soloAt 20 = .ok (.invokevirtual 125, 3) := by decide +kernel
theorem dX8_soloAt_23 : decode cX8_soloAt 23 = .ok (.invokestatic 61, 3) := by decide +kernel
theorem dX8_soloAt_26 : decode cX8_soloAt 26 = .ok (.ifCond .eq 5, 3) := by decide +kernel
theorem dX8_soloAt_29 : decode cX8_soloAt 29 = .ok (.iload_n 2, 1) := by decide +kernel
theorem dX8_soloAt_30 : decode cX8_soloAt 30 = .ok (.ireturn, 1) := by decide +kernel
theorem dX8_soloAt_31 : decode cX8_soloAt 31 = .ok (.iinc 2 1, 3) := by decide +kernel
theorem dX8_soloAt_34 : decode cX8_soloAt 34 = .ok (.goto (-32), 3) := by decide +kernel
theorem dX8_soloAt_37 : decode cX8_soloAt 37 = .ok (.bipush (-5), 2) := by decide +kernel
theorem dX8_soloAt_39 : decode cX8_soloAt 39 = .ok (.ireturn, 1) := by decide +kernel
theorem dX8_isMarked_0 : decode cX8_isMarked 0 = .ok (.aload_n 0, 1) := by decide +kernel
theorem dX8_isMarked_1 : decode cX8_isMarked 1 = .ok (.getfield 7, 3) := by decide +kernel
theorem dX8_isMarked_4 : decode cX8_isMarked 4 = .ok (.sipush 232, 3) := by decide +kernel
theorem dX8_isMarked_7 : decode cX8_isMarked 7 = .ok (.iconst 3, 1) := by decide +kernel
theorem dX8_isMarked_8 : decode cX8_isMarked 8 = .ok (.iload_n 1, 1) := by decide +kernel
theorem dX8_isMarked_9 : decode cX8_isMarked 9 = .ok (.imul, 1) := by decide +kernel
theorem dX8_isMarked_10 : decode cX8_isMarked 10 = .ok (.iadd, 1) := by decide +kernel
theorem dX8_isMarked_11 : decode cX8_isMarked 11 = .ok (.iload_n 2, 1) := by decide +kernel
theorem dX8_isMarked_12 : decode cX8_isMarked 12 = .ok (.bipush 32, 2) := by decide +kernel
theorem dX8_isMarked_14 : decode cX8_isMarked 14 = .ok (.idiv, 1) := by decide +kernel
theorem dX8_isMarked_15 : decode cX8_isMarked 15 = .ok (.iadd, 1) := by decide +kernel
theorem dX8_isMarked_16 : decode cX8_isMarked 16 = .ok (.iaload, 1) := by decide +kernel
theorem dX8_isMarked_17 : decode cX8_isMarked 17 = .ok (.iload_n 2, 1) := by decide +kernel
theorem dX8_isMarked_18 : decode cX8_isMarked 18 = .ok (.bipush 32, 2) := by decide +kernel
theorem dX8_isMarked_20 : decode cX8_isMarked 20 = .ok (.irem, 1) := by decide +kernel
theorem dX8_isMarked_21 : decode cX8_isMarked 21 = .ok (.ishr, 1) := by decide +kernel
theorem dX8_isMarked_22 : decode cX8_isMarked 22 = .ok (.iconst 1, 1) := by decide +kernel
theorem dX8_isMarked_23 : decode cX8_isMarked 23 = .ok (.iand, 1) := by decide +kernel
theorem dX8_isMarked_24 : decode cX8_isMarked 24 = .ok (.iconst 1, 1) := by decide +kernel
theorem dX8_isMarked_25 : decode cX8_isMarked 25 = .ok (.if_icmp .ne 7, 3) := by decide +kernel
theorem dX8_isMarked_28 : decode cX8_isMarked 28 = .ok (.iconst 1, 1) := by decide +kernel
theorem dX8_isMarked_29 : decode cX8_isMarked 29 = .ok (.goto 4, 3) := by decide +kernel
theorem dX8_isMarked_32 : decode cX8_isMarked 32 = .ok (.iconst 0, 1) := by decide +kernel
theorem dX8_isMarked_33 : decode cX8_isMarked 33 = .ok (.ireturn, 1) := by decide +kernel
theorem dX8_setMark_0 : decode cX8_setMark 0 = .ok (.aload_n 0, 1) := by decide +kernel
theorem dX8_setMark_1 : decode cX8_setMark 1 = .ok (.getfield 7, 3) := by decide +kernel
theorem dX8_setMark_4 : decode cX8_setMark 4 = .ok (.sipush 232, 3) := by decide +kernel
theorem dX8_setMark_7 : decode cX8_setMark 7 = .ok (.iconst 3, 1) := by decide +kernel
theorem dX8_setMark_8 : decode cX8_setMark 8 = .ok (.iload_n 1, 1) := by decide +kernel
theorem dX8_setMark_9 : decode cX8_setMark 9 = .ok (.imul, 1) := by decide +kernel
theorem dX8_setMark_10 : decode cX8_setMark 10 = .ok (.iadd, 1) := by decide +kernel
theorem dX8_setMark_11 : decode cX8_setMark 11 = .ok (.iload_n 2, 1) := by decide +kernel
theorem dX8_setMark_12 : decode cX8_setMark 12 = .ok (.bipush 32, 2) := by decide +kernel
theorem dX8_setMark_14 : decode cX8_setMark 14 = .ok (.idiv, 1) := by decide +kernel
theorem dX8_setMark_15 : decode cX8_setMark 15 = .ok (.iadd, 1) := by decide +kernel
theorem dX8_setMark_16 : decode cX8_setMark 16 = .ok (.dup2, 1) := by decide +kernel
theorem dX8_setMark_17 : decode cX8_setMark 17 = .ok (.iaload, 1) := by decide +kernel
theorem dX8_setMark_18 : decode cX8_setMark 18 = .ok (.iconst 1, 1) := by decide +kernel
theorem dX8_setMark_19 : decode cX8_setMark 19 = .ok (.iload_n 2, 1) := by decide +kernel
theorem dX8_setMark_20 : decode cX8_setMark 20 = .ok (.bipush 32, 2) := by decide +kernel
theorem dX8_setMark_22 : decode cX8_setMark 22 = .ok (.irem, 1) := by decide +kernel
theorem dX8_setMark_23 : decode cX8_setMark 23 = .ok (.ishl, 1) := by decide +kernel
theorem dX8_setMark_24 : decode cX8_setMark 24 = .ok (.ixor, 1) := by decide +kernel
theorem dX8_setMark_25 : decode cX8_setMark 25 = .ok (.iastore, 1) := by decide +kernel
theorem dX8_setMark_26 : decode cX8_setMark 26 = .ok (.return_, 1) := by decide +kernel
theorem dX8_clearMarks_0 : decode cX8_clearMarks 0 = .ok (.sipush 232, 3) := by decide +kernel
theorem dX8_clearMarks_3 : decode cX8_clearMarks 3 = .ok (.istore_n 1, 1) := by decide +kernel
theorem dX8_clearMarks_4 : decode cX8_clearMarks 4 = .ok (.iload_n 1, 1) := by decide +kernel
theorem dX8_clearMarks_5 : decode cX8_clearMarks 5 = .ok (.sipush 268, 3) := by decide +kernel
theorem dX8_clearMarks_8 : decode cX8_clearMarks 8 = .ok (.if_icmp .ge 16, 3) := by decide +kernel
theorem dX8_clearMarks_11 : decode cX8_clearMarks 11 = .ok (.aload_n 0, 1) := by decide +kernel
theorem dX8_clearMarks_12 : decode cX8_clearMarks 12 = .ok (.getfield 7, 3) := by decide +kernel
theorem dX8_clearMarks_15 : decode cX8_clearMarks 15 = .ok (.iload_n 1, 1) := by decide +kernel
theorem dX8_clearMarks_16 : decode cX8_clearMarks 16 = .ok (.iconst 0, 1) := by decide +kernel
theorem dX8_clearMarks_17 : decode cX8_clearMarks 17 = .ok (.iastore, 1) := by decide +kernel
theorem dX8_clearMarks_18 : decode cX8_clearMarks 18 = .ok (.iinc 1 1, 3) := by decide +kernel
theorem dX8_clearMarks_21 : decode cX8_clearMarks 21 = .ok (.goto (-17), 3) := by decide +kernel
theorem dX8_clearMarks_24 : decode cX8_clearMarks 24 = .ok (.return_, 1) := by decide +kernel
set_option maxRecDepth 20000 in
theorem ggX8_marksOf_X8_beats : GoodIn wsX8_marksOf wsX8_beats := goodIn_r _ [5, 6, 11, 12, 13, 14, 15, 16, 17, 18, 19, 20, 21, 22, 23, 24, 25, 26, 27, 28, 29, 30] (by decide +kernel) (by decide +kernel)
set_option maxRecDepth 20000 in
theorem gX8_marksOf_X8_beats : GoodIn wsX8_marksOf (wsV RX8 65 RX8 yX8_beats wsX8_beats) := goodIn_app (goodIn_of _ (by decide +kernel)) ggX8_marksOf_X8_beats
set_option maxRecDepth 20000 in
theorem ggX8_marksOf_X8_isMarked : GoodIn wsX8_marksOf wsX8_isMarked := goodIn_r _ [10, 6, 11, 12, 13, 14, 15, 16, 17, 18, 19, 20, 21, 22, 23, 24, 25, 26, 27, 28, 29, 30] (by decide +kernel) (by decide +kernel)
set_option maxRecDepth 20000 in
theorem gX8_marksOf_X8_isMarked : GoodIn wsX8_marksOf (wsV RX8 128 RX8 yX8_isMarked wsX8_isMarked) := goodIn_app (goodIn_of _ (by decide +kernel)) ggX8_marksOf_X8_isMarked
theorem dX8_marksOf_0 : decode cX8_marksOf 0 = .ok (.iconst 0, 1) := by decide +kernel
theorem dX8_marksOf_1 : decode cX8_marksOf 1 = .ok (.istore_n 2, 1) := by decide +kernel
theorem dX8_marksOf_2 : decode cX8_marksOf 2 = .ok (.iconst 0, 1) := by decide +kernel
theorem dX8_marksOf_3 : decode cX8_marksOf 3 = .ok (.istore_n 3, 1) := by decide +kernel
theorem dX8_marksOf_4 : decode cX8_marksOf 4 = .ok (.iload_n 3, 1) := by decide +kernel
theorem dX8_marksOf_5 : decode cX8_marksOf 5 = .ok (.aload_n 0, 1) := by decide +kernel
theorem dX8_marksOf_6 : decode cX8_marksOf 6 = .ok (.invokevirtual 65, 3) := by decide +kernel
theorem dX8_marksOf_9 : decode cX8_marksOf 9 = .ok (.if_icmp .ge 26, 3) := by decide +kernel
theorem dX8_marksOf_12 : decode cX8_marksOf 12 = .ok (.iload_n 2, 1) := by decide +kernel
theorem dX8_marksOf_13 : decode cX8_marksOf 13 = .ok (.aload_n 0, 1) := by decide +kernel
theorem dX8_marksOf_14 : decode cX8_marksOf 14 = .ok (.iload_n 1, 1) := by decide +kernel
theorem dX8_marksOf_15 : decode cX8_marksOf 15 = .ok (.iload_n 3, 1) := by decide +kernel
theorem dX8_marksOf_16 : decode cX8_marksOf 16 = .ok (.invokevirtual 128, 3) := by decide +kernel
theorem dX8_marksOf_19 : decode cX8_marksOf 19 = .ok (.ifCond .eq 7, 3) := by decide +kernel
theorem dX8_marksOf_22 : decode cX8_marksOf 22 = .ok (.iconst 1, 1) := by decide +kernel
theorem dX8_marksOf_23 : decode cX8_marksOf 23 = .ok (.goto 4, 3) := by decide +kernel
theorem dX8_marksOf_26 : decode cX8_marksOf 26 = .ok (.iconst 0, 1) := by decide +kernel
theorem dX8_marksOf_27 : decode cX8_marksOf 27 = .ok (.iadd, 1) := by decide +kernel
theorem dX8_marksOf_28 : decode cX8_marksOf 28 = .ok (.istore_n 2, 1) := by decide +kernel
theorem dX8_marksOf_29 : decode cX8_marksOf 29 = .ok (.iinc 3 1, 3) := by decide +kernel
theorem dX8_marksOf_32 : decode cX8_marksOf 32 = .ok (.goto (-28), 3) := by decide +kernel
theorem dX8_marksOf_35 : decode cX8_marksOf 35 = .ok (.iload_n 2, 1) := by decide +kernel
theorem dX8_marksOf_36 : decode cX8_marksOf 36 = .ok (.ireturn, 1) := by decide +kernel
set_option maxRecDepth 20000 in
theorem ggX8_allMarks_X8_singers : GoodIn wsX8_allMarks wsX8_singers := goodIn_r _ [5, 6, 19, 20, 21, 22, 23, 24, 25, 26, 27, 28, 29, 30, 31, 32, 33, 34, 35, 36, 37, 38] (by decide +kernel) (by decide +kernel)
set_option maxRecDepth 20000 in
theorem gX8_allMarks_X8_singers : GoodIn wsX8_allMarks (wsV RX8 76 RX8 yX8_singers wsX8_singers) := goodIn_app (goodIn_of _ (by decide +kernel)) ggX8_allMarks_X8_singers
set_option maxRecDepth 20000 in
theorem ggX8_allMarks_X8_marksOf : GoodIn wsX8_allMarks wsX8_marksOf := goodIn_r _ [10, 11, 12, 13, 4, 14, 6, 15, 16, 17, 18, 19, 20, 21, 22, 23, 24, 25, 26, 27, 28, 29, 30, 31, 32, 33, 34, 35, 36, 37, 38] (by decide +kernel) (by decide +kernel)
set_option maxRecDepth 20000 in
theorem gX8_allMarks_X8_marksOf : GoodIn wsX8_allMarks (wsV RX8 132 RX8 yX8_marksOf wsX8_marksOf) := goodIn_app (goodIn_of _ (by decide +kernel)) ggX8_allMarks_X8_marksOf
theorem dX8_allMarks_0 : decode cX8_allMarks 0 = .ok (.iconst 0, 1) := by decide +kernel
theorem dX8_allMarks_1 : decode cX8_allMarks 1 = .ok (.istore_n 1, 1) := by decide +kernel
theorem dX8_allMarks_2 : decode cX8_allMarks 2 = .ok (.iconst 0, 1) := by decide +kernel
theorem dX8_allMarks_3 : decode cX8_allMarks 3 = .ok (.istore_n 2, 1) := by decide +kernel
theorem dX8_allMarks_4 : decode cX8_allMarks 4 = .ok (.iload_n 2, 1) := by decide +kernel
theorem dX8_allMarks_5 : decode cX8_allMarks 5 = .ok (.aload_n 0, 1) := by decide +kernel
theorem dX8_allMarks_6 : decode cX8_allMarks 6 = .ok (.invokevirtual 76, 3) := by decide +kernel
theorem dX8_allMarks_9 : decode cX8_allMarks 9 = .ok (.if_icmp .ge 17, 3) := by decide +kernel
theorem dX8_allMarks_12 : decode cX8_allMarks 12 = .ok (.iload_n 1, 1) := by decide +kernel
theorem dX8_allMarks_13 : decode cX8_allMarks 13 = .ok (.aload_n 0, 1) := by decide +kernel
theorem dX8_allMarks_14 : decode cX8_allMarks 14 = .ok (.iload_n 2, 1) := by decide +kernel
theorem dX8_allMarks_15 : decode cX8_allMarks 15 = .ok (.invokevirtual 132, 3) := by decide +kernel
theorem dX8_allMarks_18 : decode cX8_allMarks 18 = .ok (.iadd, 1) := by decide +kernel
theorem dX8_allMarks_19 : decode cX8_allMarks 19 = .ok (.istore_n 1, 1) := by decide +kernel
theorem dX8_allMarks_20 : decode cX8_allMarks 20 = .ok (.iinc 2 1, 3) := by decide +kernel
theorem dX8_allMarks_23 : decode cX8_allMarks 23 = .ok (.goto (-19), 3) := by decide +kernel
theorem dX8_allMarks_26 : decode cX8_allMarks 26 = .ok (.iload_n 1, 1) := by decide +kernel
theorem dX8_allMarks_27 : decode cX8_allMarks 27 = .ok (.ireturn, 1) := by decide +kernel
set_option maxRecDepth 20000 in
theorem ggX8_mark_X8_noSinger : GoodIn wsX8_mark wsX8_noSinger := goodIn_r _ [5, 6, 7, 8, 4, 9, 10, 11, 12, 13, 45, 46, 47, 48, 49, 50, 51, 52, 53, 54, 55, 56, 57, 58, 59, 60, 61, 62, 63, 64] (by decide +kernel) (by decide +kernel)
set_option maxRecDepth 20000 in
theorem gX8_mark_X8_noSinger : GoodIn wsX8_mark (wsV RX8 116 RX8 yX8_noSinger wsX8_noSinger) := goodIn_app (goodIn_of _ (by decide +kernel)) ggX8_mark_X8_noSinger
set_option maxRecDepth 20000 in
theorem ggX8_mark_X8_noBeat : GoodIn wsX8_mark wsX8_noBeat := goodIn_r _ [17, 18, 19, 20, 4, 21, 10, 11, 12, 13, 45, 46, 47, 48, 49, 50, 51, 52, 53, 54, 55, 56, 57, 58, 59, 60, 61, 62, 63, 64] (by decide +kernel) (by decide +kernel)
set_option maxRecDepth 20000 in
theorem gX8_mark_X8_noBeat : GoodIn wsX8_mark (wsV RX8 105 RX8 yX8_noBeat wsX8_noBeat) := goodIn_app (goodIn_of _ (by decide +kernel)) ggX8_mark_X8_noBeat
set_option maxRecDepth 20000 in
theorem ggX8_mark_X8_isMarked : GoodIn wsX8_mark wsX8_isMarked := goodIn_r _ [25, 10, 45, 46, 47, 48, 49, 50, 51, 52, 53, 54, 55, 56, 57, 58, 59, 60, 61, 62, 63, 64] (by decide +kernel) (by decide +kernel)
set_option maxRecDepth 20000 in
theorem gX8_mark_X8_isMarked : GoodIn wsX8_mark (wsV RX8 128 RX8 yX8_isMarked wsX8_isMarked) := goodIn_app (goodIn_of _ (by decide +kernel)) ggX8_mark_X8_isMarked
set_option maxRecDepth 20000 in
theorem ggX8_mark_X8_begin : GoodIn wsX8_mark wsX8_begin := goodIn_r _ [29, 30, 10, 45, 46, 47, 48, 49, 50, 51, 52, 53, 54, 55, 56, 57, 58, 59, 60, 61, 62, 63, 64] (by decide +kernel) (by decide +kernel)
set_option maxRecDepth 20000 in
theorem gX8_mark_X8_begin : GoodIn wsX8_mark (wsV RX8 69 RX8 yX8_begin wsX8_begin) := goodIn_app (goodIn_of _ (by decide +kernel)) ggX8_mark_X8_begin
set_option maxRecDepth 20000 in
theorem ggX8_mark_X8_setMark : GoodIn wsX8_mark wsX8_setMark := goodIn_r _ [34, 10, 45, 46, 47, 48, 49, 50, 51, 52, 53, 54, 55, 56, 57, 58, 59, 60, 61, 62, 63, 64] (by decide +kernel) (by decide +kernel)
set_option maxRecDepth 20000 in
theorem gX8_mark_X8_setMark : GoodIn wsX8_mark (wsV RX8 135 RX8 yX8_setMark wsX8_setMark) := goodIn_app (goodIn_of _ (by decide +kernel)) ggX8_mark_X8_setMark
set_option maxRecDepth 20000 in
theorem ggX8_mark_X8_marksOf : GoodIn wsX8_mark wsX8_marksOf := goodIn_r _ [38, 18, 19, 20, 4, 21, 10, 22, 23, 24, 25, 45, 46, 47, 48, 49, 50, 51, 52, 53, 54, 55, 56, 57, 58, 59, 60, 61, 62, 63, 64] (by decide +kernel) (by decide +kernel)
set_option maxRecDepth 20000 in
theorem gX8_mark_X8_marksOf : GoodIn wsX8_mark (wsV RX8 132 RX8 yX8_marksOf wsX8_marksOf) := goodIn_app (goodIn_of _ (by decide +kernel)) ggX8_mark_X8_marksOf
set_option maxRecDepth 20000 in
theorem ggX8_mark_X8_done : GoodIn wsX8_mark wsX8_done := goodIn_r _ [42, 43, 44, 30, 45, 46, 47, 48, 49, 50, 51, 52, 53, 54, 55, 56, 57, 58, 59, 60, 61, 62, 63, 64] (by decide +kernel) (by decide +kernel)
set_option maxRecDepth 20000 in
theorem gX8_mark_X8_done : GoodIn wsX8_mark (wsV RX8 72 RX8 yX8_done wsX8_done) := goodIn_app (goodIn_of _ (by decide +kernel)) ggX8_mark_X8_done
theorem dX8_mark_0 : decode cX8_mark 0 = .ok (.aload_n 0, 1) := by decide +kernel
theorem dX8_mark_1 : decode cX8_mark 1 = .ok (.iload_n 1, 1) := by decide +kernel
theorem dX8_mark_2 : decode cX8_mark 2 = .ok (.invokevirtual 116, 3) := by decide +kernel
theorem dX8_mark_5 : decode cX8_mark 5 = .ok (.ifCond .ne 11, 3) := by decide +kernel
theorem dX8_mark_8 : decode cX8_mark 8 = .ok (.aload_n 0, 1) := by decide +kernel
theorem dX8_mark_9 : decode cX8_mark 9 = .ok (.iload_n 2, 1) := by decide +kernel
theorem dX8_mark_10 : decode cX8_mark 10 = .ok (.invokevirtual 105, 3) := by decide +kernel
theorem dX8_mark_13 : decode cX8_mark 13 = .ok (.ifCond .eq 5, 3) := by decide +kernel
theorem dX8_mark_16 : decode cX8_mark 16 = .ok (.iconst (-1), 1) := by decide +kernel
theorem dX8_mark_17 : decode cX8_mark 17 = .ok (.ireturn, 1) := by decide +kernel
theorem dX8_mark_18 : decode cX8_mark 18 = .ok (.aload_n 0, 1) := by decide +kernel
theorem dX8_mark_19 : decode cX8_mark 19 = .ok (.iload_n 1, 1) := by decide +kernel
theorem dX8_mark_20 : decode cX8_mark 20 = .ok (.iload_n 2, 1) := by decide +kernel
theorem dX8_mark_21 : decode cX8_mark 21 = .ok (.invokevirtual 128, 3) := by decide +kernel
theorem dX8_mark_24 : decode cX8_mark 24 = .ok (.iload_n 3, 1) := by decide +kernel
theorem dX8_mark_25 : decode cX8_mark 25 = .ok (.if_icmp .ne 6, 3) := by decide +kernel
theorem dX8_mark_28 : decode cX8_mark 28 = .ok (.bipush (-5), 2) := by decide +kernel
theorem dX8_mark_30 : decode cX8_mark 30 = .ok (.ireturn, 1) := by decide +kernel
theorem dX8_mark_31 : decode cX8_mark 31 = .ok (.aload_n 0, 1) := by decide +kernel
theorem dX8_mark_32 : decode cX8_mark 32 = .ok (.invokevirtual 69, 3) := by decide +kernel
theorem dX8_mark_35 : decode cX8_mark 35 = .ok (.aload_n 0, 1) := by decide +kernel
theorem dX8_mark_36 : decode cX8_mark 36 = .ok (.iload_n 1, 1) := by decide +kernel
theorem dX8_mark_37 : decode cX8_mark 37 = .ok (.iload_n 2, 1) := by decide +kernel
theorem dX8_mark_38 : decode cX8_mark 38 = .ok (.invokevirtual 135, 3) := by decide +kernel
theorem dX8_mark_41 : decode cX8_mark 41 = .ok (.aload_n 0, 1) := by decide +kernel
theorem dX8_mark_42 : decode cX8_mark 42 = .ok (.aload_n 0, 1) := by decide +kernel
theorem dX8_mark_43 : decode cX8_mark 43 = .ok (.iload_n 1, 1) := by decide +kernel
theorem dX8_mark_44 : decode cX8_mark 44 = .ok (.invokevirtual 132, 3) := by decide +kernel
theorem dX8_mark_47 : decode cX8_mark 47 = .ok (.invokevirtual 72, 3) := by decide +kernel
theorem dX8_mark_50 : decode cX8_mark 50 = .ok (.ireturn, 1) := by decide +kernel
set_option maxRecDepth 20000 in
theorem ggX8_setReserve_X8_in : GoodIn wsX8_setReserve wsX8_in := goodIn_r _ [5] (by decide +kernel) (by decide +kernel)
set_option maxRecDepth 20000 in
theorem gX8_setReserve_X8_in : GoodIn wsX8_setReserve (va_wsS RX8 61 yX8_in wsX8_in) := goodIn_app (goodIn_of _ (by decide +kernel)) ggX8_setReserve_X8_in
set_option maxRecDepth 20000 in
theorem ggX8_setReserve_X8_begin : GoodIn wsX8_setReserve wsX8_begin := goodIn_r _ [9, 10, 1, 17, 18, 19, 20, 21, 22, 23, 24, 25, 26, 27, 28, 29, 30, 31, 32, 33, 34, 35, 36] (by decide +kernel) (by decide +kernel)
set_option maxRecDepth 20000 in
theorem gX8_setReserve_X8_begin : GoodIn wsX8_setReserve (wsV RX8 69 RX8 yX8_begin wsX8_begin) := goodIn_app (goodIn_of _ (by decide +kernel)) ggX8_setReserve_X8_begin
set_option maxRecDepth 20000 in
theorem ggX8_setReserve_X8_done : GoodIn wsX8_setReserve wsX8_done := goodIn_r _ [14, 15, 16, 10, 17, 18, 19, 20, 21, 22, 23, 24, 25, 26, 27, 28, 29, 30, 31, 32, 33, 34, 35, 36] (by decide +kernel) (by decide +kernel)
set_option maxRecDepth 20000 in
theorem gX8_setReserve_X8_done : GoodIn wsX8_setReserve (wsV RX8 72 RX8 yX8_done wsX8_done) := goodIn_app (goodIn_of _ (by decide +kernel)) ggX8_setReserve_X8_done
theorem dX8_setReserve_0 : decode cX8_setReserve 0 = .ok (.iload_n 1, 1) := by decide +kernel
theorem dX8_setReserve_1 : decode cX8_setReserve 1 = .ok (.iconst 1, 1) := by decide +kernel
theorem dX8_setReserve_2 : decode cX8_setReserve 2 = .ok (.bipush 8, 2) := by decide +kernel
theorem dX8_setReserve_4 : decode cX8_setReserve 4 = .ok (.invokestatic 61, 3) := by decide +kernel
theorem dX8_setReserve_7 : decode cX8_setReserve 7 = .ok (.ifCond .ne 6, 3) := by decide +kernel
theorem dX8_setReserve_10 : decode cX8_setReserve 10 = .ok (.bipush (-2), 2) := by decide +kernel
theorem dX8_setReserve_12 : decode cX8_setReserve 12 = .ok (.ireturn, 1) := by decide +kernel
theorem dX8_setReserve_13 : decode cX8_setReserve 13 = .ok (.aload_n 0, 1) := by decide +kernel
theorem dX8_setReserve_14 : decode cX8_setReserve 14 = .ok (.invokevirtual 69, 3) := by decide +kernel
theorem dX8_setReserve_17 : decode cX8_setReserve 17 = .ok (.aload_n 0, 1) := by decide +kernel
theorem dX8_setReserve_18 : decode cX8_setReserve 18 = .ok (.getfield 7, 3) := by decide +kernel
theorem dX8_setReserve_21 : decode cX8_setReserve 21 = .ok (.iconst 3, 1) := by decide +kernel
theorem dX8_setReserve_22 : decode cX8_setReserve 22 = .ok (.iaload, 1) := by decide +kernel
theorem dX8_setReserve_23 : decode cX8_setReserve 23 = .ok (.istore_n 2, 1) := by decide +kernel
theorem dX8_setReserve_24 : decode cX8_setReserve 24 = .ok (.aload_n 0, 1) := by decide +kernel
theorem dX8_setReserve_25 : decode cX8_setReserve 25 = .ok (.getfield 7, 3) := by decide +kernel
theorem dX8_setReserve_28 : decode cX8_setReserve 28 = .ok (.iconst 3, 1) := by decide +kernel
theorem dX8_setReserve_29 : decode cX8_setReserve 29 = .ok (.iload_n 1, 1) := by decide +kernel
theorem dX8_setReserve_30 : decode cX8_setReserve 30 = .ok (.iastore, 1) := by decide +kernel
theorem dX8_setReserve_31 : decode cX8_setReserve 31 = .ok (.aload_n 0, 1) := by decide +kernel
theorem dX8_setReserve_32 : decode cX8_setReserve 32 = .ok (.iload_n 2, 1) := by decide +kernel
theorem dX8_setReserve_33 : decode cX8_setReserve 33 = .ok (.invokevirtual 72, 3) := by decide +kernel
theorem dX8_setReserve_36 : decode cX8_setReserve 36 = .ok (.ireturn, 1) := by decide +kernel
set_option maxRecDepth 20000 in
theorem ggX8_hasTo_X8_soloAt : GoodIn wsX8_hasTo wsX8_soloAt := goodIn_r _ [5, 6, 7, 8, 4, 9, 10, 11, 12, 13, 14, 15, 16, 17, 26, 27, 28, 29, 30, 31, 32, 33, 34, 35, 36, 37, 38, 39, 40, 41, 42, 43, 44, 45] (by decide +kernel) (by decide +kernel)
set_option maxRecDepth 20000 in
theorem gX8_hasTo_X8_soloAt : GoodIn wsX8_hasTo (wsV RX8 139 RX8 yX8_soloAt wsX8_soloAt) := goodIn_app (goodIn_of _ (by decide +kernel)) ggX8_hasTo_X8_soloAt
set_option maxRecDepth 20000 in
theorem ggX8_hasTo_X8_isRest : GoodIn wsX8_hasTo wsX8_isRest := goodIn_r _ [21, 10, 26, 27, 28, 29, 30, 31, 32, 33, 34, 35, 36, 37, 38, 39, 40, 41, 42, 43, 44, 45] (by decide +kernel) (by decide +kernel)
set_option maxRecDepth 20000 in
theorem gX8_hasTo_X8_isRest : GoodIn wsX8_hasTo (wsV RX8 109 RX8 yX8_isRest wsX8_isRest) := goodIn_app (goodIn_of _ (by decide +kernel)) ggX8_hasTo_X8_isRest
set_option maxRecDepth 20000 in
theorem ggX8_hasTo_X8_of : GoodIn wsX8_hasTo wsX8_of := goodIn_r _ [25, 10, 26, 27, 28, 29, 30, 31, 32, 33, 34, 35, 36, 37, 38, 39, 40, 41, 42, 43, 44, 45] (by decide +kernel) (by decide +kernel)
set_option maxRecDepth 20000 in
theorem gX8_hasTo_X8_of : GoodIn wsX8_hasTo (wsV RX8 112 RX8 yX8_of wsX8_of) := goodIn_app (goodIn_of _ (by decide +kernel)) ggX8_hasTo_X8_of
set_option maxRecDepth 20000 in
theorem ggX8_hasTo_X8_soloOf : GoodIn wsX8_hasTo wsX8_soloOf := goodIn_r _ [14, 10, 26, 27, 28, 29, 30, 31, 32, 33, 34, 35, 36, 37, 38, 39, 40, 41, 42, 43, 44, 45] (by decide +kernel) (by decide +kernel)
set_option maxRecDepth 20000 in
theorem gX8_hasTo_X8_soloOf : GoodIn wsX8_hasTo (wsV RX8 125 RX8 yX8_soloOf wsX8_soloOf) := goodIn_app (goodIn_of _ (by decide +kernel)) ggX8_hasTo_X8_soloOf
theorem dX8_hasTo_0 : decode cX8_hasTo 0 = .ok (.aload_n 0, 1) := by decide +kernel
theorem dX8_hasTo_1 : decode cX8_hasTo 1 = .ok (.iload_n 2, 1) := by decide +kernel
theorem dX8_hasTo_2 : decode cX8_hasTo 2 = .ok (.invokevirtual 139, 3) := by decide +kernel
theorem dX8_hasTo_5 : decode cX8_hasTo 5 = .ok (.istore_n 3, 1) := by decide +kernel
theorem dX8_hasTo_6 : decode cX8_hasTo 6 = .ok (.aload_n 0, 1) := by decide +kernel
theorem dX8_hasTo_7 : decode cX8_hasTo 7 = .ok (.iload_n 2, 1) := by decide +kernel
theorem dX8_hasTo_8 : decode cX8_hasTo 8 = .ok (.invokevirtual 109, 3) := by decide +kernel
theorem dX8_hasTo_11 : decode cX8_hasTo 11 = .ok (.ifCond .ne 31, 3) := by decide +kernel
theorem dX8_hasTo_14 : decode cX8_hasTo 14 = .ok (.aload_n 0, 1) := by decide +kernel
theorem dX8_hasTo_15 : decode cX8_hasTo 15 = .ok (.iload_n 1, 1) := by decide +kernel
theorem dX8_hasTo_16 : decode cX8_hasTo 16 = .ok (.iconst 2, 1) := by decide +kernel
theorem dX8_hasTo_17 : decode cX8_hasTo 17 = .ok (.invokevirtual 112, 3) := by decide +kernel
theorem dX8_hasTo_20 : decode cX8_hasTo 20 = .ok (.iconst 1, 1) := by decide +kernel
theorem dX8_hasTo_21 : decode cX8_hasTo 21 = .ok (.if_icmp .ne 21, 3) := by decide +kernel
theorem dX8_hasTo_24 : decode cX8_hasTo 24 = .ok (.iload_n 3, 1) := by decide +kernel
theorem dX8_hasTo_25 : decode cX8_hasTo 25 = .ok (.ifCond .lt 13, 3) := by decide +kernel
theorem dX8_hasTo_28 : decode cX8_hasTo 28 = .ok (.aload_n 0, 1) := by decide +kernel
theorem dX8_hasTo_29 : decode cX8_hasTo 29 = .ok (.iload_n 3, 1) := by decide +kernel
theorem dX8_hasTo_30 : decode cX8_hasTo 30 = .ok (.iconst 0, 1) := by decide +kernel
theorem dX8_hasTo_31 : decode cX8_hasTo 31 = .ok (.invokevirtual 125, 3) := by decide +kernel
theorem dX8_hasTo_34 : decode cX8_hasTo 34 = .ok (.iload_n 1, 1) := by decide +kernel
theorem dX8_hasTo_35 : decode cX8_hasTo 35 = .ok (.if_icmp .ne 7, 3) := by decide +kernel
theorem dX8_hasTo_38 : decode cX8_hasTo 38 = .ok (.iconst 1, 1) := by decide +kernel
theorem dX8_hasTo_39 : decode cX8_hasTo 39 = .ok (.goto 4, 3) := by decide +kernel
theorem dX8_hasTo_42 : decode cX8_hasTo 42 = .ok (.iconst 0, 1) := by decide +kernel
theorem dX8_hasTo_43 : decode cX8_hasTo 43 = .ok (.ireturn, 1) := by decide +kernel
set_option maxRecDepth 20000 in
theorem ggX8_leftAhead_X8_of : GoodIn wsX8_leftAhead wsX8_of := goodIn_r _ [6, 7, 8, 9, 10, 11, 12, 13, 14, 15, 16, 17, 18, 19, 20, 21, 22, 23, 24, 25, 26, 27] (by decide +kernel) (by decide +kernel)
set_option maxRecDepth 20000 in
theorem gX8_leftAhead_X8_of : GoodIn wsX8_leftAhead (wsV RX8 112 RX8 yX8_of wsX8_of) := goodIn_app (goodIn_of _ (by decide +kernel)) ggX8_leftAhead_X8_of
theorem dX8_leftAhead_0 : decode cX8_leftAhead 0 = .ok (.iload_n 2, 1) := by decide +kernel
theorem dX8_leftAhead_1 : decode cX8_leftAhead 1 = .ok (.ifCond .ne 12, 3) := by decide +kernel
theorem dX8_leftAhead_4 : decode cX8_leftAhead 4 = .ok (.aload_n 0, 1) := by decide +kernel
theorem dX8_leftAhead_5 : decode cX8_leftAhead 5 = .ok (.iload_n 1, 1) := by decide +kernel
theorem dX8_leftAhead_6 : decode cX8_leftAhead 6 = .ok (.iconst 0, 1) := by decide +kernel
theorem dX8_leftAhead_7 : decode cX8_leftAhead 7 = .ok (.invokevirtual 112, 3) := by decide +kernel
theorem dX8_leftAhead_10 : decode cX8_leftAhead 10 = .ok (.goto 16, 3) := by decide +kernel
theorem dX8_leftAhead_13 : decode cX8_leftAhead 13 = .ok (.aload_n 0, 1) := by decide +kernel
theorem dX8_leftAhead_14 : decode cX8_leftAhead 14 = .ok (.getfield 42, 3) := by decide +kernel
theorem dX8_leftAhead_17 : decode cX8_leftAhead 17 = .ok (.bipush 96, 2) := by decide +kernel
theorem dX8_leftAhead_19 : decode cX8_leftAhead 19 = .ok (.iload_n 1, 1) := by decide +kernel
theorem dX8_leftAhead_20 : decode cX8_leftAhead 20 = .ok (.imul, 1) := by decide +kernel
theorem dX8_leftAhead_21 : decode cX8_leftAhead 21 = .ok (.iload_n 2, 1) := by decide +kernel
theorem dX8_leftAhead_22 : decode cX8_leftAhead 22 = .ok (.iadd, 1) := by decide +kernel
theorem dX8_leftAhead_23 : decode cX8_leftAhead 23 = .ok (.iconst 1, 1) := by decide +kernel
theorem dX8_leftAhead_24 : decode cX8_leftAhead 24 = .ok (.isub, 1) := by decide +kernel
theorem dX8_leftAhead_25 : decode cX8_leftAhead 25 = .ok (.iaload, 1) := by decide +kernel
theorem dX8_leftAhead_26 : decode cX8_leftAhead 26 = .ok (.ireturn, 1) := by decide +kernel
set_option maxRecDepth 20000 in
theorem ggX8_live_X8_leftAhead : GoodIn wsX8_live wsX8_leftAhead := goodIn_r _ [7, 2, 8, 9, 10, 6, 11, 12, 47, 48, 49, 50, 51, 52, 53, 54, 55, 56, 57, 58, 59, 60, 61, 62, 63, 64, 65, 66] (by decide +kernel) (by decide +kernel)
set_option maxRecDepth 20000 in
theorem gX8_live_X8_leftAhead : GoodIn wsX8_live (wsV RX8 142 RX8 yX8_leftAhead wsX8_leftAhead) := goodIn_app (goodIn_of _ (by decide +kernel)) ggX8_live_X8_leftAhead
set_option maxRecDepth 20000 in
theorem ggX8_live_X8_hasTo : GoodIn wsX8_live wsX8_hasTo := goodIn_r _ [16, 17, 18, 19, 6, 20, 21, 22, 23, 24, 12, 25, 26, 27, 28, 29, 30, 31, 32, 33, 34, 35, 8, 9, 10, 11, 47, 48, 49, 50, 51, 52, 53, 54, 55, 56, 57, 58, 59, 60, 61, 62, 63, 64, 65, 66] (by decide +kernel) (by decide +kernel)
set_option maxRecDepth 20000 in
theorem gX8_live_X8_hasTo : GoodIn wsX8_live (wsV RX8 145 RX8 yX8_hasTo wsX8_hasTo) := goodIn_app (goodIn_of _ (by decide +kernel)) ggX8_live_X8_hasTo
set_option maxRecDepth 20000 in
theorem ggX8_live_X8_isMarked : GoodIn wsX8_live wsX8_isMarked := goodIn_r _ [39, 12, 47, 48, 49, 50, 51, 52, 53, 54, 55, 56, 57, 58, 59, 60, 61, 62, 63, 64, 65, 66] (by decide +kernel) (by decide +kernel)
set_option maxRecDepth 20000 in
theorem gX8_live_X8_isMarked : GoodIn wsX8_live (wsV RX8 128 RX8 yX8_isMarked wsX8_isMarked) := goodIn_app (goodIn_of _ (by decide +kernel)) ggX8_live_X8_isMarked
set_option maxRecDepth 20000 in
theorem ggX8_live_X8_loud : GoodIn wsX8_live wsX8_loud := goodIn_r _ [43, 12, 47, 48, 49, 50, 51, 52, 53, 54, 55, 56, 57, 58, 59, 60, 61, 62, 63, 64, 65, 66] (by decide +kernel) (by decide +kernel)
set_option maxRecDepth 20000 in
theorem gX8_live_X8_loud : GoodIn wsX8_live (wsV RX8 148 RX8 yX8_loud wsX8_loud) := goodIn_app (goodIn_of _ (by decide +kernel)) ggX8_live_X8_loud
set_option maxRecDepth 20000 in
theorem ggX8_live_X8_of : GoodIn wsX8_live wsX8_of := goodIn_r _ [11, 12, 47, 48, 49, 50, 51, 52, 53, 54, 55, 56, 57, 58, 59, 60, 61, 62, 63, 64, 65, 66] (by decide +kernel) (by decide +kernel)
set_option maxRecDepth 20000 in
theorem gX8_live_X8_of : GoodIn wsX8_live (wsV RX8 112 RX8 yX8_of wsX8_of) := goodIn_app (goodIn_of _ (by decide +kernel)) ggX8_live_X8_of
set_option maxRecDepth 20000 in
theorem ggX8_live_X8_lesser : GoodIn wsX8_live wsX8_lesser := goodIn_r _ [46] (by decide +kernel) (by decide +kernel)
set_option maxRecDepth 20000 in
theorem gX8_live_X8_lesser : GoodIn wsX8_live (va_wsS RX8 151 yX8_lesser wsX8_lesser) := goodIn_app (goodIn_of _ (by decide +kernel)) ggX8_live_X8_lesser
theorem dX8_live_0 : decode cX8_live 0 = .ok (.aload_n 0, 1) := by decide +kernel
theorem dX8_live_1 : decode cX8_live 1 = .ok (.iload_n 1, 1) := by decide +kernel
theorem dX8_live_2 : decode cX8_live 2 = .ok (.iload_n 2, 1) := by decide +kernel
theorem dX8_live_3 : decode cX8_live 3 = .ok (.invokevirtual 142, 3) := by decide +kernel
theorem dX8_live_6 : decode cX8_live 6 = .ok (.istore_n 3, 1) := by decide +kernel
theorem dX8_live_7 : decode cX8_live 7 = .ok (.aload_n 0, 1) := by decide +kernel
theorem dX8_live_8 : decode cX8_live 8 = .ok (.iload_n 1, 1) := by decide +kernel
theorem dX8_live_9 : decode cX8_live 9 = .ok (.iload_n 2, 1) := by decide +kernel
theorem dX8_live_10 : decode cX8_live 10 = .ok (.invokevirtual 145, 3) := by decide +kernel
theorem dX8_live_13 : decode cX8_live 13 = .ok (.ifCond .ne 7, 3) := by decide +kernel
theorem dX8_live_16 : decode cX8_live 16 = .ok (.iconst 3, 1) := by decide +kernel
theorem dX8_live_17 : decode cX8_live 17 = .ok (.goto 30, 3) := by decide +kernel
theorem dX8_live_20 : decode cX8_live 20 = .ok (.aload_n 0, 1) := by decide +kernel
theorem dX8_live_21 : decode cX8_live 21 = .ok (.iload_n 1, 1) := by decide +kernel
theorem dX8_live_22 : decode cX8_live 22 = .ok (.iload_n 2, 1) := by decide +kernel
theorem dX8_live_23 : decode cX8_live 23 = .ok (.invokevirtual 128, 3) := by decide +kernel
theorem dX8_live_26 : decode cX8_live 26 = .ok (.ifCond .eq 7, 3) := by decide +kernel
theorem dX8_live_29 : decode cX8_live 29 = .ok (.iconst 1, 1) := by decide +kernel
theorem dX8_live_30 : decode cX8_live 30 = .ok (.goto 17, 3) := by decide +kernel
theorem dX8_live_33 : decode cX8_live 33 = .ok (.iload_n 3, 1) := by decide +kernel
theorem dX8_live_34 : decode cX8_live 34 = .ok (.aload_n 0, 1) := by decide +kernel
theorem dX8_live_35 : decode cX8_live 35 = .ok (.iload_n 2, 1) := by decide +kernel
theorem dX8_live_36 : decode cX8_live 36 = .ok (.invokevirtual 148, 3) := by decide +kernel
theorem dX8_live_39 : decode cX8_live 39 = .ok (.if_icmp .ge 7, 3) := by decide +kernel
theorem dX8_live_42 : decode cX8_live 42 = .ok (.iconst 2, 1) := by decide +kernel
theorem dX8_live_43 : decode cX8_live 43 = .ok (.goto 4, 3) := by decide +kernel
theorem dX8_live_46 : decode cX8_live 46 = .ok (.iconst 0, 1) := by decide +kernel
theorem dX8_live_47 : decode cX8_live 47 = .ok (.istore 4, 2) := by decide +kernel
theorem dX8_live_49 : decode cX8_live 49 = .ok (.aload_n 0, 1) := by decide +kernel
theorem dX8_live_50 : decode cX8_live 50 = .ok (.getfield 39, 3) := by decide +kernel
theorem dX8_live_53 : decode cX8_live 53 = .ok (.bipush 96, 2) := by decide +kernel
theorem dX8_live_55 : decode cX8_live 55 = .ok (.iload_n 1, 1) := by decide +kernel
theorem dX8_live_56 : decode cX8_live 56 = .ok (.imul, 1) := by decide +kernel
theorem dX8_live_57 : decode cX8_live 57 = .ok (.iload_n 2, 1) := by decide +kernel
theorem dX8_live_58 : decode cX8_live 58 = .ok (.iadd, 1) := by decide +kernel
theorem dX8_live_59 : decode cX8_live 59 = .ok (.iload 4, 2) := by decide +kernel
theorem dX8_live_61 : decode cX8_live 61 = .ok (.iastore, 1) := by decide +kernel
theorem dX8_live_62 : decode cX8_live 62 = .ok (.aload_n 0, 1) := by decide +kernel
theorem dX8_live_63 : decode cX8_live 63 = .ok (.getfield 42, 3) := by decide +kernel
theorem dX8_live_66 : decode cX8_live 66 = .ok (.bipush 96, 2) := by decide +kernel
theorem dX8_live_68 : decode cX8_live 68 = .ok (.iload_n 1, 1) := by decide +kernel
theorem dX8_live_69 : decode cX8_live 69 = .ok (.imul, 1) := by decide +kernel
theorem dX8_live_70 : decode cX8_live 70 = .ok (.iload_n 2, 1) := by decide +kernel
theorem dX8_live_71 : decode cX8_live 71 = .ok (.iadd, 1) := by decide +kernel
theorem dX8_live_72 : decode cX8_live 72 = .ok (.iload 4, 2) := by decide +kernel
theorem dX8_live_74 : decode cX8_live 74 = .ok (.ifCond .ne 13, 3) := by decide +kernel
theorem dX8_live_77 : decode cX8_live 77 = .ok (.iload_n 3, 1) := by decide +kernel
theorem dX8_live_78 : decode cX8_live 78 = .ok (.aload_n 0, 1) := by decide +kernel
theorem dX8_live_79 : decode cX8_live 79 = .ok (.iload_n 2, 1) := by decide +kernel
theorem dX8_live_80 : decode cX8_live 80 = .ok (.invokevirtual 148, 3) := by decide +kernel
theorem dX8_live_83 : decode cX8_live 83 = .ok (.isub, 1) := by decide +kernel
theorem dX8_live_84 : decode cX8_live 84 = .ok (.goto 20, 3) := by decide +kernel
theorem dX8_live_87 : decode cX8_live 87 = .ok (.aload_n 0, 1) := by decide +kernel
theorem dX8_live_88 : decode cX8_live 88 = .ok (.iload_n 1, 1) := by decide +kernel
theorem dX8_live_89 : decode cX8_live 89 = .ok (.iconst 0, 1) := by decide +kernel
theorem dX8_live_90 : decode cX8_live 90 = .ok (.invokevirtual 112, 3) := by decide +kernel
theorem dX8_live_93 : decode cX8_live 93 = .ok (.iload_n 3, 1) := by decide +kernel
theorem dX8_live_94 : decode cX8_live 94 = .ok (.aload_n 0, 1) := by decide +kernel
theorem dX8_live_95 : decode cX8_live 95 = .ok (.iload_n 1, 1) := by decide +kernel
theorem dX8_live_96 : decode cX8_live 96 = .ok (.iconst 1, 1) := by decide +kernel
theorem dX8_live_97 : decode cX8_live 97 = .ok (.invokevirtual 112, 3) := by decide +kernel
theorem dX8_live_100 : decode cX8_live 100 = .ok (.iadd, 1) := by decide +kernel
theorem dX8_live_101 : decode cX8_live 101 = .ok (.invokestatic 151, 3) := by decide +kernel
theorem dX8_live_104 : decode cX8_live 104 = .ok (.iastore, 1) := by decide +kernel
theorem dX8_live_105 : decode cX8_live 105 = .ok (.return_, 1) := by decide +kernel
set_option maxRecDepth 20000 in
theorem ggX8_liveAll_X8_singers : GoodIn wsX8_liveAll wsX8_singers := goodIn_r _ [5, 6, 59, 60, 61, 62, 63, 64, 65, 66, 67, 68, 69, 70, 71, 72, 73, 74, 75, 76, 77, 78] (by decide +kernel) (by decide +kernel)
set_option maxRecDepth 20000 in
theorem gX8_liveAll_X8_singers : GoodIn wsX8_liveAll (wsV RX8 76 RX8 yX8_singers wsX8_singers) := goodIn_app (goodIn_of _ (by decide +kernel)) ggX8_liveAll_X8_singers
set_option maxRecDepth 20000 in
theorem ggX8_liveAll_X8_beats : GoodIn wsX8_liveAll wsX8_beats := goodIn_r _ [10, 6, 59, 60, 61, 62, 63, 64, 65, 66, 67, 68, 69, 70, 71, 72, 73, 74, 75, 76, 77, 78] (by decide +kernel) (by decide +kernel)
set_option maxRecDepth 20000 in
theorem gX8_liveAll_X8_beats : GoodIn wsX8_liveAll (wsV RX8 65 RX8 yX8_beats wsX8_beats) := goodIn_app (goodIn_of _ (by decide +kernel)) ggX8_liveAll_X8_beats
set_option maxRecDepth 20000 in
theorem ggX8_liveAll_X8_live : GoodIn wsX8_liveAll wsX8_live := goodIn_r _ [14, 15, 16, 17, 18, 19, 4, 20, 21, 22, 23, 24, 6, 25, 26, 27, 28, 29, 30, 31, 32, 33, 34, 35, 36, 37, 38, 39, 40, 41, 42, 43, 44, 45, 46, 47, 48, 49, 50, 51, 52, 53, 54, 55, 56, 57, 58, 59, 60, 61, 62, 63, 64, 65, 66, 67, 68, 69, 70, 71, 72, 73, 74, 75, 76, 77, 78] (by decide +kernel) (by decide +kernel)
set_option maxRecDepth 20000 in
theorem gX8_liveAll_X8_live : GoodIn wsX8_liveAll (wsV RX8 154 RX8 yX8_live wsX8_live) := goodIn_app (goodIn_of _ (by decide +kernel)) ggX8_liveAll_X8_live
theorem dX8_liveAll_0 : decode cX8_liveAll 0 = .ok (.iconst 0, 1) := by decide +kernel
theorem dX8_liveAll_1 : decode cX8_liveAll 1 = .ok (.istore_n 1, 1) := by decide +kernel
theorem dX8_liveAll_2 : decode cX8_liveAll 2 = .ok (.iload_n 1, 1) := by decide +kernel
theorem dX8_liveAll_3 : decode cX8_liveAll 3 = .ok (.aload_n 0, 1) := by decide +kernel
theorem dX8_liveAll_4 : decode cX8_liveAll 4 = .ok (.invokevirtual 76, 3) := by decide +kernel
theorem dX8_liveAll_7 : decode cX8_liveAll 7 = .ok (.if_icmp .ge 31, 3) := by decide +kernel
theorem dX8_liveAll_10 : decode cX8_liveAll 10 = .ok (.iconst 0, 1) := by decide +kernel
theorem dX8_liveAll_11 : decode cX8_liveAll 11 = .ok (.istore_n 2, 1) := by decide +kernel
theorem dX8_liveAll_12 : decode cX8_liveAll 12 = .ok (.iload_n 2, 1) := by decide +kernel
theorem dX8_liveAll_13 : decode cX8_liveAll 13 = .ok (.aload_n 0, 1) := by decide +kernel
theorem dX8_liveAll_14 : decode cX8_liveAll 14 = .ok (.invokevirtual 65, 3) := by decide +kernel
theorem dX8_liveAll_17 : decode cX8_liveAll 17 = .ok (.if_icmp .ge 15, 3) := by decide +kernel
theorem dX8_liveAll_20 : decode cX8_liveAll 20 = .ok (.aload_n 0, 1) := by decide +kernel
theorem dX8_liveAll_21 : decode cX8_liveAll 21 = .ok (.iload_n 1, 1) := by decide +kernel
theorem dX8_liveAll_22 : decode cX8_liveAll 22 = .ok (.iload_n 2, 1) := by decide +kernel
theorem dX8_liveAll_23 : decode cX8_liveAll 23 = .ok (.invokevirtual 154, 3) := by decide +kernel
theorem dX8_liveAll_26 : decode cX8_liveAll 26 = .ok (.iinc 2 1, 3) := by decide +kernel
theorem dX8_liveAll_29 : decode cX8_liveAll 29 = .ok (.goto (-17), 3) := by decide +kernel
theorem dX8_liveAll_32 : decode cX8_liveAll 32 = .ok (.iinc 1 1, 3) := by decide +kernel
theorem dX8_liveAll_35 : decode cX8_liveAll 35 = .ok (.goto (-33), 3) := by decide +kernel
theorem dX8_liveAll_38 : decode cX8_liveAll 38 = .ok (.return_, 1) := by decide +kernel
theorem dX8_doesAt_0 : decode cX8_doesAt 0 = .ok (.aload_n 0, 1) := by decide +kernel
theorem dX8_doesAt_1 : decode cX8_doesAt 1 = .ok (.getfield 39, 3) := by decide +kernel
theorem dX8_doesAt_4 : decode cX8_doesAt 4 = .ok (.bipush 96, 2) := by decide +kernel
theorem dX8_doesAt_6 : decode cX8_doesAt 6 = .ok (.iload_n 1, 1) := by decide +kernel
theorem dX8_doesAt_7 : decode cX8_doesAt 7 = .ok (.imul, 1) := by decide +kernel
theorem dX8_doesAt_8 : decode cX8_doesAt 8 = .ok (.iload_n 2, 1) := by decide +kernel
theorem dX8_doesAt_9 : decode cX8_doesAt 9 = .ok (.iadd, 1) := by decide +kernel
theorem dX8_doesAt_10 : decode cX8_doesAt 10 = .ok (.iaload, 1) := by decide +kernel
theorem dX8_doesAt_11 : decode cX8_doesAt 11 = .ok (.ireturn, 1) := by decide +kernel
set_option maxRecDepth 20000 in
theorem ggX8_many_X8_singers : GoodIn wsX8_many wsX8_singers := goodIn_r _ [5, 6, 12, 13, 14, 15, 16, 17, 18, 19, 20, 21, 22, 23, 24, 25, 26, 27, 28, 29, 30, 31] (by decide +kernel) (by decide +kernel)
set_option maxRecDepth 20000 in
theorem gX8_many_X8_singers : GoodIn wsX8_many (wsV RX8 76 RX8 yX8_singers wsX8_singers) := goodIn_app (goodIn_of _ (by decide +kernel)) ggX8_many_X8_singers
set_option maxRecDepth 20000 in
theorem ggX8_many_X8_doesAt : GoodIn wsX8_many wsX8_doesAt := goodIn_r _ [10, 11, 12, 13, 14, 15, 16, 17, 18, 19, 20, 21, 22, 23, 24, 25, 26, 27, 28, 29, 30, 31] (by decide +kernel) (by decide +kernel)
set_option maxRecDepth 20000 in
theorem gX8_many_X8_doesAt : GoodIn wsX8_many (wsV RX8 157 RX8 yX8_doesAt wsX8_doesAt) := goodIn_app (goodIn_of _ (by decide +kernel)) ggX8_many_X8_doesAt
theorem dX8_many_0 : decode cX8_many 0 = .ok (.iconst 0, 1) := by decide +kernel
theorem dX8_many_1 : decode cX8_many 1 = .ok (.istore_n 3, 1) := by decide +kernel
theorem dX8_many_2 : decode cX8_many 2 = .ok (.iconst 0, 1) := by decide +kernel
theorem dX8_many_3 : decode cX8_many 3 = .ok (.istore 4, 2) := by decide +kernel
theorem dX8_many_5 : decode cX8_many 5 = .ok (.iload 4, 2) := by decide +kernel
theorem dX8_many_7 : decode cX8_many 7 = .ok (.aload_n 0, 1) := by decide +kernel
theorem dX8_many_8 : decode cX8_many 8 = .ok (.invokevirtual 76, 3) := by decide +kernel
theorem dX8_many_11 : decode cX8_many 11 = .ok (.if_icmp .ge 28, 3) := by decide +kernel
theorem dX8_many_14 : decode cX8_many 14 = .ok (.iload_n 3, 1) := by decide +kernel
theorem dX8_many_15 : decode cX8_many 15 = .ok (.aload_n 0, 1) := by decide +kernel
theorem dX8_many_16 : decode cX8_many 16 = .ok (.iload 4, 2) := by decide +kernel
theorem dX8_many_18 : decode cX8_many 18 = .ok (.iload_n 1, 1) := by decide +kernel
theorem dX8_many_19 : decode cX8_many 19 = .ok (.invokevirtual 157, 3) := by decide +kernel
theorem dX8_many_22 : decode cX8_many 22 = .ok (.iload_n 2, 1) := by decide +kernel
theorem dX8_many_23 : decode cX8_many 23 = .ok (.if_icmp .ne 7, 3) := by decide +kernel
theorem dX8_many_26 : decode cX8_many 26 = .ok (.iconst 1, 1) := by decide +kernel
theorem dX8_many_27 : decode cX8_many 27 = .ok (.goto 4, 3) := by decide +kernel
theorem dX8_many_30 : decode cX8_many 30 = .ok (.iconst 0, 1) := by decide +kernel
theorem dX8_many_31 : decode cX8_many 31 = .ok (.iadd, 1) := by decide +kernel
theorem dX8_many_32 : decode cX8_many 32 = .ok (.istore_n 3, 1) := by decide +kernel
theorem dX8_many_33 : decode cX8_many 33 = .ok (.iinc 4 1, 3) := by decide +kernel
theorem dX8_many_36 : decode cX8_many 36 = .ok (.goto (-31), 3) := by decide +kernel
theorem dX8_many_39 : decode cX8_many 39 = .ok (.iload_n 3, 1) := by decide +kernel
theorem dX8_many_40 : decode cX8_many 40 = .ok (.ireturn, 1) := by decide +kernel
set_option maxRecDepth 20000 in
theorem ggX8_reserveAt_X8_beats : GoodIn wsX8_reserveAt wsX8_beats := goodIn_r _ [6, 1, 15, 16, 17, 18, 19, 20, 21, 22, 23, 24, 25, 26, 27, 28, 29, 30, 31, 32, 33, 34] (by decide +kernel) (by decide +kernel)
set_option maxRecDepth 20000 in
theorem gX8_reserveAt_X8_beats : GoodIn wsX8_reserveAt (wsV RX8 65 RX8 yX8_beats wsX8_beats) := goodIn_app (goodIn_of _ (by decide +kernel)) ggX8_reserveAt_X8_beats
set_option maxRecDepth 20000 in
theorem ggX8_reserveAt_X8_isRest : GoodIn wsX8_reserveAt wsX8_isRest := goodIn_r _ [10, 1, 15, 16, 17, 18, 19, 20, 21, 22, 23, 24, 25, 26, 27, 28, 29, 30, 31, 32, 33, 34] (by decide +kernel) (by decide +kernel)
set_option maxRecDepth 20000 in
theorem gX8_reserveAt_X8_isRest : GoodIn wsX8_reserveAt (wsV RX8 109 RX8 yX8_isRest wsX8_isRest) := goodIn_app (goodIn_of _ (by decide +kernel)) ggX8_reserveAt_X8_isRest
set_option maxRecDepth 20000 in
theorem ggX8_reserveAt_X8_loud : GoodIn wsX8_reserveAt wsX8_loud := goodIn_r _ [14, 1, 15, 16, 17, 18, 19, 20, 21, 22, 23, 24, 25, 26, 27, 28, 29, 30, 31, 32, 33, 34] (by decide +kernel) (by decide +kernel)
set_option maxRecDepth 20000 in
theorem gX8_reserveAt_X8_loud : GoodIn wsX8_reserveAt (wsV RX8 148 RX8 yX8_loud wsX8_loud) := goodIn_app (goodIn_of _ (by decide +kernel)) ggX8_reserveAt_X8_loud
theorem dX8_reserveAt_0 : decode cX8_reserveAt 0 = .ok (.iconst 0, 1) := by decide +kernel
theorem dX8_reserveAt_1 : decode cX8_reserveAt 1 = .ok (.istore_n 2, 1) := by decide +kernel
theorem dX8_reserveAt_2 : decode cX8_reserveAt 2 = .ok (.aload_n 0, 1) := by decide +kernel
theorem dX8_reserveAt_3 : decode cX8_reserveAt 3 = .ok (.getfield 7, 3) := by decide +kernel
theorem dX8_reserveAt_6 : decode cX8_reserveAt 6 = .ok (.iconst 3, 1) := by decide +kernel
theorem dX8_reserveAt_7 : decode cX8_reserveAt 7 = .ok (.iaload, 1) := by decide +kernel
theorem dX8_reserveAt_8 : decode cX8_reserveAt 8 = .ok (.istore_n 3, 1) := by decide +kernel
theorem dX8_reserveAt_9 : decode cX8_reserveAt 9 = .ok (.iload_n 1, 1) := by decide +kernel
theorem dX8_reserveAt_10 : decode cX8_reserveAt 10 = .ok (.istore 4, 2) := by decide +kernel
theorem dX8_reserveAt_12 : decode cX8_reserveAt 12 = .ok (.iload 4, 2) := by decide +kernel
theorem dX8_reserveAt_14 : decode cX8_reserveAt 14 = .ok (.aload_n 0, 1) := by decide +kernel
theorem dX8_reserveAt_15 : decode cX8_reserveAt 15 = .ok (.invokevirtual 65, 3) := by decide +kernel
theorem dX8_reserveAt_18 : decode cX8_reserveAt 18 = .ok (.if_icmp .ge 52, 3) := by decide +kernel
theorem dX8_reserveAt_21 : decode cX8_reserveAt 21 = .ok (.iload_n 3, 1) := by decide +kernel
theorem dX8_reserveAt_22 : decode cX8_reserveAt 22 = .ok (.ifCond .le 48, 3) := by decide +kernel
theorem dX8_reserveAt_25 : decode cX8_reserveAt 25 = .ok (.iload_n 2, 1) := by decide +kernel
theorem dX8_reserveAt_26 : decode cX8_reserveAt 26 = .ok (.aload_n 0, 1) := by decide +kernel
theorem dX8_reserveAt_27 : decode cX8_reserveAt 27 = .ok (.iload 4, 2) := by decide +kernel
theorem dX8_reserveAt_29 : decode cX8_reserveAt 29 = .ok (.invokevirtual 109, 3) := by decide +kernel
theorem dX8_reserveAt_32 : decode cX8_reserveAt 32 = .ok (.ifCond .eq 7, 3) := by decide +kernel
theorem dX8_reserveAt_35 : decode cX8_reserveAt 35 = .ok (.iconst 0, 1) := by decide +kernel
theorem dX8_reserveAt_36 : decode cX8_reserveAt 36 = .ok (.goto 9, 3) := by decide +kernel
theorem dX8_reserveAt_39 : decode cX8_reserveAt 39 = .ok (.aload_n 0, 1) := by decide +kernel
theorem dX8_reserveAt_40 : decode cX8_reserveAt 40 = .ok (.iload 4, 2) := by decide +kernel
theorem dX8_reserveAt_42 : decode cX8_reserveAt 42 = .ok (.invokevirtual 148, 3) := by decide +kernel
theorem dX8_reserveAt_45 : decode cX8_reserveAt 45 = .ok (.iadd, 1) := by decide +kernel
theorem dX8_reserveAt_46 : decode cX8_reserveAt 46 = .ok (.istore_n 2, 1) := by decide +kernel
theorem dX8_reserveAt_47 : decode cX8_reserveAt 47 = .ok (.iload_n 3, 1) := by decide +kernel
theorem dX8_reserveAt_48 : decode cX8_reserveAt 48 = .ok (.aload_n 0, 1) := by decide +kernel
theorem dX8_reserveAt_49 : decode cX8_reserveAt 49 = .ok (.iload 4, 2) := by decide +kernel
theorem dX8_reserveAt_51 : decode cX8_reserveAt 51 = .ok (.invokevirtual 109, 3) := by decide +kernel
theorem dX8_reserveAt_54 : decode cX8_reserveAt 54 = .ok (.ifCond .eq 7, 3) := by decide +kernel
theorem dX8_reserveAt_57 : decode cX8_reserveAt 57 = .ok (.iconst 0, 1) := by decide +kernel
theorem dX8_reserveAt_58 : decode cX8_reserveAt 58 = .ok (.goto 4, 3) := by decide +kernel
theorem dX8_reserveAt_61 : decode cX8_reserveAt 61 = .ok (.iconst 1, 1) := by decide +kernel
theorem dX8_reserveAt_62 : decode cX8_reserveAt 62 = .ok (.isub, 1) := by decide +kernel
theorem dX8_reserveAt_63 : decode cX8_reserveAt 63 = .ok (.istore_n 3, 1) := by decide +kernel
theorem dX8_reserveAt_64 : decode cX8_reserveAt 64 = .ok (.iinc 4 1, 3) := by decide +kernel
theorem dX8_reserveAt_67 : decode cX8_reserveAt 67 = .ok (.goto (-55), 3) := by decide +kernel
theorem dX8_reserveAt_70 : decode cX8_reserveAt 70 = .ok (.iload_n 2, 1) := by decide +kernel
theorem dX8_reserveAt_71 : decode cX8_reserveAt 71 = .ok (.ireturn, 1) := by decide +kernel
set_option maxRecDepth 20000 in
theorem ggX8_someoneSings_X8_singers : GoodIn wsX8_someoneSings wsX8_singers := goodIn_r _ [6, 7, 21, 22, 23, 24, 25, 26, 27, 28, 29, 30, 31, 32, 33, 34, 35, 36, 37, 38, 39, 40] (by decide +kernel) (by decide +kernel)
set_option maxRecDepth 20000 in
theorem gX8_someoneSings_X8_singers : GoodIn wsX8_someoneSings (wsV RX8 76 RX8 yX8_singers wsX8_singers) := goodIn_app (goodIn_of _ (by decide +kernel)) ggX8_someoneSings_X8_singers
set_option maxRecDepth 20000 in
theorem ggX8_someoneSings_X8_of : GoodIn wsX8_someoneSings wsX8_of := goodIn_r _ [11, 7, 21, 22, 23, 24, 25, 26, 27, 28, 29, 30, 31, 32, 33, 34, 35, 36, 37, 38, 39, 40] (by decide +kernel) (by decide +kernel)
set_option maxRecDepth 20000 in
theorem gX8_someoneSings_X8_of : GoodIn wsX8_someoneSings (wsV RX8 112 RX8 yX8_of wsX8_of) := goodIn_app (goodIn_of _ (by decide +kernel)) ggX8_someoneSings_X8_of
set_option maxRecDepth 20000 in
theorem ggX8_someoneSings_X8_leftAhead : GoodIn wsX8_someoneSings wsX8_leftAhead := goodIn_r _ [15, 16, 8, 9, 10, 5, 11, 7, 21, 22, 23, 24, 25, 26, 27, 28, 29, 30, 31, 32, 33, 34, 35, 36, 37, 38, 39, 40] (by decide +kernel) (by decide +kernel)
set_option maxRecDepth 20000 in
theorem gX8_someoneSings_X8_leftAhead : GoodIn wsX8_someoneSings (wsV RX8 142 RX8 yX8_leftAhead wsX8_leftAhead) := goodIn_app (goodIn_of _ (by decide +kernel)) ggX8_someoneSings_X8_leftAhead
set_option maxRecDepth 20000 in
theorem ggX8_someoneSings_X8_loud : GoodIn wsX8_someoneSings wsX8_loud := goodIn_r _ [20, 7, 21, 22, 23, 24, 25, 26, 27, 28, 29, 30, 31, 32, 33, 34, 35, 36, 37, 38, 39, 40] (by decide +kernel) (by decide +kernel)
set_option maxRecDepth 20000 in
theorem gX8_someoneSings_X8_loud : GoodIn wsX8_someoneSings (wsV RX8 148 RX8 yX8_loud wsX8_loud) := goodIn_app (goodIn_of _ (by decide +kernel)) ggX8_someoneSings_X8_loud
theorem dX8_someoneSings_0 : decode cX8_someoneSings 0 = .ok (.iconst 0, 1) := by decide +kernel
theorem dX8_someoneSings_1 : decode cX8_someoneSings 1 = .ok (.istore_n 2, 1) := by decide +kernel
theorem dX8_someoneSings_2 : decode cX8_someoneSings 2 = .ok (.iconst 0, 1) := by decide +kernel
theorem dX8_someoneSings_3 : decode cX8_someoneSings 3 = .ok (.istore_n 3, 1) := by decide +kernel
theorem dX8_someoneSings_4 : decode cX8_someoneSings 4 = .ok (.iload_n 3, 1) := by decide +kernel
theorem dX8_someoneSings_5 : decode cX8_someoneSings 5 = .ok (.aload_n 0, 1) := by decide +kernel
theorem dX8_someoneSings_6 : decode cX8_someoneSings 6 = .ok (.invokevirtual 76, 3) := by decide +kernel
theorem dX8_someoneSings_9 : decode cX8_someoneSings 9 = .ok (.if_icmp .ge 52, 3) := by decide +kernel
theorem dX8_someoneSings_12 : decode cX8_someoneSings 12 = .ok (.iload_n 2, 1) := by decide +kernel
theorem dX8_someoneSings_13 : decode cX8_someoneSings 13 = .ok (.ifCond .ne 36, 3) := by decide +kernel
theorem dX8_someoneSings_16 : decode cX8_someoneSings 16 = .ok (.aload_n 0, 1) := by decide +kernel
theorem dX8_someoneSings_17 : decode cX8_someoneSings 17 = .ok (.iload_n 3, 1) := by decide +kernel
theorem dX8_someoneSings_18 : decode cX8_someoneSings 18 = .ok (.iconst 2, 1) := by decide +kernel
theorem dX8_someoneSings_19 : decode cX8_someoneSings 19 = .ok (.invokevirtual 112, 3) := by decide +kernel
theorem dX8_someoneSings_22 : decode cX8_someoneSings 22 = .ok (.iconst 1, 1) := by decide +kernel
theorem dX8_someoneSings_23 : decode cX8_someoneSings 23 = .ok (.if_icmp .ne 30, 3) := by decide +kernel
theorem dX8_someoneSings_26 : decode cX8_someoneSings 26 = .ok (.aload_n 0, 1) := by decide +kernel
theorem dX8_someoneSings_27 : decode cX8_someoneSings 27 = .ok (.getfield 45, 3) := by decide +kernel
theorem dX8_someoneSings_30 : decode cX8_someoneSings 30 = .ok (.iload_n 3, 1) := by decide +kernel
theorem dX8_someoneSings_31 : decode cX8_someoneSings 31 = .ok (.baload, 1) := by decide +kernel
theorem dX8_someoneSings_32 : decode cX8_someoneSings 32 = .ok (.ifCond .ne 21, 3) := by decide +kernel
theorem dX8_someoneSings_35 : decode cX8_someoneSings 35 = .ok (.aload_n 0, 1) := by decide +kernel
theorem dX8_someoneSings_36 : decode cX8_someoneSings 36 = .ok (.iload_n 3, 1) := by decide +kernel
theorem dX8_someoneSings_37 : decode cX8_someoneSings 37 = .ok (.iload_n 1, 1) := by decide +kernel
theorem dX8_someoneSings_38 : decode cX8_someoneSings 38 = .ok (.invokevirtual 142, 3) := by decide +kernel
theorem dX8_someoneSings_41 : decode cX8_someoneSings 41 = .ok (.aload_n 0, 1) := by decide +kernel
theorem dX8_someoneSings_42 : decode cX8_someoneSings 42 = .ok (.iload_n 1, 1) := by decide +kernel
theorem dX8_someoneSings_43 : decode cX8_someoneSings 43 = .ok (.invokevirtual 148, 3) := by decide +kernel
theorem dX8_someoneSings_46 : decode cX8_someoneSings 46 = .ok (.if_icmp .lt 7, 3) := by decide +kernel
theorem dX8_someoneSings_49 : decode cX8_someoneSings 49 = .ok (.iconst 1, 1) := by decide +kernel
theorem dX8_someoneSings_50 : decode cX8_someoneSings 50 = .ok (.goto 4, 3) := by decide +kernel
theorem dX8_someoneSings_53 : decode cX8_someoneSings 53 = .ok (.iconst 0, 1) := by decide +kernel
theorem dX8_someoneSings_54 : decode cX8_someoneSings 54 = .ok (.istore_n 2, 1) := by decide +kernel
theorem dX8_someoneSings_55 : decode cX8_someoneSings 55 = .ok (.iinc 3 1, 3) := by decide +kernel
theorem dX8_someoneSings_58 : decode cX8_someoneSings 58 = .ok (.goto (-54), 3) := by decide +kernel
theorem dX8_someoneSings_61 : decode cX8_someoneSings 61 = .ok (.iload_n 2, 1) := by decide +kernel
theorem dX8_someoneSings_62 : decode cX8_someoneSings 62 = .ok (.ireturn, 1) := by decide +kernel
set_option maxRecDepth 20000 in
theorem ggX8_nextToBreathe_X8_singers : GoodIn wsX8_nextToBreathe wsX8_singers := goodIn_r _ [6, 7, 33, 34, 35, 36, 37, 38, 39, 40, 41, 42, 43, 44, 45, 46, 47, 48, 49, 50, 51, 52] (by decide +kernel) (by decide +kernel)
set_option maxRecDepth 20000 in
theorem gX8_nextToBreathe_X8_singers : GoodIn wsX8_nextToBreathe (wsV RX8 76 RX8 yX8_singers wsX8_singers) := goodIn_app (goodIn_of _ (by decide +kernel)) ggX8_nextToBreathe_X8_singers
set_option maxRecDepth 20000 in
theorem ggX8_nextToBreathe_X8_of : GoodIn wsX8_nextToBreathe wsX8_of := goodIn_r _ [11, 7, 33, 34, 35, 36, 37, 38, 39, 40, 41, 42, 43, 44, 45, 46, 47, 48, 49, 50, 51, 52] (by decide +kernel) (by decide +kernel)
set_option maxRecDepth 20000 in
theorem gX8_nextToBreathe_X8_of : GoodIn wsX8_nextToBreathe (wsV RX8 112 RX8 yX8_of wsX8_of) := goodIn_app (goodIn_of _ (by decide +kernel)) ggX8_nextToBreathe_X8_of
set_option maxRecDepth 20000 in
theorem ggX8_nextToBreathe_X8_leftAhead : GoodIn wsX8_nextToBreathe wsX8_leftAhead := goodIn_r _ [15, 16, 8, 9, 10, 5, 11, 7, 33, 34, 35, 36, 37, 38, 39, 40, 41, 42, 43, 44, 45, 46, 47, 48, 49, 50, 51, 52] (by decide +kernel) (by decide +kernel)
set_option maxRecDepth 20000 in
theorem gX8_nextToBreathe_X8_leftAhead : GoodIn wsX8_nextToBreathe (wsV RX8 142 RX8 yX8_leftAhead wsX8_leftAhead) := goodIn_app (goodIn_of _ (by decide +kernel)) ggX8_nextToBreathe_X8_leftAhead
set_option maxRecDepth 20000 in
theorem ggX8_nextToBreathe_X8_reserveAt : GoodIn wsX8_nextToBreathe wsX8_reserveAt := goodIn_r _ [20, 7, 21, 22, 23, 5, 24, 25, 26, 27, 28, 29, 30, 31, 32, 33, 34, 35, 36, 37, 38, 39, 40, 41, 42, 43, 44, 45, 46, 47, 48, 49, 50, 51, 52] (by decide +kernel) (by decide +kernel)
set_option maxRecDepth 20000 in
theorem gX8_nextToBreathe_X8_reserveAt : GoodIn wsX8_nextToBreathe (wsV RX8 160 RX8 yX8_reserveAt wsX8_reserveAt) := goodIn_app (goodIn_of _ (by decide +kernel)) ggX8_nextToBreathe_X8_reserveAt
theorem dX8_nextToBreathe_0 : decode cX8_nextToBreathe 0 = .ok (.bipush (-5), 2) := by decide +kernel
theorem dX8_nextToBreathe_2 : decode cX8_nextToBreathe 2 = .ok (.istore_n 2, 1) := by decide +kernel
theorem dX8_nextToBreathe_3 : decode cX8_nextToBreathe 3 = .ok (.iconst 0, 1) := by decide +kernel
theorem dX8_nextToBreathe_4 : decode cX8_nextToBreathe 4 = .ok (.istore_n 3, 1) := by decide +kernel
theorem dX8_nextToBreathe_5 : decode cX8_nextToBreathe 5 = .ok (.iload_n 3, 1) := by decide +kernel
theorem dX8_nextToBreathe_6 : decode cX8_nextToBreathe 6 = .ok (.aload_n 0, 1) := by decide +kernel
theorem dX8_nextToBreathe_7 : decode cX8_nextToBreathe 7 = .ok (.invokevirtual 76, 3) := by decide +kernel
theorem dX8_nextToBreathe_10 : decode cX8_nextToBreathe 10 = .ok (.if_icmp .ge 79, 3) := by decide +kernel
theorem dX8_nextToBreathe_13 : decode cX8_nextToBreathe 13 = .ok (.aload_n 0, 1) := by decide +kernel
theorem dX8_nextToBreathe_14 : decode cX8_nextToBreathe 14 = .ok (.iload_n 3, 1) := by decide +kernel
theorem dX8_nextToBreathe_15 : decode cX8_nextToBreathe 15 = .ok (.iconst 2, 1) := by decide +kernel
theorem dX8_nextToBreathe_16 : decode cX8_nextToBreathe 16 = .ok (.invokevirtual 112, 3) := by decide +kernel
theorem dX8_nextToBreathe_19 : decode cX8_nextToBreathe 19 = .ok (.iconst 1, 1) := by decide +kernel
theorem dX8_nextToBreathe_20 : decode cX8_nextToBreathe 20 = .ok (.if_icmp .ne 30, 3) := by decide +kernel
theorem dX8_nextToBreathe_23 : decode cX8_nextToBreathe 23 = .ok (.aload_n 0, 1) := by decide +kernel
theorem dX8_nextToBreathe_24 : decode cX8_nextToBreathe 24 = .ok (.getfield 45, 3) := by decide +kernel
theorem dX8_nextToBreathe_27 : decode cX8_nextToBreathe 27 = .ok (.iload_n 3, 1) := by decide +kernel
theorem dX8_nextToBreathe_28 : decode cX8_nextToBreathe 28 = .ok (.baload, 1) := by decide +kernel
theorem dX8_nextToBreathe_29 : decode cX8_nextToBreathe 29 = .ok (.ifCond .ne 21, 3) := by decide +kernel
theorem dX8_nextToBreathe_32 : decode cX8_nextToBreathe 32 = .ok (.aload_n 0, 1) := by decide +kernel
theorem dX8_nextToBreathe_33 : decode cX8_nextToBreathe 33 = .ok (.iload_n 3, 1) := by decide +kernel
theorem dX8_nextToBreathe_34 : decode cX8_nextToBreathe 34 = .ok (.iload_n 1, 1) := by decide +kernel
theorem dX8_nextToBreathe_35 : decode cX8_nextToBreathe 35 = .ok (.invokevirtual 142, 3) := by decide +kernel
theorem dX8_nextToBreathe_38 : decode cX8_nextToBreathe 38 = .ok (.aload_n 0, 1) := by decide +kernel
theorem dX8_nextToBreathe_39 : decode cX8_nextToBreathe 39 = .ok (.iload_n 1, 1) := by decide +kernel
theorem dX8_nextToBreathe_40 : decode cX8_nextToBreathe 40 = .ok (.invokevirtual 160, 3) := by decide +kernel
theorem dX8_nextToBreathe_43 : decode cX8_nextToBreathe 43 = .ok (.if_icmp .ge 7, 3) := by decide +kernel
theorem dX8_nextToBreathe_46 : decode cX8_nextToBreathe 46 = .ok (.iconst 1, 1) := by decide +kernel
theorem dX8_nextToBreathe_47 : decode cX8_nextToBreathe 47 = .ok (.goto 4, 3) := by decide +kernel
theorem dX8_nextToBreathe_50 : decode cX8_nextToBreathe 50 = .ok (.iconst 0, 1) := by decide +kernel
theorem dX8_nextToBreathe_51 : decode cX8_nextToBreathe 51 = .ok (.istore 4, 2) := by decide +kernel
theorem dX8_nextToBreathe_53 : decode cX8_nextToBreathe 53 = .ok (.iload 4, 2) := by decide +kernel
theorem dX8_nextToBreathe_55 : decode cX8_nextToBreathe 55 = .ok (.ifCond .eq 26, 3) := by decide +kernel
theorem dX8_nextToBreathe_58 : decode cX8_nextToBreathe 58 = .ok (.iload_n 2, 1) := by decide +kernel
theorem dX8_nextToBreathe_59 : decode cX8_nextToBreathe 59 = .ok (.ifCond .lt 18, 3) := by decide +kernel
theorem dX8_nextToBreathe_62 : decode cX8_nextToBreathe 62 = .ok (.aload_n 0, 1) := by decide +kernel
theorem dX8_nextToBreathe_63 : decode cX8_nextToBreathe 63 = .ok (.iload_n 3, 1) := by decide +kernel
theorem dX8_nextToBreathe_64 : decode cX8_nextToBreathe 64 = .ok (.iload_n 1, 1) := by decide +kernel
theorem dX8_nextToBreathe_65 : decode cX8_nextToBreathe 65 = .ok (.invokevirtual 142, 3) := by decide +kernel
theorem dX8_nextToBreathe_68 : decode cX8_nextToBreathe 68 = .ok (.aload_n 0, 1) := by decide +kernel
theorem dX8_nextToBreathe_69 : decode cX8_nextToBreathe 69 = .ok (.iload_n 2, 1) := by decide +kernel
theorem dX8_nextToBreathe_70 : decode cX8_nextToBreathe 70 = .ok (.iload_n 1, 1) := by decide +kernel
theorem dX8_nextToBreathe_71 : decode cX8_nextToBreathe 71 = .ok (.invokevirtual 142, 3) := by decide +kernel
theorem dX8_nextToBreathe_74 : decode cX8_nextToBreathe 74 = .ok (.if_icmp .ge 7, 3) := by decide +kernel
theorem dX8_nextToBreathe_77 : decode cX8_nextToBreathe 77 = .ok (.iload_n 3, 1) := by decide +kernel
theorem dX8_nextToBreathe_78 : decode cX8_nextToBreathe 78 = .ok (.goto 4, 3) := by decide +kernel
theorem dX8_nextToBreathe_81 : decode cX8_nextToBreathe 81 = .ok (.iload_n 2, 1) := by decide +kernel
theorem dX8_nextToBreathe_82 : decode cX8_nextToBreathe 82 = .ok (.istore_n 2, 1) := by decide +kernel
theorem dX8_nextToBreathe_83 : decode cX8_nextToBreathe 83 = .ok (.iinc 3 1, 3) := by decide +kernel
theorem dX8_nextToBreathe_86 : decode cX8_nextToBreathe 86 = .ok (.goto (-81), 3) := by decide +kernel
theorem dX8_nextToBreathe_89 : decode cX8_nextToBreathe 89 = .ok (.iload_n 2, 1) := by decide +kernel
theorem dX8_nextToBreathe_90 : decode cX8_nextToBreathe 90 = .ok (.ireturn, 1) := by decide +kernel
set_option maxRecDepth 20000 in
theorem ggX8_giveMarks_X8_presentOnes : GoodIn wsX8_giveMarks wsX8_presentOnes := goodIn_r _ [6, 7, 8, 9, 5, 10, 11, 12, 13, 14, 15, 49, 50, 51, 52, 53, 54, 55, 56, 57, 58, 59, 60, 61, 62, 63, 64, 65, 66, 67, 68] (by decide +kernel) (by decide +kernel)
set_option maxRecDepth 20000 in
theorem gX8_giveMarks_X8_presentOnes : GoodIn wsX8_giveMarks (wsV RX8 119 RX8 yX8_presentOnes wsX8_presentOnes) := goodIn_app (goodIn_of _ (by decide +kernel)) ggX8_giveMarks_X8_presentOnes
set_option maxRecDepth 20000 in
theorem ggX8_giveMarks_X8_nextToBreathe : GoodIn wsX8_giveMarks wsX8_nextToBreathe := goodIn_r _ [19, 1, 7, 8, 9, 5, 10, 11, 12, 13, 14, 15, 20, 21, 22, 23, 24, 25, 26, 27, 28, 29, 30, 31, 32, 33, 34, 35, 36, 37, 38, 39, 40, 49, 50, 51, 52, 53, 54, 55, 56, 57, 58, 59, 60, 61, 62, 63, 64, 65, 66, 67, 68] (by decide +kernel) (by decide +kernel)
set_option maxRecDepth 20000 in
theorem gX8_giveMarks_X8_nextToBreathe : GoodIn wsX8_giveMarks (wsV RX8 163 RX8 yX8_nextToBreathe wsX8_nextToBreathe) := goodIn_app (goodIn_of _ (by decide +kernel)) ggX8_giveMarks_X8_nextToBreathe
set_option maxRecDepth 20000 in
theorem ggX8_giveMarks_X8_someoneSings : GoodIn wsX8_giveMarks wsX8_someoneSings := goodIn_r _ [44, 1, 7, 8, 9, 5, 10, 11, 12, 13, 14, 15, 20, 21, 22, 23, 24, 37, 38, 39, 40, 49, 50, 51, 52, 53, 54, 55, 56, 57, 58, 59, 60, 61, 62, 63, 64, 65, 66, 67, 68] (by decide +kernel) (by decide +kernel)
set_option maxRecDepth 20000 in
theorem gX8_giveMarks_X8_someoneSings : GoodIn wsX8_giveMarks (wsV RX8 166 RX8 yX8_someoneSings wsX8_someoneSings) := goodIn_app (goodIn_of _ (by decide +kernel)) ggX8_giveMarks_X8_someoneSings
set_option maxRecDepth 20000 in
theorem ggX8_giveMarks_X8_setMark : GoodIn wsX8_giveMarks wsX8_setMark := goodIn_r _ [48, 11, 49, 50, 51, 52, 53, 54, 55, 56, 57, 58, 59, 60, 61, 62, 63, 64, 65, 66, 67, 68] (by decide +kernel) (by decide +kernel)
set_option maxRecDepth 20000 in
theorem gX8_giveMarks_X8_setMark : GoodIn wsX8_giveMarks (wsV RX8 135 RX8 yX8_setMark wsX8_setMark) := goodIn_app (goodIn_of _ (by decide +kernel)) ggX8_giveMarks_X8_setMark
theorem dX8_giveMarks_0 : decode cX8_giveMarks 0 = .ok (.iconst 0, 1) := by decide +kernel
theorem dX8_giveMarks_1 : decode cX8_giveMarks 1 = .ok (.istore_n 2, 1) := by decide +kernel
theorem dX8_giveMarks_2 : decode cX8_giveMarks 2 = .ok (.iload_n 2, 1) := by decide +kernel
theorem dX8_giveMarks_3 : decode cX8_giveMarks 3 = .ok (.bipush 12, 2) := by decide +kernel
theorem dX8_giveMarks_5 : decode cX8_giveMarks 5 = .ok (.if_icmp .ge 16, 3) := by decide +kernel
theorem dX8_giveMarks_8 : decode cX8_giveMarks 8 = .ok (.aload_n 0, 1) := by decide +kernel
theorem dX8_giveMarks_9 : decode cX8_giveMarks 9 = .ok (.getfield 45, 3) := by decide +kernel
theorem dX8_giveMarks_12 : decode cX8_giveMarks 12 = .ok (.iload_n 2, 1) := by decide +kernel
theorem dX8_giveMarks_13 : decode cX8_giveMarks 13 = .ok (.iconst 0, 1) := by decide +kernel
theorem dX8_giveMarks_14 : decode cX8_giveMarks 14 = .ok (.bastore, 1) := by decide +kernel
theorem dX8_giveMarks_15 : decode cX8_giveMarks 15 = .ok (.iinc 2 1, 3) := by decide +kernel
theorem dX8_giveMarks_18 : decode cX8_giveMarks 18 = .ok (.goto (-16), 3) := by decide +kernel
theorem dX8_giveMarks_21 : decode cX8_giveMarks 21 = .ok (.aload_n 0, 1) := by decide +kernel
theorem dX8_giveMarks_22 : decode cX8_giveMarks 22 = .ok (.invokevirtual 119, 3) := by decide +kernel
