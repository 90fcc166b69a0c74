theorem dX8_giveMarks_25 : decode cX8_giveMarks 25 = .ok (.iconst 2, 1) := by decide +kernel
theorem dX8_giveMarks_26 : decode cX8_giveMarks 26 = .ok (.idiv, 1) := by decide +kernel
theorem dX8_giveMarks_27 : decode cX8_giveMarks 27 = .ok (.istore_n 2, 1) := by decide +kernel
theorem dX8_giveMarks_28 : decode cX8_giveMarks 28 = .ok (.iload_n 2, 1) := by decide +kernel
theorem dX8_giveMarks_29 : decode cX8_giveMarks 29 = .ok (.iconst 1, 1) := by decide +kernel
theorem dX8_giveMarks_30 : decode cX8_giveMarks 30 = .ok (.if_icmp .ge 7, 3) := by decide +kernel
theorem dX8_giveMarks_33 : decode cX8_giveMarks 33 = .ok (.iconst 1, 1) := by decide +kernel
theorem dX8_giveMarks_34 : decode cX8_giveMarks 34 = .ok (.goto 4, 3) := by decide +kernel
theorem dX8_giveMarks_37 : decode cX8_giveMarks 37 = .ok (.iload_n 2, 1) := by decide +kernel
theorem dX8_giveMarks_38 : decode cX8_giveMarks 38 = .ok (.istore_n 3, 1) := by decide +kernel
theorem dX8_giveMarks_39 : decode cX8_giveMarks 39 = .ok (.aload_n 0, 1) := by decide +kernel
theorem dX8_giveMarks_40 : decode cX8_giveMarks 40 = .ok (.iload_n 1, 1) := by decide +kernel
theorem dX8_giveMarks_41 : decode cX8_giveMarks 41 = .ok (.invokevirtual 163, 3) := by decide +kernel
theorem dX8_giveMarks_44 : decode cX8_giveMarks 44 = .ok (.istore 4, 2) := by decide +kernel
theorem dX8_giveMarks_46 : decode cX8_giveMarks 46 = .ok (.iload_n 3, 1) := by decide +kernel
theorem dX8_giveMarks_47 : decode cX8_giveMarks 47 = .ok (.ifCond .le 45, 3) := by decide +kernel
theorem dX8_giveMarks_50 : decode cX8_giveMarks 50 = .ok (.iload 4, 2) := by decide +kernel
theorem dX8_giveMarks_52 : decode cX8_giveMarks 52 = .ok (.ifCond .lt 40, 3) := by decide +kernel
theorem dX8_giveMarks_55 : decode cX8_giveMarks 55 = .ok (.aload_n 0, 1) := by decide +kernel
theorem dX8_giveMarks_56 : decode cX8_giveMarks 56 = .ok (.getfield 45, 3) := by decide +kernel
theorem dX8_giveMarks_59 : decode cX8_giveMarks 59 = .ok (.iload 4, 2) := by decide +kernel
theorem dX8_giveMarks_61 : decode cX8_giveMarks 61 = .ok (.iconst 1, 1) := by decide +kernel
theorem dX8_giveMarks_62 : decode cX8_giveMarks 62 = .ok (.bastore, 1) := by decide +kernel
theorem dX8_giveMarks_63 : decode cX8_giveMarks 63 = .ok (.aload_n 0, 1) := by decide +kernel
theorem dX8_giveMarks_64 : decode cX8_giveMarks 64 = .ok (.iload_n 1, 1) := by decide +kernel
theorem dX8_giveMarks_65 : decode cX8_giveMarks 65 = .ok (.invokevirtual 166, 3) := by decide +kernel
theorem dX8_giveMarks_68 : decode cX8_giveMarks 68 = .ok (.ifCond .ne 4, 3) := by decide +kernel
theorem dX8_giveMarks_71 : decode cX8_giveMarks 71 = .ok (.return_, 1) := by decide +kernel
theorem dX8_giveMarks_72 : decode cX8_giveMarks 72 = .ok (.aload_n 0, 1) := by decide +kernel
theorem dX8_giveMarks_73 : decode cX8_giveMarks 73 = .ok (.iload 4, 2) := by decide +kernel
theorem dX8_giveMarks_75 : decode cX8_giveMarks 75 = .ok (.iload_n 1, 1) := by decide +kernel
theorem dX8_giveMarks_76 : decode cX8_giveMarks 76 = .ok (.invokevirtual 135, 3) := by decide +kernel
theorem dX8_giveMarks_79 : decode cX8_giveMarks 79 = .ok (.iinc 3 (-1), 3) := by decide +kernel
theorem dX8_giveMarks_82 : decode cX8_giveMarks 82 = .ok (.aload_n 0, 1) := by decide +kernel
theorem dX8_giveMarks_83 : decode cX8_giveMarks 83 = .ok (.iload_n 1, 1) := by decide +kernel
theorem dX8_giveMarks_84 : decode cX8_giveMarks 84 = .ok (.invokevirtual 163, 3) := by decide +kernel
theorem dX8_giveMarks_87 : decode cX8_giveMarks 87 = .ok (.istore 4, 2) := by decide +kernel
theorem dX8_giveMarks_89 : decode cX8_giveMarks 89 = .ok (.goto (-43), 3) := by decide +kernel
theorem dX8_giveMarks_92 : decode cX8_giveMarks 92 = .ok (.return_, 1) := by decide +kernel
set_option maxRecDepth 20000 in
theorem ggX8_make_X8_presentOnes : GoodIn wsX8_make wsX8_presentOnes := goodIn_r _ [5, 6, 7, 8, 4, 9, 10, 11, 12, 13, 14, 107, 108, 109, 110, 111, 112, 113, 114, 115, 116, 117, 118, 119, 120, 121, 122, 123, 124, 125, 126] (by decide +kernel) (by decide +kernel)
set_option maxRecDepth 20000 in
theorem gX8_make_X8_presentOnes : GoodIn wsX8_make (wsV RX8 119 RX8 yX8_presentOnes wsX8_presentOnes) := goodIn_app (goodIn_of _ (by decide +kernel)) ggX8_make_X8_presentOnes
set_option maxRecDepth 20000 in
theorem ggX8_make_X8_beats : GoodIn wsX8_make wsX8_beats := goodIn_r _ [18, 10, 107, 108, 109, 110, 111, 112, 113, 114, 115, 116, 117, 118, 119, 120, 121, 122, 123, 124, 125, 126] (by decide +kernel) (by decide +kernel)
set_option maxRecDepth 20000 in
theorem gX8_make_X8_beats : GoodIn wsX8_make (wsV RX8 65 RX8 yX8_beats wsX8_beats) := goodIn_app (goodIn_of _ (by decide +kernel)) ggX8_make_X8_beats
set_option maxRecDepth 20000 in
theorem ggX8_make_X8_begin : GoodIn wsX8_make wsX8_begin := goodIn_r _ [22, 23, 10, 107, 108, 109, 110, 111, 112, 113, 114, 115, 116, 117, 118, 119, 120, 121, 122, 123, 124, 125, 126] (by decide +kernel) (by decide +kernel)
set_option maxRecDepth 20000 in
theorem gX8_make_X8_begin : GoodIn wsX8_make (wsV RX8 69 RX8 yX8_begin wsX8_begin) := goodIn_app (goodIn_of _ (by decide +kernel)) ggX8_make_X8_begin
set_option maxRecDepth 20000 in
theorem ggX8_make_X8_clearMarks : GoodIn wsX8_make wsX8_clearMarks := goodIn_r _ [27, 10, 107, 108, 109, 110, 111, 112, 113, 114, 115, 116, 117, 118, 119, 120, 121, 122, 123, 124, 125, 126] (by decide +kernel) (by decide +kernel)
set_option maxRecDepth 20000 in
theorem gX8_make_X8_clearMarks : GoodIn wsX8_make (wsV RX8 102 RX8 yX8_clearMarks wsX8_clearMarks) := goodIn_app (goodIn_of _ (by decide +kernel)) ggX8_make_X8_clearMarks
set_option maxRecDepth 20000 in
theorem ggX8_make_X8_isRest : GoodIn wsX8_make wsX8_isRest := goodIn_r _ [31, 10, 107, 108, 109, 110, 111, 112, 113, 114, 115, 116, 117, 118, 119, 120, 121, 122, 123, 124, 125, 126] (by decide +kernel) (by decide +kernel)
set_option maxRecDepth 20000 in
theorem gX8_make_X8_isRest : GoodIn wsX8_make (wsV RX8 109 RX8 yX8_isRest wsX8_isRest) := goodIn_app (goodIn_of _ (by decide +kernel)) ggX8_make_X8_isRest
set_option maxRecDepth 20000 in
theorem ggX8_make_X8_soloAt : GoodIn wsX8_make wsX8_soloAt := goodIn_r _ [35, 36, 37, 38, 4, 39, 10, 40, 41, 42, 43, 44, 45, 46, 107, 108, 109, 110, 111, 112, 113, 114, 115, 116, 117, 118, 119, 120, 121, 122, 123, 124, 125, 126] (by decide +kernel) (by decide +kernel)
set_option maxRecDepth 20000 in
theorem gX8_make_X8_soloAt : GoodIn wsX8_make (wsV RX8 139 RX8 yX8_soloAt wsX8_soloAt) := goodIn_app (goodIn_of _ (by decide +kernel)) ggX8_make_X8_soloAt
set_option maxRecDepth 20000 in
theorem ggX8_make_X8_giveMarks : GoodIn wsX8_make wsX8_giveMarks := goodIn_r _ [50, 51, 1, 2, 3, 4, 5, 6, 7, 8, 9, 10, 11, 12, 13, 14, 52, 53, 54, 55, 56, 57, 58, 59, 60, 61, 62, 63, 64, 15, 16, 17, 18, 28, 29, 30, 31, 65, 66, 67, 68, 69, 70, 71, 72, 73, 74, 75, 76, 107, 108, 109, 110, 111, 112, 113, 114, 115, 116, 117, 118, 119, 120, 121, 122, 123, 124, 125, 126] (by decide +kernel) (by decide +kernel)
set_option maxRecDepth 20000 in
theorem gX8_make_X8_giveMarks : GoodIn wsX8_make (wsV RX8 169 RX8 yX8_giveMarks wsX8_giveMarks) := goodIn_app (goodIn_of _ (by decide +kernel)) ggX8_make_X8_giveMarks
set_option maxRecDepth 20000 in
theorem ggX8_make_X8_singers : GoodIn wsX8_make wsX8_singers := goodIn_r _ [9, 10, 107, 108, 109, 110, 111, 112, 113, 114, 115, 116, 117, 118, 119, 120, 121, 122, 123, 124, 125, 126] (by decide +kernel) (by decide +kernel)
set_option maxRecDepth 20000 in
theorem gX8_make_X8_singers : GoodIn wsX8_make (wsV RX8 76 RX8 yX8_singers wsX8_singers) := goodIn_app (goodIn_of _ (by decide +kernel)) ggX8_make_X8_singers
set_option maxRecDepth 20000 in
theorem ggX8_make_X8_live : GoodIn wsX8_make wsX8_live := goodIn_r _ [80, 81, 60, 56, 57, 58, 4, 59, 11, 12, 13, 14, 10, 82, 83, 84, 85, 32, 33, 34, 35, 36, 37, 38, 39, 40, 41, 42, 43, 44, 45, 46, 28, 29, 30, 31, 86, 87, 88, 89, 65, 66, 67, 68, 90, 91, 92, 107, 108, 109, 110, 111, 112, 113, 114, 115, 116, 117, 118, 119, 120, 121, 122, 123, 124, 125, 126] (by decide +kernel) (by decide +kernel)
set_option maxRecDepth 20000 in
theorem gX8_make_X8_live : GoodIn wsX8_make (wsV RX8 154 RX8 yX8_live wsX8_live) := goodIn_app (goodIn_of _ (by decide +kernel)) ggX8_make_X8_live
set_option maxRecDepth 20000 in
theorem ggX8_make_X8_allMarks : GoodIn wsX8_make wsX8_allMarks := goodIn_r _ [96, 6, 7, 8, 4, 9, 10, 97, 98, 99, 100, 15, 16, 17, 18, 86, 87, 88, 89, 107, 108, 109, 110, 111, 112, 113, 114, 115, 116, 117, 118, 119, 120, 121, 122, 123, 124, 125, 126] (by decide +kernel) (by decide +kernel)
set_option maxRecDepth 20000 in
theorem gX8_make_X8_allMarks : GoodIn wsX8_make (wsV RX8 173 RX8 yX8_allMarks wsX8_allMarks) := goodIn_app (goodIn_of _ (by decide +kernel)) ggX8_make_X8_allMarks
set_option maxRecDepth 20000 in
theorem ggX8_make_X8_done : GoodIn wsX8_make wsX8_done := goodIn_r _ [104, 105, 106, 23, 107, 108, 109, 110, 111, 112, 113, 114, 115, 116, 117, 118, 119, 120, 121, 122, 123, 124, 125, 126] (by decide +kernel) (by decide +kernel)
set_option maxRecDepth 20000 in
theorem gX8_make_X8_done : GoodIn wsX8_make (wsV RX8 72 RX8 yX8_done wsX8_done) := goodIn_app (goodIn_of _ (by decide +kernel)) ggX8_make_X8_done
theorem dX8_make_0 : decode cX8_make 0 = .ok (.aload_n 0, 1) := by decide +kernel
theorem dX8_make_1 : decode cX8_make 1 = .ok (.invokevirtual 119, 3) := by decide +kernel
theorem dX8_make_4 : decode cX8_make 4 = .ok (.ifCond .eq 10, 3) := by decide +kernel
theorem dX8_make_7 : decode cX8_make 7 = .ok (.aload_n 0, 1) := by decide +kernel
theorem dX8_make_8 : decode cX8_make 8 = .ok (.invokevirtual 65, 3) := by decide +kernel
theorem dX8_make_11 : decode cX8_make 11 = .ok (.ifCond .ne 6, 3) := by decide +kernel
theorem dX8_make_14 : decode cX8_make 14 = .ok (.bipush (-4), 2) := by decide +kernel
theorem dX8_make_16 : decode cX8_make 16 = .ok (.ireturn, 1) := by decide +kernel
theorem dX8_make_17 : decode cX8_make 17 = .ok (.aload_n 0, 1) := by decide +kernel
theorem dX8_make_18 : decode cX8_make 18 = .ok (.invokevirtual 69, 3) := by decide +kernel
theorem dX8_make_21 : decode cX8_make 21 = .ok (.aload_n 0, 1) := by decide +kernel
theorem dX8_make_22 : decode cX8_make 22 = .ok (.invokevirtual 102, 3) := by decide +kernel
theorem dX8_make_25 : decode cX8_make 25 = .ok (.iconst 0, 1) := by decide +kernel
theorem dX8_make_26 : decode cX8_make 26 = .ok (.istore_n 1, 1) := by decide +kernel
theorem dX8_make_27 : decode cX8_make 27 = .ok (.iload_n 1, 1) := by decide +kernel
theorem dX8_make_28 : decode cX8_make 28 = .ok (.aload_n 0, 1) := by decide +kernel
theorem dX8_make_29 : decode cX8_make 29 = .ok (.invokevirtual 65, 3) := by decide +kernel
theorem dX8_make_32 : decode cX8_make 32 = .ok (.if_icmp .ge 52, 3) := by decide +kernel
theorem dX8_make_35 : decode cX8_make 35 = .ok (.aload_n 0, 1) := by decide +kernel
theorem dX8_make_36 : decode cX8_make 36 = .ok (.iload_n 1, 1) := by decide +kernel
theorem dX8_make_37 : decode cX8_make 37 = .ok (.invokevirtual 109, 3) := by decide +kernel
theorem dX8_make_40 : decode cX8_make 40 = .ok (.ifCond .ne 16, 3) := by decide +kernel
theorem dX8_make_43 : decode cX8_make 43 = .ok (.aload_n 0, 1) := by decide +kernel
theorem dX8_make_44 : decode cX8_make 44 = .ok (.iload_n 1, 1) := by decide +kernel
theorem dX8_make_45 : decode cX8_make 45 = .ok (.invokevirtual 139, 3) := by decide +kernel
theorem dX8_make_48 : decode cX8_make 48 = .ok (.ifCond .ge 8, 3) := by decide +kernel
theorem dX8_make_51 : decode cX8_make 51 = .ok (.aload_n 0, 1) := by decide +kernel
theorem dX8_make_52 : decode cX8_make 52 = .ok (.iload_n 1, 1) := by decide +kernel
theorem dX8_make_53 : decode cX8_make 53 = .ok (.invokevirtual 169, 3) := by decide +kernel
theorem dX8_make_56 : decode cX8_make 56 = .ok (.iconst 0, 1) := by decide +kernel
theorem dX8_make_57 : decode cX8_make 57 = .ok (.istore_n 2, 1) := by decide +kernel
theorem dX8_make_58 : decode cX8_make 58 = .ok (.iload_n 2, 1) := by decide +kernel
theorem dX8_make_59 : decode cX8_make 59 = .ok (.aload_n 0, 1) := by decide +kernel
theorem dX8_make_60 : decode cX8_make 60 = .ok (.invokevirtual 76, 3) := by decide +kernel
theorem dX8_make_63 : decode cX8_make 63 = .ok (.if_icmp .ge 15, 3) := by decide +kernel
theorem dX8_make_66 : decode cX8_make 66 = .ok (.aload_n 0, 1) := by decide +kernel
theorem dX8_make_67 : decode cX8_make 67 = .ok (.iload_n 2, 1) := by decide +kernel
theorem dX8_make_68 : decode cX8_make 68 = .ok (.iload_n 1, 1) := by decide +kernel
theorem dX8_make_69 : decode cX8_make 69 = .ok (.invokevirtual 154, 3) := by decide +kernel
theorem dX8_make_72 : decode cX8_make 72 = .ok (.iinc 2 1, 3) := by decide +kernel
theorem dX8_make_75 : decode cX8_make 75 = .ok (.goto (-17), 3) := by decide +kernel
theorem dX8_make_78 : decode cX8_make 78 = .ok (.iinc 1 1, 3) := by decide +kernel
theorem dX8_make_81 : decode cX8_make 81 = .ok (.goto (-54), 3) := by decide +kernel
theorem dX8_make_84 : decode cX8_make 84 = .ok (.aload_n 0, 1) := by decide +kernel
theorem dX8_make_85 : decode cX8_make 85 = .ok (.aload_n 0, 1) := by decide +kernel
theorem dX8_make_86 : decode cX8_make 86 = .ok (.invokevirtual 173, 3) := by decide +kernel
theorem dX8_make_89 : decode cX8_make 89 = .ok (.invokevirtual 72, 3) := by decide +kernel
theorem dX8_make_92 : decode cX8_make 92 = .ok (.ireturn, 1) := by decide +kernel
theorem dX8_addFault_0 : decode cX8_addFault 0 = .ok (.aload_n 0, 1) := by decide +kernel
theorem dX8_addFault_1 : decode cX8_addFault 1 = .ok (.getfield 48, 3) := by decide +kernel
theorem dX8_addFault_4 : decode cX8_addFault 4 = .ok (.aload_n 0, 1) := by decide +kernel
theorem dX8_addFault_5 : decode cX8_addFault 5 = .ok (.getfield 176, 3) := by decide +kernel
theorem dX8_addFault_8 : decode cX8_addFault 8 = .ok (.iload_n 1, 1) := by decide +kernel
theorem dX8_addFault_9 : decode cX8_addFault 9 = .ok (.iastore, 1) := by decide +kernel
theorem dX8_addFault_10 : decode cX8_addFault 10 = .ok (.aload_n 0, 1) := by decide +kernel
theorem dX8_addFault_11 : decode cX8_addFault 11 = .ok (.getfield 51, 3) := by decide +kernel
theorem dX8_addFault_14 : decode cX8_addFault 14 = .ok (.aload_n 0, 1) := by decide +kernel
theorem dX8_addFault_15 : decode cX8_addFault 15 = .ok (.getfield 176, 3) := by decide +kernel
theorem dX8_addFault_18 : decode cX8_addFault 18 = .ok (.iload_n 2, 1) := by decide +kernel
theorem dX8_addFault_19 : decode cX8_addFault 19 = .ok (.iastore, 1) := by decide +kernel
theorem dX8_addFault_20 : decode cX8_addFault 20 = .ok (.aload_n 0, 1) := by decide +kernel
theorem dX8_addFault_21 : decode cX8_addFault 21 = .ok (.getfield 54, 3) := by decide +kernel
theorem dX8_addFault_24 : decode cX8_addFault 24 = .ok (.aload_n 0, 1) := by decide +kernel
theorem dX8_addFault_25 : decode cX8_addFault 25 = .ok (.getfield 176, 3) := by decide +kernel
theorem dX8_addFault_28 : decode cX8_addFault 28 = .ok (.iload_n 3, 1) := by decide +kernel
theorem dX8_addFault_29 : decode cX8_addFault 29 = .ok (.iastore, 1) := by decide +kernel
theorem dX8_addFault_30 : decode cX8_addFault 30 = .ok (.aload_n 0, 1) := by decide +kernel
theorem dX8_addFault_31 : decode cX8_addFault 31 = .ok (.dup, 1) := by decide +kernel
theorem dX8_addFault_32 : decode cX8_addFault 32 = .ok (.getfield 176, 3) := by decide +kernel
theorem dX8_addFault_35 : decode cX8_addFault 35 = .ok (.iconst 1, 1) := by decide +kernel
theorem dX8_addFault_36 : decode cX8_addFault 36 = .ok (.iadd, 1) := by decide +kernel
theorem dX8_addFault_37 : decode cX8_addFault 37 = .ok (.putfield 176, 3) := by decide +kernel
theorem dX8_addFault_40 : decode cX8_addFault 40 = .ok (.return_, 1) := by decide +kernel
set_option maxRecDepth 20000 in
theorem ggX8_sortOfMark_X8_doesAt : GoodIn wsX8_sortOfMark wsX8_doesAt := goodIn_r _ [5, 6, 39, 40, 41, 42, 43, 44, 45, 46, 47, 48, 49, 50, 51, 52, 53, 54, 55, 56, 57, 58] (by decide +kernel) (by decide +kernel)
set_option maxRecDepth 20000 in
theorem gX8_sortOfMark_X8_doesAt : GoodIn wsX8_sortOfMark (wsV RX8 157 RX8 yX8_doesAt wsX8_doesAt) := goodIn_app (goodIn_of _ (by decide +kernel)) ggX8_sortOfMark_X8_doesAt
set_option maxRecDepth 20000 in
theorem ggX8_sortOfMark_X8_soloAt : GoodIn wsX8_sortOfMark wsX8_soloAt := goodIn_r _ [10, 11, 12, 13, 4, 14, 15, 16, 17, 18, 19, 20, 21, 22, 39, 40, 41, 42, 43, 44, 45, 46, 47, 48, 49, 50, 51, 52, 53, 54, 55, 56, 57, 58] (by decide +kernel) (by decide +kernel)
set_option maxRecDepth 20000 in
theorem gX8_sortOfMark_X8_soloAt : GoodIn wsX8_sortOfMark (wsV RX8 139 RX8 yX8_soloAt wsX8_soloAt) := goodIn_app (goodIn_of _ (by decide +kernel)) ggX8_sortOfMark_X8_soloAt
set_option maxRecDepth 20000 in
theorem ggX8_sortOfMark_X8_firstOf : GoodIn wsX8_sortOfMark wsX8_firstOf := goodIn_r _ [26, 15, 27, 28, 29, 4, 30, 39, 40, 41, 42, 43, 44, 45, 46, 47, 48, 49, 50, 51, 52, 53, 54, 55, 56, 57, 58] (by decide +kernel) (by decide +kernel)
set_option maxRecDepth 20000 in
theorem gX8_sortOfMark_X8_firstOf : GoodIn wsX8_sortOfMark (wsV RX8 179 RX8 yX8_firstOf wsX8_firstOf) := goodIn_app (goodIn_of _ (by decide +kernel)) ggX8_sortOfMark_X8_firstOf
set_option maxRecDepth 20000 in
theorem ggX8_sortOfMark_X8_many : GoodIn wsX8_sortOfMark wsX8_many := goodIn_r _ [34, 35, 36, 37, 4, 38, 15, 1, 2, 3, 5, 6, 39, 40, 41, 42, 43, 44, 45, 46, 47, 48, 49, 50, 51, 52, 53, 54, 55, 56, 57, 58] (by decide +kernel) (by decide +kernel)
set_option maxRecDepth 20000 in
theorem gX8_sortOfMark_X8_many : GoodIn wsX8_sortOfMark (wsV RX8 182 RX8 yX8_many wsX8_many) := goodIn_app (goodIn_of _ (by decide +kernel)) ggX8_sortOfMark_X8_many
theorem dX8_sortOfMark_0 : decode cX8_sortOfMark 0 = .ok (.aload_n 0, 1) := by decide +kernel
theorem dX8_sortOfMark_1 : decode cX8_sortOfMark 1 = .ok (.iload_n 1, 1) := by decide +kernel
theorem dX8_sortOfMark_2 : decode cX8_sortOfMark 2 = .ok (.iload_n 2, 1) := by decide +kernel
theorem dX8_sortOfMark_3 : decode cX8_sortOfMark 3 = .ok (.invokevirtual 157, 3) := by decide +kernel
theorem dX8_sortOfMark_6 : decode cX8_sortOfMark 6 = .ok (.iconst 1, 1) := by decide +kernel
theorem dX8_sortOfMark_7 : decode cX8_sortOfMark 7 = .ok (.if_icmp .eq 6, 3) := by decide +kernel
theorem dX8_sortOfMark_10 : decode cX8_sortOfMark 10 = .ok (.bipush (-5), 2) := by decide +kernel
theorem dX8_sortOfMark_12 : decode cX8_sortOfMark 12 = .ok (.ireturn, 1) := by decide +kernel
theorem dX8_sortOfMark_13 : decode cX8_sortOfMark 13 = .ok (.aload_n 0, 1) := by decide +kernel
theorem dX8_sortOfMark_14 : decode cX8_sortOfMark 14 = .ok (.iload_n 2, 1) := by decide +kernel
theorem dX8_sortOfMark_15 : decode cX8_sortOfMark 15 = .ok (.invokevirtual 139, 3) := by decide +kernel
theorem dX8_sortOfMark_18 : decode cX8_sortOfMark 18 = .ok (.ifCond .lt 5, 3) := by decide +kernel
theorem dX8_sortOfMark_21 : decode cX8_sortOfMark 21 = .ok (.iconst 3, 1) := by decide +kernel
theorem dX8_sortOfMark_22 : decode cX8_sortOfMark 22 = .ok (.ireturn, 1) := by decide +kernel
theorem dX8_sortOfMark_23 : decode cX8_sortOfMark 23 = .ok (.aload_n 0, 1) := by decide +kernel
theorem dX8_sortOfMark_24 : decode cX8_sortOfMark 24 = .ok (.iload_n 2, 1) := by decide +kernel
theorem dX8_sortOfMark_25 : decode cX8_sortOfMark 25 = .ok (.invokevirtual 179, 3) := by decide +kernel
theorem dX8_sortOfMark_28 : decode cX8_sortOfMark 28 = .ok (.iload_n 2, 1) := by decide +kernel
theorem dX8_sortOfMark_29 : decode cX8_sortOfMark 29 = .ok (.if_icmp .eq 17, 3) := by decide +kernel
theorem dX8_sortOfMark_32 : decode cX8_sortOfMark 32 = .ok (.aload_n 0, 1) := by decide +kernel
theorem dX8_sortOfMark_33 : decode cX8_sortOfMark 33 = .ok (.iload_n 2, 1) := by decide +kernel
theorem dX8_sortOfMark_34 : decode cX8_sortOfMark 34 = .ok (.iconst 0, 1) := by decide +kernel
theorem dX8_sortOfMark_35 : decode cX8_sortOfMark 35 = .ok (.invokevirtual 182, 3) := by decide +kernel
theorem dX8_sortOfMark_38 : decode cX8_sortOfMark 38 = .ok (.iconst 2, 1) := by decide +kernel
theorem dX8_sortOfMark_39 : decode cX8_sortOfMark 39 = .ok (.if_icmp .ge 7, 3) := by decide +kernel
theorem dX8_sortOfMark_42 : decode cX8_sortOfMark 42 = .ok (.iconst 2, 1) := by decide +kernel
theorem dX8_sortOfMark_43 : decode cX8_sortOfMark 43 = .ok (.goto 5, 3) := by decide +kernel
theorem dX8_sortOfMark_46 : decode cX8_sortOfMark 46 = .ok (.bipush (-5), 2) := by decide +kernel
theorem dX8_sortOfMark_48 : decode cX8_sortOfMark 48 = .ok (.ireturn, 1) := by decide +kernel
set_option maxRecDepth 20000 in
theorem ggX8_findFaults_X8_liveAll : GoodIn wsX8_findFaults wsX8_liveAll := goodIn_r _ [6, 7, 8, 9, 5, 10, 11, 12, 13, 14, 15, 16, 17, 18, 19, 20, 21, 22, 23, 24, 25, 26, 27, 28, 29, 30, 31, 32, 33, 34, 35, 36, 37, 38, 39, 40, 41, 42, 43, 44, 45, 46, 47, 48, 49, 50, 51, 52, 53, 54, 55, 56, 57, 58, 59, 60, 61, 62, 63, 87, 88, 89, 90, 91, 92, 93, 94, 95, 96, 97, 98, 99, 100, 101, 102, 103, 104, 105, 106] (by decide +kernel) (by decide +kernel)
set_option maxRecDepth 20000 in
theorem gX8_findFaults_X8_liveAll : GoodIn wsX8_findFaults (wsV RX8 185 RX8 yX8_liveAll wsX8_liveAll) := goodIn_app (goodIn_of _ (by decide +kernel)) ggX8_findFaults_X8_liveAll
set_option maxRecDepth 20000 in
theorem ggX8_findFaults_X8_beats : GoodIn wsX8_findFaults wsX8_beats := goodIn_r _ [15, 11, 87, 88, 89, 90, 91, 92, 93, 94, 95, 96, 97, 98, 99, 100, 101, 102, 103, 104, 105, 106] (by decide +kernel) (by decide +kernel)
set_option maxRecDepth 20000 in
theorem gX8_findFaults_X8_beats : GoodIn wsX8_findFaults (wsV RX8 65 RX8 yX8_beats wsX8_beats) := goodIn_app (goodIn_of _ (by decide +kernel)) ggX8_findFaults_X8_beats
set_option maxRecDepth 20000 in
theorem ggX8_findFaults_X8_isRest : GoodIn wsX8_findFaults wsX8_isRest := goodIn_r _ [52, 11, 87, 88, 89, 90, 91, 92, 93, 94, 95, 96, 97, 98, 99, 100, 101, 102, 103, 104, 105, 106] (by decide +kernel) (by decide +kernel)
set_option maxRecDepth 20000 in
theorem gX8_findFaults_X8_isRest : GoodIn wsX8_findFaults (wsV RX8 109 RX8 yX8_isRest wsX8_isRest) := goodIn_app (goodIn_of _ (by decide +kernel)) ggX8_findFaults_X8_isRest
set_option maxRecDepth 20000 in
theorem ggX8_findFaults_X8_many : GoodIn wsX8_findFaults wsX8_many := goodIn_r _ [67, 7, 8, 9, 5, 10, 11, 68, 69, 70, 71, 20, 87, 88, 89, 90, 91, 92, 93, 94, 95, 96, 97, 98, 99, 100, 101, 102, 103, 104, 105, 106] (by decide +kernel) (by decide +kernel)
set_option maxRecDepth 20000 in
theorem gX8_findFaults_X8_many : GoodIn wsX8_findFaults (wsV RX8 182 RX8 yX8_many wsX8_many) := goodIn_app (goodIn_of _ (by decide +kernel)) ggX8_findFaults_X8_many
set_option maxRecDepth 20000 in
theorem ggX8_findFaults_X8_addFault : GoodIn wsX8_findFaults wsX8_addFault := goodIn_r _ [75, 76, 1, 77, 78, 87, 88, 89, 90, 91, 92, 93, 94, 95, 96, 97, 98, 99, 100, 101, 102, 103, 104, 105, 106] (by decide +kernel) (by decide +kernel)
set_option maxRecDepth 20000 in
theorem gX8_findFaults_X8_addFault : GoodIn wsX8_findFaults (wsV RX8 188 RX8 yX8_addFault wsX8_addFault) := goodIn_app (goodIn_of _ (by decide +kernel)) ggX8_findFaults_X8_addFault
set_option maxRecDepth 20000 in
theorem ggX8_findFaults_X8_singers : GoodIn wsX8_findFaults wsX8_singers := goodIn_r _ [10, 11, 87, 88, 89, 90, 91, 92, 93, 94, 95, 96, 97, 98, 99, 100, 101, 102, 103, 104, 105, 106] (by decide +kernel) (by decide +kernel)
set_option maxRecDepth 20000 in
theorem gX8_findFaults_X8_singers : GoodIn wsX8_findFaults (wsV RX8 76 RX8 yX8_singers wsX8_singers) := goodIn_app (goodIn_of _ (by decide +kernel)) ggX8_findFaults_X8_singers
set_option maxRecDepth 20000 in
theorem ggX8_findFaults_X8_doesAt : GoodIn wsX8_findFaults wsX8_doesAt := goodIn_r _ [71, 20, 87, 88, 89, 90, 91, 92, 93, 94, 95, 96, 97, 98, 99, 100, 101, 102, 103, 104, 105, 106] (by decide +kernel) (by decide +kernel)
set_option maxRecDepth 20000 in
theorem gX8_findFaults_X8_doesAt : GoodIn wsX8_findFaults (wsV RX8 157 RX8 yX8_doesAt wsX8_doesAt) := goodIn_app (goodIn_of _ (by decide +kernel)) ggX8_findFaults_X8_doesAt
set_option maxRecDepth 20000 in
theorem ggX8_findFaults_X8_sortOfMark : GoodIn wsX8_findFaults wsX8_sortOfMark := goodIn_r _ [82, 68, 69, 70, 5, 71, 20, 34, 35, 36, 37, 38, 39, 40, 41, 11, 42, 43, 44, 45, 46, 47, 48, 83, 84, 85, 86, 49, 50, 51, 52, 64, 65, 66, 67, 7, 8, 9, 10, 87, 88, 89, 90, 91, 92, 93, 94, 95, 96, 97, 98, 99, 100, 101, 102, 103, 104, 105, 106] (by decide +kernel) (by decide +kernel)
set_option maxRecDepth 20000 in
theorem gX8_findFaults_X8_sortOfMark : GoodIn wsX8_findFaults (wsV RX8 192 RX8 yX8_sortOfMark wsX8_sortOfMark) := goodIn_app (goodIn_of _ (by decide +kernel)) ggX8_findFaults_X8_sortOfMark
theorem dX8_findFaults_0 : decode cX8_findFaults 0 = .ok (.aload_n 0, 1) := by decide +kernel
theorem dX8_findFaults_1 : decode cX8_findFaults 1 = .ok (.invokevirtual 185, 3) := by decide +kernel
theorem dX8_findFaults_4 : decode cX8_findFaults 4 = .ok (.aload_n 0, 1) := by decide +kernel
theorem dX8_findFaults_5 : decode cX8_findFaults 5 = .ok (.iconst 0, 1) := by decide +kernel
theorem dX8_findFaults_6 : decode cX8_findFaults 6 = .ok (.putfield 176, 3) := by decide +kernel
theorem dX8_findFaults_9 : decode cX8_findFaults 9 = .ok (.iconst 0, 1) := by decide +kernel
theorem dX8_findFaults_10 : decode cX8_findFaults 10 = .ok (.istore_n 1, 1) := by decide +kernel
theorem dX8_findFaults_11 : decode cX8_findFaults 11 = .ok (.iload_n 1, 1) := by decide +kernel
theorem dX8_findFaults_12 : decode cX8_findFaults 12 = .ok (.aload_n 0, 1) := by decide +kernel
theorem dX8_findFaults_13 : decode cX8_findFaults 13 = .ok (.invokevirtual 65, 3) := by decide +kernel
theorem dX8_findFaults_16 : decode cX8_findFaults 16 = .ok (.if_icmp .ge 98, 3) := by decide +kernel
theorem dX8_findFaults_19 : decode cX8_findFaults 19 = .ok (.aload_n 0, 1) := by decide +kernel
theorem dX8_findFaults_20 : decode cX8_findFaults 20 = .ok (.iload_n 1, 1) := by decide +kernel
theorem dX8_findFaults_21 : decode cX8_findFaults 21 = .ok (.invokevirtual 109, 3) := by decide +kernel
theorem dX8_findFaults_24 : decode cX8_findFaults 24 = .ok (.ifCond .ne 20, 3) := by decide +kernel
theorem dX8_findFaults_27 : decode cX8_findFaults 27 = .ok (.aload_n 0, 1) := by decide +kernel
theorem dX8_findFaults_28 : decode cX8_findFaults 28 = .ok (.iload_n 1, 1) := by decide +kernel
theorem dX8_findFaults_29 : decode cX8_findFaults 29 = .ok (.iconst 0, 1) := by decide +kernel
theorem dX8_findFaults_30 : decode cX8_findFaults 30 = .ok (.invokevirtual 182, 3) := by decide +kernel
theorem dX8_findFaults_33 : decode cX8_findFaults 33 = .ok (.ifCond .ne 11, 3) := by decide +kernel
theorem dX8_findFaults_36 : decode cX8_findFaults 36 = .ok (.aload_n 0, 1) := by decide +kernel
theorem dX8_findFaults_37 : decode cX8_findFaults 37 = .ok (.iconst 0, 1) := by decide +kernel
theorem dX8_findFaults_38 : decode cX8_findFaults 38 = .ok (.iload_n 1, 1) := by decide +kernel
theorem dX8_findFaults_39 : decode cX8_findFaults 39 = .ok (.bipush (-5), 2) := by decide +kernel
theorem dX8_findFaults_41 : decode cX8_findFaults 41 = .ok (.invokevirtual 188, 3) := by decide +kernel
theorem dX8_findFaults_44 : decode cX8_findFaults 44 = .ok (.iconst 1, 1) := by decide +kernel
theorem dX8_findFaults_45 : decode cX8_findFaults 45 = .ok (.istore_n 2, 1) := by decide +kernel
theorem dX8_findFaults_46 : decode cX8_findFaults 46 = .ok (.iload_n 2, 1) := by decide +kernel
theorem dX8_findFaults_47 : decode cX8_findFaults 47 = .ok (.iconst 4, 1) := by decide +kernel
theorem dX8_findFaults_48 : decode cX8_findFaults 48 = .ok (.if_icmp .ge 60, 3) := by decide +kernel
theorem dX8_findFaults_51 : decode cX8_findFaults 51 = .ok (.iconst 0, 1) := by decide +kernel
theorem dX8_findFaults_52 : decode cX8_findFaults 52 = .ok (.istore_n 3, 1) := by decide +kernel
theorem dX8_findFaults_53 : decode cX8_findFaults 53 = .ok (.iload_n 3, 1) := by decide +kernel
theorem dX8_findFaults_54 : decode cX8_findFaults 54 = .ok (.aload_n 0, 1) := by decide +kernel
theorem dX8_findFaults_55 : decode cX8_findFaults 55 = .ok (.invokevirtual 76, 3) := by decide +kernel
theorem dX8_findFaults_58 : decode cX8_findFaults 58 = .ok (.if_icmp .ge 44, 3) := by decide +kernel
theorem dX8_findFaults_61 : decode cX8_findFaults 61 = .ok (.iload_n 2, 1) := by decide +kernel
theorem dX8_findFaults_62 : decode cX8_findFaults 62 = .ok (.iconst 1, 1) := by decide +kernel
theorem dX8_findFaults_63 : decode cX8_findFaults 63 = .ok (.if_icmp .ne 16, 3) := by decide +kernel
theorem dX8_findFaults_66 : decode cX8_findFaults 66 = .ok (.aload_n 0, 1) := by decide +kernel
theorem dX8_findFaults_67 : decode cX8_findFaults 67 = .ok (.iload_n 3, 1) := by decide +kernel
theorem dX8_findFaults_68 : decode cX8_findFaults 68 = .ok (.iload_n 1, 1) := by decide +kernel
theorem dX8_findFaults_69 : decode cX8_findFaults 69 = .ok (.invokevirtual 157, 3) := by decide +kernel
theorem dX8_findFaults_72 : decode cX8_findFaults 72 = .ok (.iconst 2, 1) := by decide +kernel
theorem dX8_findFaults_73 : decode cX8_findFaults 73 = .ok (.if_icmp .ne 23, 3) := by decide +kernel
theorem dX8_findFaults_76 : decode cX8_findFaults 76 = .ok (.goto 13, 3) := by decide +kernel
theorem dX8_findFaults_79 : decode cX8_findFaults 79 = .ok (.aload_n 0, 1) := by decide +kernel
theorem dX8_findFaults_80 : decode cX8_findFaults 80 = .ok (.iload_n 3, 1) := by decide +kernel
theorem dX8_findFaults_81 : decode cX8_findFaults 81 = .ok (.iload_n 1, 1) := by decide +kernel
theorem dX8_findFaults_82 : decode cX8_findFaults 82 = .ok (.invokevirtual 192, 3) := by decide +kernel
theorem dX8_findFaults_85 : decode cX8_findFaults 85 = .ok (.iload_n 2, 1) := by decide +kernel
theorem dX8_findFaults_86 : decode cX8_findFaults 86 = .ok (.if_icmp .ne 10, 3) := by decide +kernel
theorem dX8_findFaults_89 : decode cX8_findFaults 89 = .ok (.aload_n 0, 1) := by decide +kernel
theorem dX8_findFaults_90 : decode cX8_findFaults 90 = .ok (.iload_n 2, 1) := by decide +kernel
theorem dX8_findFaults_91 : decode cX8_findFaults 91 = .ok (.iload_n 1, 1) := by decide +kernel
theorem dX8_findFaults_92 : decode cX8_findFaults 92 = .ok (.iload_n 3, 1) := by decide +kernel
theorem dX8_findFaults_93 : decode cX8_findFaults 93 = .ok (.invokevirtual 188, 3) := by decide +kernel
theorem dX8_findFaults_96 : decode cX8_findFaults 96 = .ok (.iinc 3 1, 3) := by decide +kernel
theorem dX8_findFaults_99 : decode cX8_findFaults 99 = .ok (.goto (-46), 3) := by decide +kernel
theorem dX8_findFaults_102 : decode cX8_findFaults 102 = .ok (.iinc 2 1, 3) := by decide +kernel
theorem dX8_findFaults_105 : decode cX8_findFaults 105 = .ok (.goto (-59), 3) := by decide +kernel
theorem dX8_findFaults_108 : decode cX8_findFaults 108 = .ok (.iinc 1 1, 3) := by decide +kernel
theorem dX8_findFaults_111 : decode cX8_findFaults 111 = .ok (.goto (-100), 3) := by decide +kernel
theorem dX8_findFaults_114 : decode cX8_findFaults 114 = .ok (.return_, 1) := by decide +kernel
theorem dX8_faultsOf_0 : decode cX8_faultsOf 0 = .ok (.iconst 0, 1) := by decide +kernel
theorem dX8_faultsOf_1 : decode cX8_faultsOf 1 = .ok (.istore_n 2, 1) := by decide +kernel
theorem dX8_faultsOf_2 : decode cX8_faultsOf 2 = .ok (.iconst 0, 1) := by decide +kernel
theorem dX8_faultsOf_3 : decode cX8_faultsOf 3 = .ok (.istore_n 3, 1) := by decide +kernel
theorem dX8_faultsOf_4 : decode cX8_faultsOf 4 = .ok (.iload_n 3, 1) := by decide +kernel
theorem dX8_faultsOf_5 : decode cX8_faultsOf 5 = .ok (.aload_n 0, 1) := by decide +kernel
theorem dX8_faultsOf_6 : decode cX8_faultsOf 6 = .ok (.getfield 176, 3) := by decide +kernel
theorem dX8_faultsOf_9 : decode cX8_faultsOf 9 = .ok (.if_icmp .ge 27, 3) := by decide +kernel
theorem dX8_faultsOf_12 : decode cX8_faultsOf 12 = .ok (.iload_n 2, 1) := by decide +kernel
theorem dX8_faultsOf_13 : decode cX8_faultsOf 13 = .ok (.aload_n 0, 1) := by decide +kernel
theorem dX8_faultsOf_14 : decode cX8_faultsOf 14 = .ok (.getfield 48, 3) := by decide +kernel
theorem dX8_faultsOf_17 : decode cX8_faultsOf 17 = .ok (.iload_n 3, 1) := by decide +kernel
theorem dX8_faultsOf_18 : decode cX8_faultsOf 18 = .ok (.iaload, 1) := by decide +kernel
theorem dX8_faultsOf_19 : decode cX8_faultsOf 19 = .ok (.iload_n 1, 1) := by decide +kernel
theorem dX8_faultsOf_20 : decode cX8_faultsOf 20 = .ok (.if_icmp .ne 7, 3) := by decide +kernel
theorem dX8_faultsOf_23 : decode cX8_faultsOf 23 = .ok (.iconst 1, 1) := by decide +kernel
theorem dX8_faultsOf_24 : decode cX8_faultsOf 24 = .ok (.goto 4, 3) := by decide +kernel
theorem dX8_faultsOf_27 : decode cX8_faultsOf 27 = .ok (.iconst 0, 1) := by decide +kernel
theorem dX8_faultsOf_28 : decode cX8_faultsOf 28 = .ok (.iadd, 1) := by decide +kernel
theorem dX8_faultsOf_29 : decode cX8_faultsOf 29 = .ok (.istore_n 2, 1) := by decide +kernel
theorem dX8_faultsOf_30 : decode cX8_faultsOf 30 = .ok (.iinc 3 1, 3) := by decide +kernel
theorem dX8_faultsOf_33 : decode cX8_faultsOf 33 = .ok (.goto (-29), 3) := by decide +kernel
theorem dX8_faultsOf_36 : decode cX8_faultsOf 36 = .ok (.iload_n 2, 1) := by decide +kernel
theorem dX8_faultsOf_37 : decode cX8_faultsOf 37 = .ok (.ireturn, 1) := by decide +kernel
set_option maxRecDepth 20000 in
theorem ggX8_fault_X8_in : GoodIn wsX8_fault wsX8_in := goodIn_r _ [8] (by decide +kernel) (by decide +kernel)
set_option maxRecDepth 20000 in
theorem gX8_fault_X8_in : GoodIn wsX8_fault (va_wsS RX8 61 yX8_in wsX8_in) := goodIn_app (goodIn_of _ (by decide +kernel)) ggX8_fault_X8_in
set_option maxRecDepth 20000 in
theorem ggX8_fault_X8_findFaults : GoodIn wsX8_fault wsX8_findFaults := goodIn_r _ [12, 1, 13, 14, 15, 7, 16, 17, 18, 19, 20, 21, 22, 23, 24, 25, 26, 27, 28, 29, 30, 31, 32, 33, 34, 35, 36, 37, 38, 39, 40, 41, 42, 43, 44, 45, 46, 47, 48, 49, 50, 51, 52, 53, 54, 55, 5, 6, 8, 56, 57, 58, 59, 60, 61, 62, 63, 64, 65, 66, 67, 68, 69, 70, 71, 72, 73, 74, 75, 76, 77, 78, 79, 80, 81, 82, 2, 3, 4, 83, 84, 85, 86, 87, 88, 89, 90, 91, 92, 93, 94, 95, 96, 97, 98, 99, 100, 101, 102, 103, 104, 105, 106, 107, 108, 109, 110] (by decide +kernel) (by decide +kernel)
set_option maxRecDepth 20000 in
theorem gX8_fault_X8_findFaults : GoodIn wsX8_fault (wsV RX8 195 RX8 yX8_findFaults wsX8_findFaults) := goodIn_app (goodIn_of _ (by decide +kernel)) ggX8_fault_X8_findFaults
theorem dX8_fault_0 : decode cX8_fault 0 = .ok (.iload_n 1, 1) := by decide +kernel
theorem dX8_fault_1 : decode cX8_fault 1 = .ok (.ifCond .lt 12, 3) := by decide +kernel
theorem dX8_fault_4 : decode cX8_fault 4 = .ok (.iload_n 2, 1) := by decide +kernel
theorem dX8_fault_5 : decode cX8_fault 5 = .ok (.iconst 0, 1) := by decide +kernel
theorem dX8_fault_6 : decode cX8_fault 6 = .ok (.iconst 2, 1) := by decide +kernel
theorem dX8_fault_7 : decode cX8_fault 7 = .ok (.invokestatic 61, 3) := by decide +kernel
theorem dX8_fault_10 : decode cX8_fault 10 = .ok (.ifCond .ne 6, 3) := by decide +kernel
theorem dX8_fault_13 : decode cX8_fault 13 = .ok (.bipush (-2), 2) := by decide +kernel
theorem dX8_fault_15 : decode cX8_fault 15 = .ok (.ireturn, 1) := by decide +kernel
theorem dX8_fault_16 : decode cX8_fault 16 = .ok (.aload_n 0, 1) := by decide +kernel
theorem dX8_fault_17 : decode cX8_fault 17 = .ok (.invokevirtual 195, 3) := by decide +kernel
theorem dX8_fault_20 : decode cX8_fault 20 = .ok (.iload_n 1, 1) := by decide +kernel
theorem dX8_fault_21 : decode cX8_fault 21 = .ok (.aload_n 0, 1) := by decide +kernel
theorem dX8_fault_22 : decode cX8_fault 22 = .ok (.getfield 176, 3) := by decide +kernel
theorem dX8_fault_25 : decode cX8_fault 25 = .ok (.if_icmp .lt 6, 3) := by decide +kernel
theorem dX8_fault_28 : decode cX8_fault 28 = .ok (.bipush (-5), 2) := by decide +kernel
theorem dX8_fault_30 : decode cX8_fault 30 = .ok (.ireturn, 1) := by decide +kernel
theorem dX8_fault_31 : decode cX8_fault 31 = .ok (.iload_n 2, 1) := by decide +kernel
theorem dX8_fault_32 : decode cX8_fault 32 = .ok (.ifCond .ne 12, 3) := by decide +kernel
theorem dX8_fault_35 : decode cX8_fault 35 = .ok (.aload_n 0, 1) := by decide +kernel
theorem dX8_fault_36 : decode cX8_fault 36 = .ok (.getfield 48, 3) := by decide +kernel
theorem dX8_fault_39 : decode cX8_fault 39 = .ok (.iload_n 1, 1) := by decide +kernel
theorem dX8_fault_40 : decode cX8_fault 40 = .ok (.iaload, 1) := by decide +kernel
theorem dX8_fault_41 : decode cX8_fault 41 = .ok (.goto 23, 3) := by decide +kernel
theorem dX8_fault_44 : decode cX8_fault 44 = .ok (.iload_n 2, 1) := by decide +kernel
theorem dX8_fault_45 : decode cX8_fault 45 = .ok (.iconst 1, 1) := by decide +kernel
theorem dX8_fault_46 : decode cX8_fault 46 = .ok (.if_icmp .ne 12, 3) := by decide +kernel
theorem dX8_fault_49 : decode cX8_fault 49 = .ok (.aload_n 0, 1) := by decide +kernel
theorem dX8_fault_50 : decode cX8_fault 50 = .ok (.getfield 51, 3) := by decide +kernel
theorem dX8_fault_53 : decode cX8_fault 53 = .ok (.iload_n 1, 1) := by decide +kernel
theorem dX8_fault_54 : decode cX8_fault 54 = .ok (.iaload, 1) := by decide +kernel
theorem dX8_fault_55 : decode cX8_fault 55 = .ok (.goto 9, 3) := by decide +kernel
theorem dX8_fault_58 : decode cX8_fault 58 = .ok (.aload_n 0, 1) := by decide +kernel
theorem dX8_fault_59 : decode cX8_fault 59 = .ok (.getfield 54, 3) := by decide +kernel
theorem dX8_fault_62 : decode cX8_fault 62 = .ok (.iload_n 1, 1) := by decide +kernel
theorem dX8_fault_63 : decode cX8_fault 63 = .ok (.iaload, 1) := by decide +kernel
theorem dX8_fault_64 : decode cX8_fault 64 = .ok (.ireturn, 1) := by decide +kernel
set_option maxRecDepth 20000 in
theorem ggX8_beat_X8_noBeat : GoodIn wsX8_beat wsX8_noBeat := goodIn_r _ [6, 7, 8, 9, 5, 10, 1, 11, 12, 13, 79, 80, 81, 82, 83, 84, 85, 86, 87, 88, 89, 90, 91, 92, 93, 94, 95, 96, 97, 98] (by decide +kernel) (by decide +kernel)
set_option maxRecDepth 20000 in
theorem gX8_beat_X8_noBeat : GoodIn wsX8_beat (wsV RX8 105 RX8 yX8_noBeat wsX8_noBeat) := goodIn_app (goodIn_of _ (by decide +kernel)) ggX8_beat_X8_noBeat
set_option maxRecDepth 20000 in
theorem ggX8_beat_X8_liveAll : GoodIn wsX8_beat wsX8_liveAll := goodIn_r _ [17, 18, 19, 20, 5, 21, 1, 7, 8, 9, 10, 22, 23, 24, 25, 26, 27, 28, 29, 30, 31, 32, 33, 34, 35, 36, 37, 38, 39, 40, 41, 42, 43, 44, 45, 46, 47, 48, 49, 50, 51, 11, 12, 13, 52, 53, 54, 55, 56, 57, 58, 59, 60, 61, 62, 63, 64, 65, 66, 79, 80, 81, 82, 83, 84, 85, 86, 87, 88, 89, 90, 91, 92, 93, 94, 95, 96, 97, 98] (by decide +kernel) (by decide +kernel)
set_option maxRecDepth 20000 in
theorem gX8_beat_X8_liveAll : GoodIn wsX8_beat (wsV RX8 185 RX8 yX8_liveAll wsX8_liveAll) := goodIn_app (goodIn_of _ (by decide +kernel)) ggX8_beat_X8_liveAll
set_option maxRecDepth 20000 in
theorem ggX8_beat_X8_loud : GoodIn wsX8_beat wsX8_loud := goodIn_r _ [63, 1, 79, 80, 81, 82, 83, 84, 85, 86, 87, 88, 89, 90, 91, 92, 93, 94, 95, 96, 97, 98] (by decide +kernel) (by decide +kernel)
set_option maxRecDepth 20000 in
theorem gX8_beat_X8_loud : GoodIn wsX8_beat (wsV RX8 148 RX8 yX8_loud wsX8_loud) := goodIn_app (goodIn_of _ (by decide +kernel)) ggX8_beat_X8_loud
set_option maxRecDepth 20000 in
theorem ggX8_beat_X8_firstOf : GoodIn wsX8_beat wsX8_firstOf := goodIn_r _ [70, 1, 52, 53, 54, 5, 55, 79, 80, 81, 82, 83, 84, 85, 86, 87, 88, 89, 90, 91, 92, 93, 94, 95, 96, 97, 98] (by decide +kernel) (by decide +kernel)
set_option maxRecDepth 20000 in
theorem gX8_beat_X8_firstOf : GoodIn wsX8_beat (wsV RX8 179 RX8 yX8_firstOf wsX8_firstOf) := goodIn_app (goodIn_of _ (by decide +kernel)) ggX8_beat_X8_firstOf
set_option maxRecDepth 20000 in
theorem ggX8_beat_X8_many : GoodIn wsX8_beat wsX8_many := goodIn_r _ [74, 18, 19, 20, 5, 21, 1, 75, 76, 77, 78, 26, 79, 80, 81, 82, 83, 84, 85, 86, 87, 88, 89, 90, 91, 92, 93, 94, 95, 96, 97, 98] (by decide +kernel) (by decide +kernel)
set_option maxRecDepth 20000 in
theorem gX8_beat_X8_many : GoodIn wsX8_beat (wsV RX8 182 RX8 yX8_many wsX8_many) := goodIn_app (goodIn_of _ (by decide +kernel)) ggX8_beat_X8_many
set_option maxRecDepth 20000 in
theorem ggX8_beat_X8_soloAt : GoodIn wsX8_beat wsX8_soloAt := goodIn_r _ [43, 44, 45, 46, 5, 47, 1, 48, 49, 50, 51, 11, 12, 13, 79, 80, 81, 82, 83, 84, 85, 86, 87, 88, 89, 90, 91, 92, 93, 94, 95, 96, 97, 98] (by decide +kernel) (by decide +kernel)
set_option maxRecDepth 20000 in
theorem gX8_beat_X8_soloAt : GoodIn wsX8_beat (wsV RX8 139 RX8 yX8_soloAt wsX8_soloAt) := goodIn_app (goodIn_of _ (by decide +kernel)) ggX8_beat_X8_soloAt
theorem dX8_beat_0 : decode cX8_beat 0 = .ok (.aload_n 0, 1) := by decide +kernel
theorem dX8_beat_1 : decode cX8_beat 1 = .ok (.iload_n 1, 1) := by decide +kernel
theorem dX8_beat_2 : decode cX8_beat 2 = .ok (.invokevirtual 105, 3) := by decide +kernel
theorem dX8_beat_5 : decode cX8_beat 5 = .ok (.ifCond .eq 5, 3) := by decide +kernel
theorem dX8_beat_8 : decode cX8_beat 8 = .ok (.iconst (-1), 1) := by decide +kernel
theorem dX8_beat_9 : decode cX8_beat 9 = .ok (.ireturn, 1) := by decide +kernel
theorem dX8_beat_10 : decode cX8_beat 10 = .ok (.aload_n 0, 1) := by decide +kernel
theorem dX8_beat_11 : decode cX8_beat 11 = .ok (.invokevirtual 185, 3) := by decide +kernel
theorem dX8_beat_14 : decode cX8_beat 14 = .ok (.iload_n 2, 1) := by decide +kernel
theorem dX8_beat_15 : decode cX8_beat 15 = .ok (.tableswitch 106 0 7 #[45, 54, 60, 66, 73, 79, 86, 93], 45) := by decide +kernel
theorem dX8_beat_60 : decode cX8_beat 60 = .ok (.aload_n 0, 1) := by decide +kernel
theorem dX8_beat_61 : decode cX8_beat 61 = .ok (.getfield 7, 3) := by decide +kernel
theorem dX8_beat_64 : decode cX8_beat 64 = .ok (.iconst 4, 1) := by decide +kernel
theorem dX8_beat_65 : decode cX8_beat 65 = .ok (.iload_n 1, 1) := by decide +kernel
theorem dX8_beat_66 : decode cX8_beat 66 = .ok (.iadd, 1) := by decide +kernel
theorem dX8_beat_67 : decode cX8_beat 67 = .ok (.iaload, 1) := by decide +kernel
theorem dX8_beat_68 : decode cX8_beat 68 = .ok (.ireturn, 1) := by decide +kernel
theorem dX8_beat_69 : decode cX8_beat 69 = .ok (.aload_n 0, 1) := by decide +kernel
theorem dX8_beat_70 : decode cX8_beat 70 = .ok (.iload_n 1, 1) := by decide +kernel
theorem dX8_beat_71 : decode cX8_beat 71 = .ok (.invokevirtual 148, 3) := by decide +kernel
theorem dX8_beat_74 : decode cX8_beat 74 = .ok (.ireturn, 1) := by decide +kernel
theorem dX8_beat_75 : decode cX8_beat 75 = .ok (.aload_n 0, 1) := by decide +kernel
theorem dX8_beat_76 : decode cX8_beat 76 = .ok (.iload_n 1, 1) := by decide +kernel
theorem dX8_beat_77 : decode cX8_beat 77 = .ok (.invokevirtual 179, 3) := by decide +kernel
theorem dX8_beat_80 : decode cX8_beat 80 = .ok (.ireturn, 1) := by decide +kernel
theorem dX8_beat_81 : decode cX8_beat 81 = .ok (.aload_n 0, 1) := by decide +kernel
theorem dX8_beat_82 : decode cX8_beat 82 = .ok (.iload_n 1, 1) := by decide +kernel
theorem dX8_beat_83 : decode cX8_beat 83 = .ok (.iconst 0, 1) := by decide +kernel
theorem dX8_beat_84 : decode cX8_beat 84 = .ok (.invokevirtual 182, 3) := by decide +kernel
theorem dX8_beat_87 : decode cX8_beat 87 = .ok (.ireturn, 1) := by decide +kernel
theorem dX8_beat_88 : decode cX8_beat 88 = .ok (.aload_n 0, 1) := by decide +kernel
theorem dX8_beat_89 : decode cX8_beat 89 = .ok (.iload_n 1, 1) := by decide +kernel
theorem dX8_beat_90 : decode cX8_beat 90 = .ok (.invokevirtual 139, 3) := by decide +kernel
theorem dX8_beat_93 : decode cX8_beat 93 = .ok (.ireturn, 1) := by decide +kernel
theorem dX8_beat_94 : decode cX8_beat 94 = .ok (.aload_n 0, 1) := by decide +kernel
theorem dX8_beat_95 : decode cX8_beat 95 = .ok (.iload_n 1, 1) := by decide +kernel
theorem dX8_beat_96 : decode cX8_beat 96 = .ok (.iconst 1, 1) := by decide +kernel
theorem dX8_beat_97 : decode cX8_beat 97 = .ok (.invokevirtual 182, 3) := by decide +kernel
theorem dX8_beat_100 : decode cX8_beat 100 = .ok (.ireturn, 1) := by decide +kernel
theorem dX8_beat_101 : decode cX8_beat 101 = .ok (.aload_n 0, 1) := by decide +kernel
theorem dX8_beat_102 : decode cX8_beat 102 = .ok (.iload_n 1, 1) := by decide +kernel
theorem dX8_beat_103 : decode cX8_beat 103 = .ok (.iconst 2, 1) := by decide +kernel
theorem dX8_beat_104 : decode cX8_beat 104 = .ok (.invokevirtual 182, 3) := by decide +kernel
theorem dX8_beat_107 : decode cX8_beat 107 = .ok (.ireturn, 1) := by decide +kernel
theorem dX8_beat_108 : decode cX8_beat 108 = .ok (.aload_n 0, 1) := by decide +kernel
theorem dX8_beat_109 : decode cX8_beat 109 = .ok (.iload_n 1, 1) := by decide +kernel
theorem dX8_beat_110 : decode cX8_beat 110 = .ok (.iconst 0, 1) := by decide +kernel
theorem dX8_beat_111 : decode cX8_beat 111 = .ok (.invokevirtual 182, 3) := by decide +kernel
theorem dX8_beat_114 : decode cX8_beat 114 = .ok (.aload_n 0, 1) := by decide +kernel
theorem dX8_beat_115 : decode cX8_beat 115 = .ok (.iload_n 1, 1) := by decide +kernel
theorem dX8_beat_116 : decode cX8_beat 116 = .ok (.invokevirtual 148, 3) := by decide +kernel
theorem dX8_beat_119 : decode cX8_beat 119 = .ok (.imul, 1) := by decide +kernel
theorem dX8_beat_120 : decode cX8_beat 120 = .ok (.ireturn, 1) := by decide +kernel
theorem dX8_beat_121 : decode cX8_beat 121 = .ok (.bipush (-2), 2) := by decide +kernel
theorem dX8_beat_123 : decode cX8_beat 123 = .ok (.ireturn, 1) := by decide +kernel
set_option maxRecDepth 20000 in
theorem ggX8_beatsOf_X8_beats : GoodIn wsX8_beatsOf wsX8_beats := goodIn_r _ [5, 6, 12, 13, 14, 15, 16, 17, 18, 19, 20, 21, 22, 23, 24, 25, 26, 27, 28, 29, 30, 31] (by decide +kernel) (by decide +kernel)
set_option maxRecDepth 20000 in
theorem gX8_beatsOf_X8_beats : GoodIn wsX8_beatsOf (wsV RX8 65 RX8 yX8_beats wsX8_beats) := goodIn_app (goodIn_of _ (by decide +kernel)) ggX8_beatsOf_X8_beats
set_option maxRecDepth 20000 in
theorem ggX8_beatsOf_X8_doesAt : GoodIn wsX8_beatsOf wsX8_doesAt := goodIn_r _ [10, 11, 12, 13, 14, 15, 16, 17, 18, 19, 20, 21, 22, 23, 24, 25, 26, 27, 28, 29, 30, 31] (by decide +kernel) (by decide +kernel)
set_option maxRecDepth 20000 in
theorem gX8_beatsOf_X8_doesAt : GoodIn wsX8_beatsOf (wsV RX8 157 RX8 yX8_doesAt wsX8_doesAt) := goodIn_app (goodIn_of _ (by decide +kernel)) ggX8_beatsOf_X8_doesAt
theorem dX8_beatsOf_0 : decode cX8_beatsOf 0 = .ok (.iconst 0, 1) := by decide +kernel
theorem dX8_beatsOf_1 : decode cX8_beatsOf 1 = .ok (.istore_n 3, 1) := by decide +kernel
theorem dX8_beatsOf_2 : decode cX8_beatsOf 2 = .ok (.iconst 0, 1) := by decide +kernel
theorem dX8_beatsOf_3 : decode cX8_beatsOf 3 = .ok (.istore 4, 2) := by decide +kernel
theorem dX8_beatsOf_5 : decode cX8_beatsOf 5 = .ok (.iload 4, 2) := by decide +kernel
theorem dX8_beatsOf_7 : decode cX8_beatsOf 7 = .ok (.aload_n 0, 1) := by decide +kernel
theorem dX8_beatsOf_8 : decode cX8_beatsOf 8 = .ok (.invokevirtual 65, 3) := by decide +kernel
theorem dX8_beatsOf_11 : decode cX8_beatsOf 11 = .ok (.if_icmp .ge 28, 3) := by decide +kernel
theorem dX8_beatsOf_14 : decode cX8_beatsOf 14 = .ok (.iload_n 3, 1) := by decide +kernel
theorem dX8_beatsOf_15 : decode cX8_beatsOf 15 = .ok (.aload_n 0, 1) := by decide +kernel
theorem dX8_beatsOf_16 : decode cX8_beatsOf 16 = .ok (.iload_n 1, 1) := by decide +kernel
theorem dX8_beatsOf_17 : decode cX8_beatsOf 17 = .ok (.iload 4, 2) := by decide +kernel
theorem dX8_beatsOf_19 : decode cX8_beatsOf 19 = .ok (.invokevirtual 157, 3) := by decide +kernel
theorem dX8_beatsOf_22 : decode cX8_beatsOf 22 = .ok (.iload_n 2, 1) := by decide +kernel
theorem dX8_beatsOf_23 : decode cX8_beatsOf 23 = .ok (.if_icmp .ne 7, 3) := by decide +kernel
theorem dX8_beatsOf_26 : decode cX8_beatsOf 26 = .ok (.iconst 1, 1) := by decide +kernel
theorem dX8_beatsOf_27 : decode cX8_beatsOf 27 = .ok (.goto 4, 3) := by decide +kernel
theorem dX8_beatsOf_30 : decode cX8_beatsOf 30 = .ok (.iconst 0, 1) := by decide +kernel
theorem dX8_beatsOf_31 : decode cX8_beatsOf 31 = .ok (.iadd, 1) := by decide +kernel
theorem dX8_beatsOf_32 : decode cX8_beatsOf 32 = .ok (.istore_n 3, 1) := by decide +kernel
theorem dX8_beatsOf_33 : decode cX8_beatsOf 33 = .ok (.iinc 4 1, 3) := by decide +kernel
theorem dX8_beatsOf_36 : decode cX8_beatsOf 36 = .ok (.goto (-31), 3) := by decide +kernel
theorem dX8_beatsOf_39 : decode cX8_beatsOf 39 = .ok (.iload_n 3, 1) := by decide +kernel
theorem dX8_beatsOf_40 : decode cX8_beatsOf 40 = .ok (.ireturn, 1) := by decide +kernel
set_option maxRecDepth 20000 in
theorem ggX8_singer_X8_noSinger : GoodIn wsX8_singer wsX8_noSinger := goodIn_r _ [6, 7, 8, 9, 5, 10, 11, 12, 13, 14, 79, 80, 81, 82, 83, 84, 85, 86, 87, 88, 89, 90, 91, 92, 93, 94, 95, 96, 97, 98] (by decide +kernel) (by decide +kernel)
set_option maxRecDepth 20000 in
theorem gX8_singer_X8_noSinger : GoodIn wsX8_singer (wsV RX8 116 RX8 yX8_noSinger wsX8_noSinger) := goodIn_app (goodIn_of _ (by decide +kernel)) ggX8_singer_X8_noSinger
set_option maxRecDepth 20000 in
theorem ggX8_singer_X8_liveAll : GoodIn wsX8_singer wsX8_liveAll := goodIn_r _ [18, 7, 8, 9, 5, 10, 11, 19, 20, 21, 22, 23, 24, 25, 26, 27, 1, 28, 29, 30, 31, 32, 33, 34, 35, 36, 37, 38, 39, 40, 41, 42, 43, 44, 45, 46, 47, 48, 49, 50, 51, 12, 13, 14, 52, 53, 54, 55, 56, 57, 58, 59, 60, 61, 62, 63, 64, 65, 66, 79, 80, 81, 82, 83, 84, 85, 86, 87, 88, 89, 90, 91, 92, 93, 94, 95, 96, 97, 98] (by decide +kernel) (by decide +kernel)
set_option maxRecDepth 20000 in
theorem gX8_singer_X8_liveAll : GoodIn wsX8_singer (wsV RX8 185 RX8 yX8_liveAll wsX8_liveAll) := goodIn_app (goodIn_of _ (by decide +kernel)) ggX8_singer_X8_liveAll
set_option maxRecDepth 20000 in
theorem ggX8_singer_X8_of : GoodIn wsX8_singer wsX8_of := goodIn_r _ [35, 11, 79, 80, 81, 82, 83, 84, 85, 86, 87, 88, 89, 90, 91, 92, 93, 94, 95, 96, 97, 98] (by decide +kernel) (by decide +kernel)
set_option maxRecDepth 20000 in
theorem gX8_singer_X8_of : GoodIn wsX8_singer (wsV RX8 112 RX8 yX8_of wsX8_of) := goodIn_app (goodIn_of _ (by decide +kernel)) ggX8_singer_X8_of
set_option maxRecDepth 20000 in
theorem ggX8_singer_X8_beats : GoodIn wsX8_singer wsX8_beats := goodIn_r _ [22, 11, 79, 80, 81, 82, 83, 84, 85, 86, 87, 88, 89, 90, 91, 92, 93, 94, 95, 96, 97, 98] (by decide +kernel) (by decide +kernel)
set_option maxRecDepth 20000 in
theorem gX8_singer_X8_beats : GoodIn wsX8_singer (wsV RX8 65 RX8 yX8_beats wsX8_beats) := goodIn_app (goodIn_of _ (by decide +kernel)) ggX8_singer_X8_beats
set_option maxRecDepth 20000 in
theorem ggX8_singer_X8_lesser : GoodIn wsX8_singer wsX8_lesser := goodIn_r _ [66] (by decide +kernel) (by decide +kernel)
set_option maxRecDepth 20000 in
theorem gX8_singer_X8_lesser : GoodIn wsX8_singer (va_wsS RX8 151 yX8_lesser wsX8_lesser) := goodIn_app (goodIn_of _ (by decide +kernel)) ggX8_singer_X8_lesser
set_option maxRecDepth 20000 in
theorem ggX8_singer_X8_doesAt : GoodIn wsX8_singer wsX8_doesAt := goodIn_r _ [70, 27, 79, 80, 81, 82, 83, 84, 85, 86, 87, 88, 89, 90, 91, 92, 93, 94, 95, 96, 97, 98] (by decide +kernel) (by decide +kernel)
set_option maxRecDepth 20000 in
theorem gX8_singer_X8_doesAt : GoodIn wsX8_singer (wsV RX8 157 RX8 yX8_doesAt wsX8_doesAt) := goodIn_app (goodIn_of _ (by decide +kernel)) ggX8_singer_X8_doesAt
set_option maxRecDepth 20000 in
theorem ggX8_singer_X8_marksOf : GoodIn wsX8_singer wsX8_marksOf := goodIn_r _ [74, 19, 20, 21, 5, 22, 11, 56, 57, 58, 59, 79, 80, 81, 82, 83, 84, 85, 86, 87, 88, 89, 90, 91, 92, 93, 94, 95, 96, 97, 98] (by decide +kernel) (by decide +kernel)
set_option maxRecDepth 20000 in
theorem gX8_singer_X8_marksOf : GoodIn wsX8_singer (wsV RX8 132 RX8 yX8_marksOf wsX8_marksOf) := goodIn_app (goodIn_of _ (by decide +kernel)) ggX8_singer_X8_marksOf
set_option maxRecDepth 20000 in
theorem ggX8_singer_X8_beatsOf : GoodIn wsX8_singer wsX8_beatsOf := goodIn_r _ [78, 19, 20, 21, 5, 22, 11, 67, 68, 69, 70, 27, 79, 80, 81, 82, 83, 84, 85, 86, 87, 88, 89, 90, 91, 92, 93, 94, 95, 96, 97, 98] (by decide +kernel) (by decide +kernel)
set_option maxRecDepth 20000 in
theorem gX8_singer_X8_beatsOf : GoodIn wsX8_singer (wsV RX8 198 RX8 yX8_beatsOf wsX8_beatsOf) := goodIn_app (goodIn_of _ (by decide +kernel)) ggX8_singer_X8_beatsOf
theorem dX8_singer_0 : decode cX8_singer 0 = .ok (.aload_n 0, 1) := by decide +kernel
theorem dX8_singer_1 : decode cX8_singer 1 = .ok (.iload_n 1, 1) := by decide +kernel
theorem dX8_singer_2 : decode cX8_singer 2 = .ok (.invokevirtual 116, 3) := by decide +kernel
theorem dX8_singer_5 : decode cX8_singer 5 = .ok (.ifCond .eq 5, 3) := by decide +kernel
theorem dX8_singer_8 : decode cX8_singer 8 = .ok (.iconst (-1), 1) := by decide +kernel
theorem dX8_singer_9 : decode cX8_singer 9 = .ok (.ireturn, 1) := by decide +kernel
theorem dX8_singer_10 : decode cX8_singer 10 = .ok (.aload_n 0, 1) := by decide +kernel
theorem dX8_singer_11 : decode cX8_singer 11 = .ok (.invokevirtual 185, 3) := by decide +kernel
theorem dX8_singer_14 : decode cX8_singer 14 = .ok (.aload_n 0, 1) := by decide +kernel
theorem dX8_singer_15 : decode cX8_singer 15 = .ok (.iload_n 1, 1) := by decide +kernel
theorem dX8_singer_16 : decode cX8_singer 16 = .ok (.iconst 0, 1) := by decide +kernel
theorem dX8_singer_17 : decode cX8_singer 17 = .ok (.invokevirtual 112, 3) := by decide +kernel
theorem dX8_singer_20 : decode cX8_singer 20 = .ok (.istore_n 3, 1) := by decide +kernel
theorem dX8_singer_21 : decode cX8_singer 21 = .ok (.iconst 0, 1) := by decide +kernel
theorem dX8_singer_22 : decode cX8_singer 22 = .ok (.istore 4, 2) := by decide +kernel
theorem dX8_singer_24 : decode cX8_singer 24 = .ok (.iconst 0, 1) := by decide +kernel
theorem dX8_singer_25 : decode cX8_singer 25 = .ok (.istore 5, 2) := by decide +kernel
theorem dX8_singer_27 : decode cX8_singer 27 = .ok (.iconst 0, 1) := by decide +kernel
theorem dX8_singer_28 : decode cX8_singer 28 = .ok (.istore 6, 2) := by decide +kernel
theorem dX8_singer_30 : decode cX8_singer 30 = .ok (.iload 6, 2) := by decide +kernel
theorem dX8_singer_32 : decode cX8_singer 32 = .ok (.aload_n 0, 1) := by decide +kernel
theorem dX8_singer_33 : decode cX8_singer 33 = .ok (.invokevirtual 65, 3) := by decide +kernel
theorem dX8_singer_36 : decode cX8_singer 36 = .ok (.if_icmp .ge 62, 3) := by decide +kernel
theorem dX8_singer_39 : decode cX8_singer 39 = .ok (.iload_n 3, 1) := by decide +kernel
theorem dX8_singer_40 : decode cX8_singer 40 = .ok (.aload_n 0, 1) := by decide +kernel
theorem dX8_singer_41 : decode cX8_singer 41 = .ok (.getfield 42, 3) := by decide +kernel
theorem dX8_singer_44 : decode cX8_singer 44 = .ok (.bipush 96, 2) := by decide +kernel
theorem dX8_singer_46 : decode cX8_singer 46 = .ok (.iload_n 1, 1) := by decide +kernel
theorem dX8_singer_47 : decode cX8_singer 47 = .ok (.imul, 1) := by decide +kernel
theorem dX8_singer_48 : decode cX8_singer 48 = .ok (.iload 6, 2) := by decide +kernel
theorem dX8_singer_50 : decode cX8_singer 50 = .ok (.iadd, 1) := by decide +kernel
theorem dX8_singer_51 : decode cX8_singer 51 = .ok (.iaload, 1) := by decide +kernel
theorem dX8_singer_52 : decode cX8_singer 52 = .ok (.invokestatic 151, 3) := by decide +kernel
theorem dX8_singer_55 : decode cX8_singer 55 = .ok (.istore_n 3, 1) := by decide +kernel
theorem dX8_singer_56 : decode cX8_singer 56 = .ok (.aload_n 0, 1) := by decide +kernel
theorem dX8_singer_57 : decode cX8_singer 57 = .ok (.iload_n 1, 1) := by decide +kernel
theorem dX8_singer_58 : decode cX8_singer 58 = .ok (.iload 6, 2) := by decide +kernel
theorem dX8_singer_60 : decode cX8_singer 60 = .ok (.invokevirtual 157, 3) := by decide +kernel
theorem dX8_singer_63 : decode cX8_singer 63 = .ok (.ifCond .ne 10, 3) := by decide +kernel
theorem dX8_singer_66 : decode cX8_singer 66 = .ok (.iload 4, 2) := by decide +kernel
theorem dX8_singer_68 : decode cX8_singer 68 = .ok (.iconst 1, 1) := by decide +kernel
theorem dX8_singer_69 : decode cX8_singer 69 = .ok (.iadd, 1) := by decide +kernel
theorem dX8_singer_70 : decode cX8_singer 70 = .ok (.goto 4, 3) := by decide +kernel
theorem dX8_singer_73 : decode cX8_singer 73 = .ok (.iconst 0, 1) := by decide +kernel
theorem dX8_singer_74 : decode cX8_singer 74 = .ok (.istore 4, 2) := by decide +kernel
theorem dX8_singer_76 : decode cX8_singer 76 = .ok (.iload 4, 2) := by decide +kernel
theorem dX8_singer_78 : decode cX8_singer 78 = .ok (.iload 5, 2) := by decide +kernel
theorem dX8_singer_80 : decode cX8_singer 80 = .ok (.if_icmp .le 8, 3) := by decide +kernel
theorem dX8_singer_83 : decode cX8_singer 83 = .ok (.iload 4, 2) := by decide +kernel
theorem dX8_singer_85 : decode cX8_singer 85 = .ok (.goto 5, 3) := by decide +kernel
theorem dX8_singer_88 : decode cX8_singer 88 = .ok (.iload 5, 2) := by decide +kernel
theorem dX8_singer_90 : decode cX8_singer 90 = .ok (.istore 5, 2) := by decide +kernel
theorem dX8_singer_92 : decode cX8_singer 92 = .ok (.iinc 6 1, 3) := by decide +kernel
theorem dX8_singer_95 : decode cX8_singer 95 = .ok (.goto (-65), 3) := by decide +kernel
theorem dX8_singer_98 : decode cX8_singer 98 = .ok (.iload_n 2, 1) := by decide +kernel
theorem dX8_singer_99 : decode cX8_singer 99 = .ok (.tableswitch 77 0 7 #[45, 45, 45, 52, 58, 65, 72, 74], 45) := by decide +kernel
theorem dX8_singer_144 : decode cX8_singer 144 = .ok (.aload_n 0, 1) := by decide +kernel
theorem dX8_singer_145 : decode cX8_singer 145 = .ok (.iload_n 1, 1) := by decide +kernel
theorem dX8_singer_146 : decode cX8_singer 146 = .ok (.iload_n 2, 1) := by decide +kernel
theorem dX8_singer_147 : decode cX8_singer 147 = .ok (.invokevirtual 112, 3) := by decide +kernel
theorem dX8_singer_150 : decode cX8_singer 150 = .ok (.ireturn, 1) := by decide +kernel
theorem dX8_singer_151 : decode cX8_singer 151 = .ok (.aload_n 0, 1) := by decide +kernel
theorem dX8_singer_152 : decode cX8_singer 152 = .ok (.iload_n 1, 1) := by decide +kernel
theorem dX8_singer_153 : decode cX8_singer 153 = .ok (.invokevirtual 132, 3) := by decide +kernel
theorem dX8_singer_156 : decode cX8_singer 156 = .ok (.ireturn, 1) := by decide +kernel
theorem dX8_singer_157 : decode cX8_singer 157 = .ok (.aload_n 0, 1) := by decide +kernel
theorem dX8_singer_158 : decode cX8_singer 158 = .ok (.iload_n 1, 1) := by decide +kernel
theorem dX8_singer_159 : decode cX8_singer 159 = .ok (.iconst 0, 1) := by decide +kernel
theorem dX8_singer_160 : decode cX8_singer 160 = .ok (.invokevirtual 198, 3) := by decide +kernel
theorem dX8_singer_163 : decode cX8_singer 163 = .ok (.ireturn, 1) := by decide +kernel
theorem dX8_singer_164 : decode cX8_singer 164 = .ok (.aload_n 0, 1) := by decide +kernel
theorem dX8_singer_165 : decode cX8_singer 165 = .ok (.iload_n 1, 1) := by decide +kernel
theorem dX8_singer_166 : decode cX8_singer 166 = .ok (.iconst 2, 1) := by decide +kernel
theorem dX8_singer_167 : decode cX8_singer 167 = .ok (.invokevirtual 198, 3) := by decide +kernel
theorem dX8_singer_170 : decode cX8_singer 170 = .ok (.ireturn, 1) := by decide +kernel
theorem dX8_singer_171 : decode cX8_singer 171 = .ok (.iload_n 3, 1) := by decide +kernel
theorem dX8_singer_172 : decode cX8_singer 172 = .ok (.ireturn, 1) := by decide +kernel
theorem dX8_singer_173 : decode cX8_singer 173 = .ok (.iload 5, 2) := by decide +kernel
theorem dX8_singer_175 : decode cX8_singer 175 = .ok (.ireturn, 1) := by decide +kernel
theorem dX8_singer_176 : decode cX8_singer 176 = .ok (.bipush (-2), 2) := by decide +kernel
theorem dX8_singer_178 : decode cX8_singer 178 = .ok (.ireturn, 1) := by decide +kernel
set_option maxRecDepth 20000 in
theorem ggX8_does_X8_noSinger : GoodIn wsX8_does wsX8_noSinger := goodIn_r _ [5, 6, 7, 8, 4, 9, 10, 11, 12, 13, 75, 76, 77, 78, 79, 80, 81, 82, 83, 84, 85, 86, 87, 88, 89, 90, 91, 92, 93, 94] (by decide +kernel) (by decide +kernel)
set_option maxRecDepth 20000 in
theorem gX8_does_X8_noSinger : GoodIn wsX8_does (wsV RX8 116 RX8 yX8_noSinger wsX8_noSinger) := goodIn_app (goodIn_of _ (by decide +kernel)) ggX8_does_X8_noSinger
set_option maxRecDepth 20000 in
theorem ggX8_does_X8_noBeat : GoodIn wsX8_does wsX8_noBeat := goodIn_r _ [17, 18, 19, 20, 4, 21, 10, 11, 12, 13, 75, 76, 77, 78, 79, 80, 81, 82, 83, 84, 85, 86, 87, 88, 89, 90, 91, 92, 93, 94] (by decide +kernel) (by decide +kernel)
set_option maxRecDepth 20000 in
theorem gX8_does_X8_noBeat : GoodIn wsX8_does (wsV RX8 105 RX8 yX8_noBeat wsX8_noBeat) := goodIn_app (goodIn_of _ (by decide +kernel)) ggX8_does_X8_noBeat
set_option maxRecDepth 20000 in
theorem ggX8_does_X8_liveAll : GoodIn wsX8_does wsX8_liveAll := goodIn_r _ [25, 6, 7, 8, 4, 9, 10, 18, 19, 20, 21, 26, 27, 28, 29, 30, 31, 32, 33, 34, 35, 36, 37, 38, 39, 40, 41, 42, 43, 44, 45, 46, 47, 48, 49, 50, 51, 52, 53, 54, 55, 11, 12, 13, 56, 57, 58, 59, 60, 61, 62, 63, 64, 65, 66, 67, 68, 69, 70, 75, 76, 77, 78, 79, 80, 81, 82, 83, 84, 85, 86, 87, 88, 89, 90, 91, 92, 93, 94] (by decide +kernel) (by decide +kernel)
set_option maxRecDepth 20000 in
theorem gX8_does_X8_liveAll : GoodIn wsX8_does (wsV RX8 185 RX8 yX8_liveAll wsX8_liveAll) := goodIn_app (goodIn_of _ (by decide +kernel)) ggX8_does_X8_liveAll
set_option maxRecDepth 20000 in
theorem ggX8_does_X8_doesAt : GoodIn wsX8_does wsX8_doesAt := goodIn_r _ [74, 30, 75, 76, 77, 78, 79, 80, 81, 82, 83, 84, 85, 86, 87, 88, 89, 90, 91, 92, 93, 94] (by decide +kernel) (by decide +kernel)
set_option maxRecDepth 20000 in
theorem gX8_does_X8_doesAt : GoodIn wsX8_does (wsV RX8 157 RX8 yX8_doesAt wsX8_doesAt) := goodIn_app (goodIn_of _ (by decide +kernel)) ggX8_does_X8_doesAt
theorem dX8_does_0 : decode cX8_does 0 = .ok (.aload_n 0, 1) := by decide +kernel
theorem dX8_does_1 : decode cX8_does 1 = .ok (.iload_n 1, 1) := by decide +kernel
theorem dX8_does_2 : decode cX8_does 2 = .ok (.invokevirtual 116, 3) := by decide +kernel
theorem dX8_does_5 : decode cX8_does 5 = .ok (.ifCond .ne 11, 3) := by decide +kernel
theorem dX8_does_8 : decode cX8_does 8 = .ok (.aload_n 0, 1) := by decide +kernel
theorem dX8_does_9 : decode cX8_does 9 = .ok (.iload_n 2, 1) := by decide +kernel
theorem dX8_does_10 : decode cX8_does 10 = .ok (.invokevirtual 105, 3) := by decide +kernel
theorem dX8_does_13 : decode cX8_does 13 = .ok (.ifCond .eq 5, 3) := by decide +kernel
theorem dX8_does_16 : decode cX8_does 16 = .ok (.iconst (-1), 1) := by decide +kernel
theorem dX8_does_17 : decode cX8_does 17 = .ok (.ireturn, 1) := by decide +kernel
theorem dX8_does_18 : decode cX8_does 18 = .ok (.aload_n 0, 1) := by decide +kernel
theorem dX8_does_19 : decode cX8_does 19 = .ok (.invokevirtual 185, 3) := by decide +kernel
theorem dX8_does_22 : decode cX8_does 22 = .ok (.aload_n 0, 1) := by decide +kernel
theorem dX8_does_23 : decode cX8_does 23 = .ok (.iload_n 1, 1) := by decide +kernel
theorem dX8_does_24 : decode cX8_does 24 = .ok (.iload_n 2, 1) := by decide +kernel
theorem dX8_does_25 : decode cX8_does 25 = .ok (.invokevirtual 157, 3) := by decide +kernel
theorem dX8_does_28 : decode cX8_does 28 = .ok (.ireturn, 1) := by decide +kernel
set_option maxRecDepth 20000 in
theorem ggX8_left_X8_noSinger : GoodIn wsX8_left wsX8_noSinger := goodIn_r _ [6, 7, 8, 9, 5, 10, 11, 12, 13, 14, 71, 72, 73, 74, 75, 76, 77, 78, 79, 80, 81, 82, 83, 84, 85, 86, 87, 88, 89, 90] (by decide +kernel) (by decide +kernel)
set_option maxRecDepth 20000 in
theorem gX8_left_X8_noSinger : GoodIn wsX8_left (wsV RX8 116 RX8 yX8_noSinger wsX8_noSinger) := goodIn_app (goodIn_of _ (by decide +kernel)) ggX8_left_X8_noSinger
set_option maxRecDepth 20000 in
theorem ggX8_left_X8_noBeat : GoodIn wsX8_left wsX8_noBeat := goodIn_r _ [18, 19, 20, 21, 5, 22, 11, 12, 13, 14, 71, 72, 73, 74, 75, 76, 77, 78, 79, 80, 81, 82, 83, 84, 85, 86, 87, 88, 89, 90] (by decide +kernel) (by decide +kernel)
set_option maxRecDepth 20000 in
theorem gX8_left_X8_noBeat : GoodIn wsX8_left (wsV RX8 105 RX8 yX8_noBeat wsX8_noBeat) := goodIn_app (goodIn_of _ (by decide +kernel)) ggX8_left_X8_noBeat
set_option maxRecDepth 20000 in
theorem ggX8_left_X8_liveAll : GoodIn wsX8_left wsX8_liveAll := goodIn_r _ [26, 7, 8, 9, 5, 10, 11, 19, 20, 21, 22, 27, 28, 29, 30, 31, 1, 32, 33, 34, 35, 36, 37, 38, 39, 40, 41, 42, 43, 44, 45, 46, 47, 48, 49, 50, 51, 52, 53, 54, 55, 12, 13, 14, 56, 57, 58, 59, 60, 61, 62, 63, 64, 65, 66, 67, 68, 69, 70, 71, 72, 73, 74, 75, 76, 77, 78, 79, 80, 81, 82, 83, 84, 85, 86, 87, 88, 89, 90] (by decide +kernel) (by decide +kernel)
set_option maxRecDepth 20000 in
theorem gX8_left_X8_liveAll : GoodIn wsX8_left (wsV RX8 185 RX8 yX8_liveAll wsX8_liveAll) := goodIn_app (goodIn_of _ (by decide +kernel)) ggX8_left_X8_liveAll
theorem dX8_left_0 : decode cX8_left 0 = .ok (.aload_n 0, 1) := by decide +kernel
theorem dX8_left_1 : decode cX8_left 1 = .ok (.iload_n 1, 1) := by decide +kernel
theorem dX8_left_2 : decode cX8_left 2 = .ok (.invokevirtual 116, 3) := by decide +kernel
theorem dX8_left_5 : decode cX8_left 5 = .ok (.ifCond .ne 11, 3) := by decide +kernel
theorem dX8_left_8 : decode cX8_left 8 = .ok (.aload_n 0, 1) := by decide +kernel
theorem dX8_left_9 : decode cX8_left 9 = .ok (.iload_n 2, 1) := by decide +kernel
theorem dX8_left_10 : decode cX8_left 10 = .ok (.invokevirtual 105, 3) := by decide +kernel
theorem dX8_left_13 : decode cX8_left 13 = .ok (.ifCond .eq 5, 3) := by decide +kernel
theorem dX8_left_16 : decode cX8_left 16 = .ok (.iconst (-1), 1) := by decide +kernel
theorem dX8_left_17 : decode cX8_left 17 = .ok (.ireturn, 1) := by decide +kernel
theorem dX8_left_18 : decode cX8_left 18 = .ok (.aload_n 0, 1) := by decide +kernel
theorem dX8_left_19 : decode cX8_left 19 = .ok (.invokevirtual 185, 3) := by decide +kernel
theorem dX8_left_22 : decode cX8_left 22 = .ok (.aload_n 0, 1) := by decide +kernel
theorem dX8_left_23 : decode cX8_left 23 = .ok (.getfield 42, 3) := by decide +kernel
theorem dX8_left_26 : decode cX8_left 26 = .ok (.bipush 96, 2) := by decide +kernel
theorem dX8_left_28 : decode cX8_left 28 = .ok (.iload_n 1, 1) := by decide +kernel
theorem dX8_left_29 : decode cX8_left 29 = .ok (.imul, 1) := by decide +kernel
theorem dX8_left_30 : decode cX8_left 30 = .ok (.iload_n 2, 1) := by decide +kernel
theorem dX8_left_31 : decode cX8_left 31 = .ok (.iadd, 1) := by decide +kernel
theorem dX8_left_32 : decode cX8_left 32 = .ok (.iaload, 1) := by decide +kernel
theorem dX8_left_33 : decode cX8_left 33 = .ok (.ireturn, 1) := by decide +kernel
set_option maxRecDepth 20000 in
theorem ggX8_solo_X8_solos : GoodIn wsX8_solo wsX8_solos := goodIn_r _ [5, 6, 14, 15, 16, 17, 18, 19, 20, 21, 22, 23, 24, 25, 26, 27, 28, 29, 30, 31, 32, 33] (by decide +kernel) (by decide +kernel)
set_option maxRecDepth 20000 in
theorem gX8_solo_X8_solos : GoodIn wsX8_solo (wsV RX8 122 RX8 yX8_solos wsX8_solos) := goodIn_app (goodIn_of _ (by decide +kernel)) ggX8_solo_X8_solos
set_option maxRecDepth 20000 in
theorem ggX8_solo_X8_in : GoodIn wsX8_solo wsX8_in := goodIn_r _ [9] (by decide +kernel) (by decide +kernel)
set_option maxRecDepth 20000 in
theorem gX8_solo_X8_in : GoodIn wsX8_solo (va_wsS RX8 61 yX8_in wsX8_in) := goodIn_app (goodIn_of _ (by decide +kernel)) ggX8_solo_X8_in
set_option maxRecDepth 20000 in
theorem ggX8_solo_X8_soloOf : GoodIn wsX8_solo wsX8_soloOf := goodIn_r _ [13, 6, 14, 15, 16, 17, 18, 19, 20, 21, 22, 23, 24, 25, 26, 27, 28, 29, 30, 31, 32, 33] (by decide +kernel) (by decide +kernel)
set_option maxRecDepth 20000 in
theorem gX8_solo_X8_soloOf : GoodIn wsX8_solo (wsV RX8 125 RX8 yX8_soloOf wsX8_soloOf) := goodIn_app (goodIn_of _ (by decide +kernel)) ggX8_solo_X8_soloOf
theorem dX8_solo_0 : decode cX8_solo 0 = .ok (.iload_n 1, 1) := by decide +kernel
theorem dX8_solo_1 : decode cX8_solo 1 = .ok (.iconst 0, 1) := by decide +kernel
theorem dX8_solo_2 : decode cX8_solo 2 = .ok (.aload_n 0, 1) := by decide +kernel
theorem dX8_solo_3 : decode cX8_solo 3 = .ok (.invokevirtual 122, 3) := by decide +kernel
theorem dX8_solo_6 : decode cX8_solo 6 = .ok (.iconst 1, 1) := by decide +kernel
theorem dX8_solo_7 : decode cX8_solo 7 = .ok (.isub, 1) := by decide +kernel
theorem dX8_solo_8 : decode cX8_solo 8 = .ok (.invokestatic 61, 3) := by decide +kernel
theorem dX8_solo_11 : decode cX8_solo 11 = .ok (.ifCond .ne 5, 3) := by decide +kernel
theorem dX8_solo_14 : decode cX8_solo 14 = .ok (.iconst (-1), 1) := by decide +kernel
theorem dX8_solo_15 : decode cX8_solo 15 = .ok (.ireturn, 1) := by decide +kernel
theorem dX8_solo_16 : decode cX8_solo 16 = .ok (.iload_n 2, 1) := by decide +kernel
theorem dX8_solo_17 : decode cX8_solo 17 = .ok (.iconst 0, 1) := by decide +kernel
theorem dX8_solo_18 : decode cX8_solo 18 = .ok (.iconst 2, 1) := by decide +kernel
theorem dX8_solo_19 : decode cX8_solo 19 = .ok (.invokestatic 61, 3) := by decide +kernel
theorem dX8_solo_22 : decode cX8_solo 22 = .ok (.ifCond .eq 12, 3) := by decide +kernel
theorem dX8_solo_25 : decode cX8_solo 25 = .ok (.aload_n 0, 1) := by decide +kernel
theorem dX8_solo_26 : decode cX8_solo 26 = .ok (.iload_n 1, 1) := by decide +kernel
theorem dX8_solo_27 : decode cX8_solo 27 = .ok (.iload_n 2, 1) := by decide +kernel
theorem dX8_solo_28 : decode cX8_solo 28 = .ok (.invokevirtual 125, 3) := by decide +kernel
theorem dX8_solo_31 : decode cX8_solo 31 = .ok (.goto 5, 3) := by decide +kernel
theorem dX8_solo_34 : decode cX8_solo 34 = .ok (.bipush (-2), 2) := by decide +kernel
theorem dX8_solo_36 : decode cX8_solo 36 = .ok (.ireturn, 1) := by decide +kernel
set_option maxRecDepth 20000 in
theorem ggX8_silentWithout_X8_noSinger : GoodIn wsX8_silentWithout wsX8_noSinger := goodIn_r _ [5, 6, 7, 8, 4, 9, 10, 11, 12, 13, 75, 76, 77, 78, 79, 80, 81, 82, 83, 84, 85, 86, 87, 88, 89, 90, 91, 92, 93, 94] (by decide +kernel) (by decide +kernel)
set_option maxRecDepth 20000 in
theorem gX8_silentWithout_X8_noSinger : GoodIn wsX8_silentWithout (wsV RX8 116 RX8 yX8_noSinger wsX8_noSinger) := goodIn_app (goodIn_of _ (by decide +kernel)) ggX8_silentWithout_X8_noSinger
set_option maxRecDepth 20000 in
theorem ggX8_silentWithout_X8_liveAll : GoodIn wsX8_silentWithout wsX8_liveAll := goodIn_r _ [17, 6, 7, 8, 4, 9, 10, 18, 19, 20, 21, 22, 23, 24, 25, 26, 27, 28, 29, 30, 31, 32, 33, 34, 35, 36, 37, 38, 39, 40, 41, 42, 43, 44, 45, 46, 47, 48, 49, 50, 51, 11, 12, 13, 52, 53, 54, 55, 56, 57, 58, 59, 60, 61, 62, 63, 64, 65, 66, 75, 76, 77, 78, 79, 80, 81, 82, 83, 84, 85, 86, 87, 88, 89, 90, 91, 92, 93, 94] (by decide +kernel) (by decide +kernel)
set_option maxRecDepth 20000 in
theorem gX8_silentWithout_X8_liveAll : GoodIn wsX8_silentWithout (wsV RX8 185 RX8 yX8_liveAll wsX8_liveAll) := goodIn_app (goodIn_of _ (by decide +kernel)) ggX8_silentWithout_X8_liveAll
set_option maxRecDepth 20000 in
theorem ggX8_silentWithout_X8_beats : GoodIn wsX8_silentWithout wsX8_beats := goodIn_r _ [21, 10, 75, 76, 77, 78, 79, 80, 81, 82, 83, 84, 85, 86, 87, 88, 89, 90, 91, 92, 93, 94] (by decide +kernel) (by decide +kernel)
set_option maxRecDepth 20000 in
theorem gX8_silentWithout_X8_beats : GoodIn wsX8_silentWithout (wsV RX8 65 RX8 yX8_beats wsX8_beats) := goodIn_app (goodIn_of _ (by decide +kernel)) ggX8_silentWithout_X8_beats
set_option maxRecDepth 20000 in
theorem ggX8_silentWithout_X8_many : GoodIn wsX8_silentWithout wsX8_many := goodIn_r _ [70, 6, 7, 8, 4, 9, 10, 71, 72, 73, 74, 26, 75, 76, 77, 78, 79, 80, 81, 82, 83, 84, 85, 86, 87, 88, 89, 90, 91, 92, 93, 94] (by decide +kernel) (by decide +kernel)
set_option maxRecDepth 20000 in
theorem gX8_silentWithout_X8_many : GoodIn wsX8_silentWithout (wsV RX8 182 RX8 yX8_many wsX8_many) := goodIn_app (goodIn_of _ (by decide +kernel)) ggX8_silentWithout_X8_many
set_option maxRecDepth 20000 in
theorem ggX8_silentWithout_X8_doesAt : GoodIn wsX8_silentWithout wsX8_doesAt := goodIn_r _ [74, 26, 75, 76, 77, 78, 79, 80, 81, 82, 83, 84, 85, 86, 87, 88, 89, 90, 91, 92, 93, 94] (by decide +kernel) (by decide +kernel)
set_option maxRecDepth 20000 in
theorem gX8_silentWithout_X8_doesAt : GoodIn wsX8_silentWithout (wsV RX8 157 RX8 yX8_doesAt wsX8_doesAt) := goodIn_app (goodIn_of _ (by decide +kernel)) ggX8_silentWithout_X8_doesAt
set_option maxRecDepth 20000 in
theorem ggX8_silentWithout_X8_isRest : GoodIn wsX8_silentWithout wsX8_isRest := goodIn_r _ [55, 10, 75, 76, 77, 78, 79, 80, 81, 82, 83, 84, 85, 86, 87, 88, 89, 90, 91, 92, 93, 94] (by decide +kernel) (by decide +kernel)
set_option maxRecDepth 20000 in
theorem gX8_silentWithout_X8_isRest : GoodIn wsX8_silentWithout (wsV RX8 109 RX8 yX8_isRest wsX8_isRest) := goodIn_app (goodIn_of _ (by decide +kernel)) ggX8_silentWithout_X8_isRest
theorem dX8_silentWithout_0 : decode cX8_silentWithout 0 = .ok (.aload_n 0, 1) := by decide +kernel
theorem dX8_silentWithout_1 : decode cX8_silentWithout 1 = .ok (.iload_n 1, 1) := by decide +kernel
theorem dX8_silentWithout_2 : decode cX8_silentWithout 2 = .ok (.invokevirtual 116, 3) := by decide +kernel
theorem dX8_silentWithout_5 : decode cX8_silentWithout 5 = .ok (.ifCond .eq 5, 3) := by decide +kernel
theorem dX8_silentWithout_8 : decode cX8_silentWithout 8 = .ok (.iconst (-1), 1) := by decide +kernel
theorem dX8_silentWithout_9 : decode cX8_silentWithout 9 = .ok (.ireturn, 1) := by decide +kernel
theorem dX8_silentWithout_10 : decode cX8_silentWithout 10 = .ok (.aload_n 0, 1) := by decide +kernel
theorem dX8_silentWithout_11 : decode cX8_silentWithout 11 = .ok (.invokevirtual 185, 3) := by decide +kernel
theorem dX8_silentWithout_14 : decode cX8_silentWithout 14 = .ok (.iconst 0, 1) := by decide +kernel
theorem dX8_silentWithout_15 : decode cX8_silentWithout 15 = .ok (.istore_n 2, 1) := by decide +kernel
theorem dX8_silentWithout_16 : decode cX8_silentWithout 16 = .ok (.iconst 0, 1) := by decide +kernel
theorem dX8_silentWithout_17 : decode cX8_silentWithout 17 = .ok (.istore_n 3, 1) := by decide +kernel
theorem dX8_silentWithout_18 : decode cX8_silentWithout 18 = .ok (.iload_n 3, 1) := by decide +kernel
theorem dX8_silentWithout_19 : decode cX8_silentWithout 19 = .ok (.aload_n 0, 1) := by decide +kernel
theorem dX8_silentWithout_20 : decode cX8_silentWithout 20 = .ok (.invokevirtual 65, 3) := by decide +kernel
theorem dX8_silentWithout_23 : decode cX8_silentWithout 23 = .ok (.if_icmp .ge 53, 3) := by decide +kernel
theorem dX8_silentWithout_26 : decode cX8_silentWithout 26 = .ok (.aload_n 0, 1) := by decide +kernel
theorem dX8_silentWithout_27 : decode cX8_silentWithout 27 = .ok (.iload_n 3, 1) := by decide +kernel
theorem dX8_silentWithout_28 : decode cX8_silentWithout 28 = .ok (.iconst 0, 1) := by decide +kernel
theorem dX8_silentWithout_29 : decode cX8_silentWithout 29 = .ok (.invokevirtual 182, 3) := by decide +kernel
theorem dX8_silentWithout_32 : decode cX8_silentWithout 32 = .ok (.aload_n 0, 1) := by decide +kernel
theorem dX8_silentWithout_33 : decode cX8_silentWithout 33 = .ok (.iload_n 1, 1) := by decide +kernel
theorem dX8_silentWithout_34 : decode cX8_silentWithout 34 = .ok (.iload_n 3, 1) := by decide +kernel
theorem dX8_silentWithout_35 : decode cX8_silentWithout 35 = .ok (.invokevirtual 157, 3) := by decide +kernel
theorem dX8_silentWithout_38 : decode cX8_silentWithout 38 = .ok (.ifCond .ne 7, 3) := by decide +kernel
theorem dX8_silentWithout_41 : decode cX8_silentWithout 41 = .ok (.iconst 1, 1) := by decide +kernel
theorem dX8_silentWithout_42 : decode cX8_silentWithout 42 = .ok (.goto 4, 3) := by decide +kernel
theorem dX8_silentWithout_45 : decode cX8_silentWithout 45 = .ok (.iconst 0, 1) := by decide +kernel
theorem dX8_silentWithout_46 : decode cX8_silentWithout 46 = .ok (.isub, 1) := by decide +kernel
theorem dX8_silentWithout_47 : decode cX8_silentWithout 47 = .ok (.istore 4, 2) := by decide +kernel
theorem dX8_silentWithout_49 : decode cX8_silentWithout 49 = .ok (.iload_n 2, 1) := by decide +kernel
theorem dX8_silentWithout_50 : decode cX8_silentWithout 50 = .ok (.aload_n 0, 1) := by decide +kernel
theorem dX8_silentWithout_51 : decode cX8_silentWithout 51 = .ok (.iload_n 3, 1) := by decide +kernel
theorem dX8_silentWithout_52 : decode cX8_silentWithout 52 = .ok (.invokevirtual 109, 3) := by decide +kernel
theorem dX8_silentWithout_55 : decode cX8_silentWithout 55 = .ok (.ifCond .ne 12, 3) := by decide +kernel
theorem dX8_silentWithout_58 : decode cX8_silentWithout 58 = .ok (.iload 4, 2) := by decide +kernel
theorem dX8_silentWithout_60 : decode cX8_silentWithout 60 = .ok (.ifCond .ne 7, 3) := by decide +kernel
theorem dX8_silentWithout_63 : decode cX8_silentWithout 63 = .ok (.iconst 1, 1) := by decide +kernel
theorem dX8_silentWithout_64 : decode cX8_silentWithout 64 = .ok (.goto 4, 3) := by decide +kernel
theorem dX8_silentWithout_67 : decode cX8_silentWithout 67 = .ok (.iconst 0, 1) := by decide +kernel
theorem dX8_silentWithout_68 : decode cX8_silentWithout 68 = .ok (.iadd, 1) := by decide +kernel
theorem dX8_silentWithout_69 : decode cX8_silentWithout 69 = .ok (.istore_n 2, 1) := by decide +kernel
theorem dX8_silentWithout_70 : decode cX8_silentWithout 70 = .ok (.iinc 3 1, 3) := by decide +kernel
theorem dX8_silentWithout_73 : decode cX8_silentWithout 73 = .ok (.goto (-55), 3) := by decide +kernel
theorem dX8_silentWithout_76 : decode cX8_silentWithout 76 = .ok (.iload_n 2, 1) := by decide +kernel
theorem dX8_silentWithout_77 : decode cX8_silentWithout 77 = .ok (.ireturn, 1) := by decide +kernel
set_option maxRecDepth 20000 in
theorem ggX8_breathFor_X8_noSinger : GoodIn wsX8_breathFor wsX8_noSinger := goodIn_r _ [6, 7, 8, 9, 5, 10, 1, 11, 12, 13, 71, 72, 73, 74, 75, 76, 77, 78, 79, 80, 81, 82, 83, 84, 85, 86, 87, 88, 89, 90] (by decide +kernel) (by decide +kernel)
set_option maxRecDepth 20000 in
theorem gX8_breathFor_X8_noSinger : GoodIn wsX8_breathFor (wsV RX8 116 RX8 yX8_noSinger wsX8_noSinger) := goodIn_app (goodIn_of _ (by decide +kernel)) ggX8_breathFor_X8_noSinger
set_option maxRecDepth 20000 in
theorem ggX8_breathFor_X8_of : GoodIn wsX8_breathFor wsX8_of := goodIn_r _ [17, 1, 71, 72, 73, 74, 75, 76, 77, 78, 79, 80, 81, 82, 83, 84, 85, 86, 87, 88, 89, 90] (by decide +kernel) (by decide +kernel)
set_option maxRecDepth 20000 in
theorem gX8_breathFor_X8_of : GoodIn wsX8_breathFor (wsV RX8 112 RX8 yX8_of wsX8_of) := goodIn_app (goodIn_of _ (by decide +kernel)) ggX8_breathFor_X8_of
set_option maxRecDepth 20000 in
theorem ggX8_breathFor_X8_beats : GoodIn wsX8_breathFor wsX8_beats := goodIn_r _ [21, 1, 71, 72, 73, 74, 75, 76, 77, 78, 79, 80, 81, 82, 83, 84, 85, 86, 87, 88, 89, 90] (by decide +kernel) (by decide +kernel)
set_option maxRecDepth 20000 in
theorem gX8_breathFor_X8_beats : GoodIn wsX8_breathFor (wsV RX8 65 RX8 yX8_beats wsX8_beats) := goodIn_app (goodIn_of _ (by decide +kernel)) ggX8_breathFor_X8_beats
set_option maxRecDepth 20000 in
theorem ggX8_breathFor_X8_live : GoodIn wsX8_breathFor wsX8_live := goodIn_r _ [25, 26, 27, 28, 29, 30, 5, 31, 14, 15, 16, 17, 1, 32, 33, 34, 35, 36, 37, 38, 39, 40, 41, 42, 43, 44, 45, 46, 47, 11, 12, 13, 48, 49, 50, 51, 52, 53, 54, 55, 56, 57, 58, 59, 60, 61, 62, 71, 72, 73, 74, 75, 76, 77, 78, 79, 80, 81, 82, 83, 84, 85, 86, 87, 88, 89, 90] (by decide +kernel) (by decide +kernel)
set_option maxRecDepth 20000 in
theorem gX8_breathFor_X8_live : GoodIn wsX8_breathFor (wsV RX8 154 RX8 yX8_live wsX8_live) := goodIn_app (goodIn_of _ (by decide +kernel)) ggX8_breathFor_X8_live
set_option maxRecDepth 20000 in
theorem ggX8_breathFor_X8_beatsOf : GoodIn wsX8_breathFor wsX8_beatsOf := goodIn_r _ [66, 18, 19, 20, 5, 21, 1, 67, 68, 69, 70, 26, 71, 72, 73, 74, 75, 76, 77, 78, 79, 80, 81, 82, 83, 84, 85, 86, 87, 88, 89, 90] (by decide +kernel) (by decide +kernel)
set_option maxRecDepth 20000 in
theorem gX8_breathFor_X8_beatsOf : GoodIn wsX8_breathFor (wsV RX8 198 RX8 yX8_beatsOf wsX8_beatsOf) := goodIn_app (goodIn_of _ (by decide +kernel)) ggX8_breathFor_X8_beatsOf
theorem dX8_breathFor_0 : decode cX8_breathFor 0 = .ok (.aload_n 0, 1) := by decide +kernel
theorem dX8_breathFor_1 : decode cX8_breathFor 1 = .ok (.iload_n 1, 1) := by decide +kernel
theorem dX8_breathFor_2 : decode cX8_breathFor 2 = .ok (.invokevirtual 116, 3) := by decide +kernel
theorem dX8_breathFor_5 : decode cX8_breathFor 5 = .ok (.ifCond .eq 5, 3) := by decide +kernel
theorem dX8_breathFor_8 : decode cX8_breathFor 8 = .ok (.iconst (-1), 1) := by decide +kernel
theorem dX8_breathFor_9 : decode cX8_breathFor 9 = .ok (.ireturn, 1) := by decide +kernel
theorem dX8_breathFor_10 : decode cX8_breathFor 10 = .ok (.aload_n 0, 1) := by decide +kernel
theorem dX8_breathFor_11 : decode cX8_breathFor 11 = .ok (.iload_n 1, 1) := by decide +kernel
theorem dX8_breathFor_12 : decode cX8_breathFor 12 = .ok (.iconst 0, 1) := by decide +kernel
theorem dX8_breathFor_13 : decode cX8_breathFor 13 = .ok (.invokevirtual 112, 3) := by decide +kernel
theorem dX8_breathFor_16 : decode cX8_breathFor 16 = .ok (.istore_n 2, 1) := by decide +kernel
theorem dX8_breathFor_17 : decode cX8_breathFor 17 = .ok (.bipush (-5), 2) := by decide +kernel
theorem dX8_breathFor_19 : decode cX8_breathFor 19 = .ok (.istore_n 3, 1) := by decide +kernel
theorem dX8_breathFor_20 : decode cX8_breathFor 20 = .ok (.bipush 40, 2) := by decide +kernel
theorem dX8_breathFor_22 : decode cX8_breathFor 22 = .ok (.istore 4, 2) := by decide +kernel
theorem dX8_breathFor_24 : decode cX8_breathFor 24 = .ok (.iload 4, 2) := by decide +kernel
theorem dX8_breathFor_26 : decode cX8_breathFor 26 = .ok (.iconst 4, 1) := by decide +kernel
theorem dX8_breathFor_27 : decode cX8_breathFor 27 = .ok (.if_icmp .lt 64, 3) := by decide +kernel
theorem dX8_breathFor_30 : decode cX8_breathFor 30 = .ok (.aload_n 0, 1) := by decide +kernel
theorem dX8_breathFor_31 : decode cX8_breathFor 31 = .ok (.getfield 7, 3) := by decide +kernel
theorem dX8_breathFor_34 : decode cX8_breathFor 34 = .ok (.sipush 196, 3) := by decide +kernel
theorem dX8_breathFor_37 : decode cX8_breathFor 37 = .ok (.iconst 3, 1) := by decide +kernel
theorem dX8_breathFor_38 : decode cX8_breathFor 38 = .ok (.iload_n 1, 1) := by decide +kernel
theorem dX8_breathFor_39 : decode cX8_breathFor 39 = .ok (.imul, 1) := by decide +kernel
theorem dX8_breathFor_40 : decode cX8_breathFor 40 = .ok (.iadd, 1) := by decide +kernel
theorem dX8_breathFor_41 : decode cX8_breathFor 41 = .ok (.iload 4, 2) := by decide +kernel
theorem dX8_breathFor_43 : decode cX8_breathFor 43 = .ok (.iastore, 1) := by decide +kernel
theorem dX8_breathFor_44 : decode cX8_breathFor 44 = .ok (.iconst 0, 1) := by decide +kernel
theorem dX8_breathFor_45 : decode cX8_breathFor 45 = .ok (.istore 5, 2) := by decide +kernel
theorem dX8_breathFor_47 : decode cX8_breathFor 47 = .ok (.iload 5, 2) := by decide +kernel
theorem dX8_breathFor_49 : decode cX8_breathFor 49 = .ok (.aload_n 0, 1) := by decide +kernel
theorem dX8_breathFor_50 : decode cX8_breathFor 50 = .ok (.invokevirtual 65, 3) := by decide +kernel
theorem dX8_breathFor_53 : decode cX8_breathFor 53 = .ok (.if_icmp .ge 16, 3) := by decide +kernel
theorem dX8_breathFor_56 : decode cX8_breathFor 56 = .ok (.aload_n 0, 1) := by decide +kernel
theorem dX8_breathFor_57 : decode cX8_breathFor 57 = .ok (.iload_n 1, 1) := by decide +kernel
theorem dX8_breathFor_58 : decode cX8_breathFor 58 = .ok (.iload 5, 2) := by decide +kernel
theorem dX8_breathFor_60 : decode cX8_breathFor 60 = .ok (.invokevirtual 154, 3) := by decide +kernel
theorem dX8_breathFor_63 : decode cX8_breathFor 63 = .ok (.iinc 5 1, 3) := by decide +kernel
theorem dX8_breathFor_66 : decode cX8_breathFor 66 = .ok (.goto (-19), 3) := by decide +kernel
theorem dX8_breathFor_69 : decode cX8_breathFor 69 = .ok (.aload_n 0, 1) := by decide +kernel
theorem dX8_breathFor_70 : decode cX8_breathFor 70 = .ok (.iload_n 1, 1) := by decide +kernel
theorem dX8_breathFor_71 : decode cX8_breathFor 71 = .ok (.iconst 2, 1) := by decide +kernel
theorem dX8_breathFor_72 : decode cX8_breathFor 72 = .ok (.invokevirtual 198, 3) := by decide +kernel
theorem dX8_breathFor_75 : decode cX8_breathFor 75 = .ok (.ifCond .ne 8, 3) := by decide +kernel
theorem dX8_breathFor_78 : decode cX8_breathFor 78 = .ok (.iload 4, 2) := by decide +kernel
theorem dX8_breathFor_80 : decode cX8_breathFor 80 = .ok (.goto 4, 3) := by decide +kernel
theorem dX8_breathFor_83 : decode cX8_breathFor 83 = .ok (.iload_n 3, 1) := by decide +kernel
theorem dX8_breathFor_84 : decode cX8_breathFor 84 = .ok (.istore_n 3, 1) := by decide +kernel
theorem dX8_breathFor_85 : decode cX8_breathFor 85 = .ok (.iinc 4 (-1), 3) := by decide +kernel
theorem dX8_breathFor_88 : decode cX8_breathFor 88 = .ok (.goto (-64), 3) := by decide +kernel
theorem dX8_breathFor_91 : decode cX8_breathFor 91 = .ok (.aload_n 0, 1) := by decide +kernel
theorem dX8_breathFor_92 : decode cX8_breathFor 92 = .ok (.getfield 7, 3) := by decide +kernel
theorem dX8_breathFor_95 : decode cX8_breathFor 95 = .ok (.sipush 196, 3) := by decide +kernel
theorem dX8_breathFor_98 : decode cX8_breathFor 98 = .ok (.iconst 3, 1) := by decide +kernel
theorem dX8_breathFor_99 : decode cX8_breathFor 99 = .ok (.iload_n 1, 1) := by decide +kernel
theorem dX8_breathFor_100 : decode cX8_breathFor 100 = .ok (.imul, 1) := by decide +kernel
theorem dX8_breathFor_101 : decode cX8_breathFor 101 = .ok (.iadd, 1) := by decide +kernel
theorem dX8_breathFor_102 : decode cX8_breathFor 102 = .ok (.iload_n 2, 1) := by decide +kernel
theorem dX8_breathFor_103 : decode cX8_breathFor 103 = .ok (.iastore, 1) := by decide +kernel
theorem dX8_breathFor_104 : decode cX8_breathFor 104 = .ok (.iload_n 3, 1) := by decide +kernel
theorem dX8_breathFor_105 : decode cX8_breathFor 105 = .ok (.ireturn, 1) := by decide +kernel
set_option maxRecDepth 20000 in
theorem ggX8_count_X8_findFaults : GoodIn wsX8_count wsX8_findFaults := goodIn_r _ [9, 1, 10, 11, 12, 8, 13, 14, 15, 16, 17, 2, 18, 19, 20, 21, 22, 23, 24, 25, 26, 27, 28, 29, 30, 31, 32, 33, 34, 35, 36, 37, 38, 39, 40, 41, 42, 43, 44, 45, 46, 47, 48, 49, 50, 51, 52, 53, 54, 55, 56, 57, 58, 59, 60, 61, 62, 63, 64, 65, 66, 67, 68, 69, 70, 71, 72, 73, 74, 75, 76, 77, 78, 79, 80, 81, 82, 83, 84, 85, 86, 87, 88, 89, 90, 91, 92, 109, 110, 111, 112, 113, 114, 115, 116, 117, 118, 119, 120, 121, 122, 123, 124, 125, 126, 127, 128] (by decide +kernel) (by decide +kernel)
set_option maxRecDepth 20000 in
theorem gX8_count_X8_findFaults : GoodIn wsX8_count (wsV RX8 195 RX8 yX8_findFaults wsX8_findFaults) := goodIn_app (goodIn_of _ (by decide +kernel)) ggX8_count_X8_findFaults
set_option maxRecDepth 20000 in
theorem ggX8_count_X8_beats : GoodIn wsX8_count wsX8_beats := goodIn_r _ [21, 2, 109, 110, 111, 112, 113, 114, 115, 116, 117, 118, 119, 120, 121, 122, 123, 124, 125, 126, 127, 128] (by decide +kernel) (by decide +kernel)
set_option maxRecDepth 20000 in
theorem gX8_count_X8_beats : GoodIn wsX8_count (wsV RX8 65 RX8 yX8_beats wsX8_beats) := goodIn_app (goodIn_of _ (by decide +kernel)) ggX8_count_X8_beats
set_option maxRecDepth 20000 in
theorem ggX8_count_X8_isRest : GoodIn wsX8_count wsX8_isRest := goodIn_r _ [58, 2, 109, 110, 111, 112, 113, 114, 115, 116, 117, 118, 119, 120, 121, 122, 123, 124, 125, 126, 127, 128] (by decide +kernel) (by decide +kernel)
set_option maxRecDepth 20000 in
theorem gX8_count_X8_isRest : GoodIn wsX8_count (wsV RX8 109 RX8 yX8_isRest wsX8_isRest) := goodIn_app (goodIn_of _ (by decide +kernel)) ggX8_count_X8_isRest
set_option maxRecDepth 20000 in
theorem ggX8_count_X8_firstOf : GoodIn wsX8_count wsX8_firstOf := goodIn_r _ [92, 2, 55, 56, 57, 8, 58, 109, 110, 111, 112, 113, 114, 115, 116, 117, 118, 119, 120, 121, 122, 123, 124, 125, 126, 127, 128] (by decide +kernel) (by decide +kernel)
set_option maxRecDepth 20000 in
theorem gX8_count_X8_firstOf : GoodIn wsX8_count (wsV RX8 179 RX8 yX8_firstOf wsX8_firstOf) := goodIn_app (goodIn_of _ (by decide +kernel)) ggX8_count_X8_firstOf
set_option maxRecDepth 20000 in
theorem ggX8_count_X8_singers : GoodIn wsX8_count wsX8_singers := goodIn_r _ [17, 2, 109, 110, 111, 112, 113, 114, 115, 116, 117, 118, 119, 120, 121, 122, 123, 124, 125, 126, 127, 128] (by decide +kernel) (by decide +kernel)
set_option maxRecDepth 20000 in
theorem gX8_count_X8_singers : GoodIn wsX8_count (wsV RX8 76 RX8 yX8_singers wsX8_singers) := goodIn_app (goodIn_of _ (by decide +kernel)) ggX8_count_X8_singers
set_option maxRecDepth 20000 in
theorem ggX8_count_X8_presentOnes : GoodIn wsX8_count wsX8_presentOnes := goodIn_r _ [96, 14, 15, 16, 8, 17, 2, 32, 33, 34, 35, 109, 110, 111, 112, 113, 114, 115, 116, 117, 118, 119, 120, 121, 122, 123, 124, 125, 126, 127, 128] (by decide +kernel) (by decide +kernel)
set_option maxRecDepth 20000 in
theorem gX8_count_X8_presentOnes : GoodIn wsX8_count (wsV RX8 119 RX8 yX8_presentOnes wsX8_presentOnes) := goodIn_app (goodIn_of _ (by decide +kernel)) ggX8_count_X8_presentOnes
set_option maxRecDepth 20000 in
theorem ggX8_count_X8_solos : GoodIn wsX8_count wsX8_solos := goodIn_r _ [47, 2, 109, 110, 111, 112, 113, 114, 115, 116, 117, 118, 119, 120, 121, 122, 123, 124, 125, 126, 127, 128] (by decide +kernel) (by decide +kernel)
set_option maxRecDepth 20000 in
theorem gX8_count_X8_solos : GoodIn wsX8_count (wsV RX8 122 RX8 yX8_solos wsX8_solos) := goodIn_app (goodIn_of _ (by decide +kernel)) ggX8_count_X8_solos
set_option maxRecDepth 20000 in
theorem ggX8_count_X8_allMarks : GoodIn wsX8_count wsX8_allMarks := goodIn_r _ [100, 14, 15, 16, 8, 17, 2, 101, 102, 103, 104, 18, 19, 20, 21, 59, 60, 61, 62, 109, 110, 111, 112, 113, 114, 115, 116, 117, 118, 119, 120, 121, 122, 123, 124, 125, 126, 127, 128] (by decide +kernel) (by decide +kernel)
set_option maxRecDepth 20000 in
theorem gX8_count_X8_allMarks : GoodIn wsX8_count (wsV RX8 173 RX8 yX8_allMarks wsX8_allMarks) := goodIn_app (goodIn_of _ (by decide +kernel)) ggX8_count_X8_allMarks
set_option maxRecDepth 20000 in
theorem ggX8_count_X8_faultsOf : GoodIn wsX8_count wsX8_faultsOf := goodIn_r _ [108, 1, 82, 109, 110, 111, 112, 113, 114, 115, 116, 117, 118, 119, 120, 121, 122, 123, 124, 125, 126, 127, 128] (by decide +kernel) (by decide +kernel)
set_option maxRecDepth 20000 in
theorem gX8_count_X8_faultsOf : GoodIn wsX8_count (wsV RX8 201 RX8 yX8_faultsOf wsX8_faultsOf) := goodIn_app (goodIn_of _ (by decide +kernel)) ggX8_count_X8_faultsOf
theorem dX8_count_0 : decode cX8_count 0 = .ok (.aload_n 0, 1) := by decide +kernel
theorem dX8_count_1 : decode cX8_count 1 = .ok (.invokevirtual 195, 3) := by decide +kernel
theorem dX8_count_4 : decode cX8_count 4 = .ok (.iconst 0, 1) := by decide +kernel
theorem dX8_count_5 : decode cX8_count 5 = .ok (.istore_n 2, 1) := by decide +kernel
theorem dX8_count_6 : decode cX8_count 6 = .ok (.iconst 0, 1) := by decide +kernel
theorem dX8_count_7 : decode cX8_count 7 = .ok (.istore_n 3, 1) := by decide +kernel
theorem dX8_count_8 : decode cX8_count 8 = .ok (.iconst 0, 1) := by decide +kernel
theorem dX8_count_9 : decode cX8_count 9 = .ok (.istore 4, 2) := by decide +kernel
theorem dX8_count_11 : decode cX8_count 11 = .ok (.iconst 0, 1) := by decide +kernel
theorem dX8_count_12 : decode cX8_count 12 = .ok (.istore 5, 2) := by decide +kernel
theorem dX8_count_14 : decode cX8_count 14 = .ok (.iload 5, 2) := by decide +kernel
theorem dX8_count_16 : decode cX8_count 16 = .ok (.aload_n 0, 1) := by decide +kernel
theorem dX8_count_17 : decode cX8_count 17 = .ok (.invokevirtual 65, 3) := by decide +kernel
theorem dX8_count_20 : decode cX8_count 20 = .ok (.if_icmp .ge 87, 3) := by decide +kernel
theorem dX8_count_23 : decode cX8_count 23 = .ok (.iload_n 2, 1) := by decide +kernel
theorem dX8_count_24 : decode cX8_count 24 = .ok (.aload_n 0, 1) := by decide +kernel
theorem dX8_count_25 : decode cX8_count 25 = .ok (.iload 5, 2) := by decide +kernel
theorem dX8_count_27 : decode cX8_count 27 = .ok (.invokevirtual 109, 3) := by decide +kernel
theorem dX8_count_30 : decode cX8_count 30 = .ok (.ifCond .eq 7, 3) := by decide +kernel
theorem dX8_count_33 : decode cX8_count 33 = .ok (.iconst 1, 1) := by decide +kernel
theorem dX8_count_34 : decode cX8_count 34 = .ok (.goto 4, 3) := by decide +kernel
theorem dX8_count_37 : decode cX8_count 37 = .ok (.iconst 0, 1) := by decide +kernel
theorem dX8_count_38 : decode cX8_count 38 = .ok (.iadd, 1) := by decide +kernel
theorem dX8_count_39 : decode cX8_count 39 = .ok (.istore_n 2, 1) := by decide +kernel
theorem dX8_count_40 : decode cX8_count 40 = .ok (.iload_n 3, 1) := by decide +kernel
theorem dX8_count_41 : decode cX8_count 41 = .ok (.aload_n 0, 1) := by decide +kernel
theorem dX8_count_42 : decode cX8_count 42 = .ok (.iload 5, 2) := by decide +kernel
theorem dX8_count_44 : decode cX8_count 44 = .ok (.invokevirtual 179, 3) := by decide +kernel
theorem dX8_count_47 : decode cX8_count 47 = .ok (.iload 5, 2) := by decide +kernel
theorem dX8_count_49 : decode cX8_count 49 = .ok (.if_icmp .ne 7, 3) := by decide +kernel
theorem dX8_count_52 : decode cX8_count 52 = .ok (.iconst 1, 1) := by decide +kernel
theorem dX8_count_53 : decode cX8_count 53 = .ok (.goto 4, 3) := by decide +kernel
theorem dX8_count_56 : decode cX8_count 56 = .ok (.iconst 0, 1) := by decide +kernel
theorem dX8_count_57 : decode cX8_count 57 = .ok (.iadd, 1) := by decide +kernel
theorem dX8_count_58 : decode cX8_count 58 = .ok (.istore_n 3, 1) := by decide +kernel
theorem dX8_count_59 : decode cX8_count 59 = .ok (.aload_n 0, 1) := by decide +kernel
theorem dX8_count_60 : decode cX8_count 60 = .ok (.iload 5, 2) := by decide +kernel
theorem dX8_count_62 : decode cX8_count 62 = .ok (.invokevirtual 109, 3) := by decide +kernel
theorem dX8_count_65 : decode cX8_count 65 = .ok (.ifCond .eq 7, 3) := by decide +kernel
theorem dX8_count_68 : decode cX8_count 68 = .ok (.iconst 0, 1) := by decide +kernel
theorem dX8_count_69 : decode cX8_count 69 = .ok (.goto 14, 3) := by decide +kernel
theorem dX8_count_72 : decode cX8_count 72 = .ok (.iload 5, 2) := by decide +kernel
theorem dX8_count_74 : decode cX8_count 74 = .ok (.aload_n 0, 1) := by decide +kernel
theorem dX8_count_75 : decode cX8_count 75 = .ok (.iload 5, 2) := by decide +kernel
theorem dX8_count_77 : decode cX8_count 77 = .ok (.invokevirtual 179, 3) := by decide +kernel
theorem dX8_count_80 : decode cX8_count 80 = .ok (.isub, 1) := by decide +kernel
theorem dX8_count_81 : decode cX8_count 81 = .ok (.iconst 1, 1) := by decide +kernel
theorem dX8_count_82 : decode cX8_count 82 = .ok (.iadd, 1) := by decide +kernel
theorem dX8_count_83 : decode cX8_count 83 = .ok (.istore 6, 2) := by decide +kernel
theorem dX8_count_85 : decode cX8_count 85 = .ok (.iload 6, 2) := by decide +kernel
theorem dX8_count_87 : decode cX8_count 87 = .ok (.iload 4, 2) := by decide +kernel
theorem dX8_count_89 : decode cX8_count 89 = .ok (.if_icmp .le 8, 3) := by decide +kernel
theorem dX8_count_92 : decode cX8_count 92 = .ok (.iload 6, 2) := by decide +kernel
theorem dX8_count_94 : decode cX8_count 94 = .ok (.goto 5, 3) := by decide +kernel
theorem dX8_count_97 : decode cX8_count 97 = .ok (.iload 4, 2) := by decide +kernel
theorem dX8_count_99 : decode cX8_count 99 = .ok (.istore 4, 2) := by decide +kernel
theorem dX8_count_101 : decode cX8_count 101 = .ok (.iinc 5 1, 3) := by decide +kernel
theorem dX8_count_104 : decode cX8_count 104 = .ok (.goto (-90), 3) := by decide +kernel
theorem dX8_count_107 : decode cX8_count 107 = .ok (.iload_n 1, 1) := by decide +kernel
theorem dX8_count_108 : decode cX8_count 108 = .ok (.tableswitch 143 0 15 #[80, 85, 87, 89, 94, 99, 104, 109, 114, 114, 114, 114, 123, 130, 133, 138], 80) := by decide +kernel
theorem dX8_count_188 : decode cX8_count 188 = .ok (.aload_n 0, 1) := by decide +kernel
theorem dX8_count_189 : decode cX8_count 189 = .ok (.invokevirtual 65, 3) := by decide +kernel
theorem dX8_count_192 : decode cX8_count 192 = .ok (.ireturn, 1) := by decide +kernel
theorem dX8_count_193 : decode cX8_count 193 = .ok (.iload_n 2, 1) := by decide +kernel
theorem dX8_count_194 : decode cX8_count 194 = .ok (.ireturn, 1) := by decide +kernel
theorem dX8_count_195 : decode cX8_count 195 = .ok (.iload_n 3, 1) := by decide +kernel
theorem dX8_count_196 : decode cX8_count 196 = .ok (.ireturn, 1) := by decide +kernel
theorem dX8_count_197 : decode cX8_count 197 = .ok (.aload_n 0, 1) := by decide +kernel
theorem dX8_count_198 : decode cX8_count 198 = .ok (.invokevirtual 76, 3) := by decide +kernel
theorem dX8_count_201 : decode cX8_count 201 = .ok (.ireturn, 1) := by decide +kernel
theorem dX8_count_202 : decode cX8_count 202 = .ok (.aload_n 0, 1) := by decide +kernel
theorem dX8_count_203 : decode cX8_count 203 = .ok (.invokevirtual 119, 3) := by decide +kernel
theorem dX8_count_206 : decode cX8_count 206 = .ok (.ireturn, 1) := by decide +kernel
theorem dX8_count_207 : decode cX8_count 207 = .ok (.aload_n 0, 1) := by decide +kernel
theorem dX8_count_208 : decode cX8_count 208 = .ok (.invokevirtual 122, 3) := by decide +kernel
theorem dX8_count_211 : decode cX8_count 211 = .ok (.ireturn, 1) := by decide +kernel
theorem dX8_count_212 : decode cX8_count 212 = .ok (.aload_n 0, 1) := by decide +kernel
theorem dX8_count_213 : decode cX8_count 213 = .ok (.invokevirtual 173, 3) := by decide +kernel
theorem dX8_count_216 : decode cX8_count 216 = .ok (.ireturn, 1) := by decide +kernel
theorem dX8_count_217 : decode cX8_count 217 = .ok (.aload_n 0, 1) := by decide +kernel
theorem dX8_count_218 : decode cX8_count 218 = .ok (.getfield 176, 3) := by decide +kernel
theorem dX8_count_221 : decode cX8_count 221 = .ok (.ireturn, 1) := by decide +kernel
theorem dX8_count_222 : decode cX8_count 222 = .ok (.aload_n 0, 1) := by decide +kernel
theorem dX8_count_223 : decode cX8_count 223 = .ok (.iload_n 1, 1) := by decide +kernel
theorem dX8_count_224 : decode cX8_count 224 = .ok (.bipush 8, 2) := by decide +kernel
theorem dX8_count_226 : decode cX8_count 226 = .ok (.isub, 1) := by decide +kernel
theorem dX8_count_227 : decode cX8_count 227 = .ok (.invokevirtual 201, 3) := by decide +kernel
theorem dX8_count_230 : decode cX8_count 230 = .ok (.ireturn, 1) := by decide +kernel
theorem dX8_count_231 : decode cX8_count 231 = .ok (.aload_n 0, 1) := by decide +kernel
theorem dX8_count_232 : decode cX8_count 232 = .ok (.getfield 7, 3) := by decide +kernel
theorem dX8_count_235 : decode cX8_count 235 = .ok (.iconst 3, 1) := by decide +kernel
theorem dX8_count_236 : decode cX8_count 236 = .ok (.iaload, 1) := by decide +kernel
theorem dX8_count_237 : decode cX8_count 237 = .ok (.ireturn, 1) := by decide +kernel
theorem dX8_count_238 : decode cX8_count 238 = .ok (.iload 4, 2) := by decide +kernel
theorem dX8_count_240 : decode cX8_count 240 = .ok (.ireturn, 1) := by decide +kernel
theorem dX8_count_241 : decode cX8_count 241 = .ok (.aload_n 0, 1) := by decide +kernel
theorem dX8_count_242 : decode cX8_count 242 = .ok (.getfield 57, 3) := by decide +kernel
theorem dX8_count_245 : decode cX8_count 245 = .ok (.ireturn, 1) := by decide +kernel
theorem dX8_count_246 : decode cX8_count 246 = .ok (.aload_n 0, 1) := by decide +kernel
theorem dX8_count_247 : decode cX8_count 247 = .ok (.getfield 79, 3) := by decide +kernel
theorem dX8_count_250 : decode cX8_count 250 = .ok (.ireturn, 1) := by decide +kernel
theorem dX8_count_251 : decode cX8_count 251 = .ok (.bipush (-2), 2) := by decide +kernel
theorem dX8_count_253 : decode cX8_count 253 = .ok (.ireturn, 1) := by decide +kernel
theorem dJ6_bitCount_0f7a4_0 : decode cJ6_bitCount_0f7a4 0 = .ok (.iload_n 0, 1) := by decide +kernel
theorem dJ6_bitCount_0f7a4_1 : decode cJ6_bitCount_0f7a4 1 = .ok (.iload_n 0, 1) := by decide +kernel
theorem dJ6_bitCount_0f7a4_2 : decode cJ6_bitCount_0f7a4 2 = .ok (.iconst 1, 1) := by decide +kernel
theorem dJ6_bitCount_0f7a4_3 : decode cJ6_bitCount_0f7a4 3 = .ok (.iushr, 1) := by decide +kernel
theorem dJ6_bitCount_0f7a4_4 : decode cJ6_bitCount_0f7a4 4 = .ok (.ldc_w 265, 3) := by decide +kernel
theorem dJ6_bitCount_0f7a4_7 : decode cJ6_bitCount_0f7a4 7 = .ok (.iand, 1) := by decide +kernel
theorem dJ6_bitCount_0f7a4_8 : decode cJ6_bitCount_0f7a4 8 = .ok (.isub, 1) := by decide +kernel
theorem dJ6_bitCount_0f7a4_9 : decode cJ6_bitCount_0f7a4 9 = .ok (.istore_n 0, 1) := by decide +kernel
theorem dJ6_bitCount_0f7a4_10 : decode cJ6_bitCount_0f7a4 10 = .ok (.iload_n 0, 1) := by decide +kernel
theorem dJ6_bitCount_0f7a4_11 : decode cJ6_bitCount_0f7a4 11 = .ok (.ldc_w 266, 3) := by decide +kernel
theorem dJ6_bitCount_0f7a4_14 : decode cJ6_bitCount_0f7a4 14 = .ok (.iand, 1) := by decide +kernel
theorem dJ6_bitCount_0f7a4_15 : decode cJ6_bitCount_0f7a4 15 = .ok (.iload_n 0, 1) := by decide +kernel
theorem dJ6_bitCount_0f7a4_16 : decode cJ6_bitCount_0f7a4 16 = .ok (.iconst 2, 1) := by decide +kernel
theorem dJ6_bitCount_0f7a4_17 : decode cJ6_bitCount_0f7a4 17 = .ok (.iushr, 1) := by decide +kernel
theorem dJ6_bitCount_0f7a4_18 : decode cJ6_bitCount_0f7a4 18 = .ok (.ldc_w 266, 3) := by decide +kernel
theorem dJ6_bitCount_0f7a4_21 : decode cJ6_bitCount_0f7a4 21 = .ok (.iand, 1) := by decide +kernel
theorem dJ6_bitCount_0f7a4_22 : decode cJ6_bitCount_0f7a4 22 = .ok (.iadd, 1) := by decide +kernel
theorem dJ6_bitCount_0f7a4_23 : decode cJ6_bitCount_0f7a4 23 = .ok (.istore_n 0, 1) := by decide +kernel
theorem dJ6_bitCount_0f7a4_24 : decode cJ6_bitCount_0f7a4 24 = .ok (.iload_n 0, 1) := by decide +kernel
theorem dJ6_bitCount_0f7a4_25 : decode cJ6_bitCount_0f7a4 25 = .ok (.iload_n 0, 1) := by decide +kernel
theorem dJ6_bitCount_0f7a4_26 : decode cJ6_bitCount_0f7a4 26 = .ok (.iconst 4, 1) := by decide +kernel
theorem dJ6_bitCount_0f7a4_27 : decode cJ6_bitCount_0f7a4 27 = .ok (.iushr, 1) := by decide +kernel
theorem dJ6_bitCount_0f7a4_28 : decode cJ6_bitCount_0f7a4 28 = .ok (.iadd, 1) := by decide +kernel
theorem dJ6_bitCount_0f7a4_29 : decode cJ6_bitCount_0f7a4 29 = .ok (.ldc_w 267, 3) := by decide +kernel
theorem dJ6_bitCount_0f7a4_32 : decode cJ6_bitCount_0f7a4 32 = .ok (.iand, 1) := by decide +kernel
theorem dJ6_bitCount_0f7a4_33 : decode cJ6_bitCount_0f7a4 33 = .ok (.istore_n 0, 1) := by decide +kernel
theorem dJ6_bitCount_0f7a4_34 : decode cJ6_bitCount_0f7a4 34 = .ok (.iload_n 0, 1) := by decide +kernel
theorem dJ6_bitCount_0f7a4_35 : decode cJ6_bitCount_0f7a4 35 = .ok (.iload_n 0, 1) := by decide +kernel
theorem dJ6_bitCount_0f7a4_36 : decode cJ6_bitCount_0f7a4 36 = .ok (.bipush 8, 2) := by decide +kernel
theorem dJ6_bitCount_0f7a4_38 : decode cJ6_bitCount_0f7a4 38 = .ok (.iushr, 1) := by decide +kernel
theorem dJ6_bitCount_0f7a4_39 : decode cJ6_bitCount_0f7a4 39 = .ok (.iadd, 1) := by decide +kernel
theorem dJ6_bitCount_0f7a4_40 : decode cJ6_bitCount_0f7a4 40 = .ok (.istore_n 0, 1) := by decide +kernel
theorem dJ6_bitCount_0f7a4_41 : decode cJ6_bitCount_0f7a4 41 = .ok (.iload_n 0, 1) := by decide +kernel
theorem dJ6_bitCount_0f7a4_42 : decode cJ6_bitCount_0f7a4 42 = .ok (.iload_n 0, 1) := by decide +kernel
theorem dJ6_bitCount_0f7a4_43 : decode cJ6_bitCount_0f7a4 43 = .ok (.bipush 16, 2) := by decide +kernel
theorem dJ6_bitCount_0f7a4_45 : decode cJ6_bitCount_0f7a4 45 = .ok (.iushr, 1) := by decide +kernel
theorem dJ6_bitCount_0f7a4_46 : decode cJ6_bitCount_0f7a4 46 = .ok (.iadd, 1) := by decide +kernel
theorem dJ6_bitCount_0f7a4_47 : decode cJ6_bitCount_0f7a4 47 = .ok (.istore_n 0, 1) := by decide +kernel
theorem dJ6_bitCount_0f7a4_48 : decode cJ6_bitCount_0f7a4 48 = .ok (.iload_n 0, 1) := by decide +kernel
theorem dJ6_bitCount_0f7a4_49 : decode cJ6_bitCount_0f7a4 49 = .ok (.bipush 63, 2) := by decide +kernel
theorem dJ6_bitCount_0f7a4_51 : decode cJ6_bitCount_0f7a4 51 = .ok (.iand, 1) := by decide +kernel
theorem dJ6_bitCount_0f7a4_52 : decode cJ6_bitCount_0f7a4 52 = .ok (.ireturn, 1) := by decide +kernel
theorem dJ9_max_7cf53_0 : decode cJ9_max_7cf53 0 = .ok (.iload_n 0, 1) := by decide +kernel
theorem dJ9_max_7cf53_1 : decode cJ9_max_7cf53 1 = .ok (.iload_n 1, 1) := by decide +kernel
theorem dJ9_max_7cf53_2 : decode cJ9_max_7cf53 2 = .ok (.if_icmp .lt 7, 3) := by decide +kernel
theorem dJ9_max_7cf53_5 : decode cJ9_max_7cf53 5 = .ok (.iload_n 0, 1) := by decide +kernel
theorem dJ9_max_7cf53_6 : decode cJ9_max_7cf53 6 = .ok (.goto 4, 3) := by decide +kernel
theorem dJ9_max_7cf53_9 : decode cJ9_max_7cf53 9 = .ok (.iload_n 1, 1) := by decide +kernel
theorem dJ9_max_7cf53_10 : decode cJ9_max_7cf53 10 = .ok (.ireturn, 1) := by decide +kernel
theorem dJ9_min_7cf53_0 : decode cJ9_min_7cf53 0 = .ok (.iload_n 0, 1) := by decide +kernel
theorem dJ9_min_7cf53_1 : decode cJ9_min_7cf53 1 = .ok (.iload_n 1, 1) := by decide +kernel
theorem dJ9_min_7cf53_2 : decode cJ9_min_7cf53 2 = .ok (.if_icmp .gt 7, 3) := by decide +kernel
theorem dJ9_min_7cf53_5 : decode cJ9_min_7cf53 5 = .ok (.iload_n 0, 1) := by decide +kernel
theorem dJ9_min_7cf53_6 : decode cJ9_min_7cf53 6 = .ok (.goto 4, 3) := by decide +kernel
theorem dJ9_min_7cf53_9 : decode cJ9_min_7cf53 9 = .ok (.iload_n 1, 1) := by decide +kernel
theorem dJ9_min_7cf53_10 : decode cJ9_min_7cf53 10 = .ok (.ireturn, 1) := by decide +kernel
