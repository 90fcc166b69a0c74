theorem dL_cell_0 : decode cL_cell 0 = .ok (.iload_n 1, 1) := by decide +kernel
theorem dL_cell_1 : decode cL_cell 1 = .ok (.aload_n 0, 1) := by decide +kernel
theorem dL_cell_2 : decode cL_cell 2 = .ok (.arraylength, 1) := by decide +kernel
theorem dL_cell_3 : decode cL_cell 3 = .ok (.if_icmp .ge 9, 3) := by decide +kernel
theorem dL_cell_6 : decode cL_cell 6 = .ok (.aload_n 0, 1) := by decide +kernel
theorem dL_cell_7 : decode cL_cell 7 = .ok (.iload_n 1, 1) := by decide +kernel
theorem dL_cell_8 : decode cL_cell 8 = .ok (.iaload, 1) := by decide +kernel
theorem dL_cell_9 : decode cL_cell 9 = .ok (.goto 11, 3) := by decide +kernel
theorem dL_cell_12 : decode cL_cell 12 = .ok (.ldc 7, 2) := by decide +kernel
theorem dL_cell_14 : decode cL_cell 14 = .ok (.iload_n 1, 1) := by decide +kernel
theorem dL_cell_15 : decode cL_cell 15 = .ok (.imul, 1) := by decide +kernel
theorem dL_cell_16 : decode cL_cell 16 = .ok (.sipush 9109, 3) := by decide +kernel
theorem dL_cell_19 : decode cL_cell 19 = .ok (.iadd, 1) := by decide +kernel
theorem dL_cell_20 : decode cL_cell 20 = .ok (.ireturn, 1) := by decide +kernel
theorem dL_low_0 : decode cL_low 0 = .ok (.iload_n 0, 1) := by decide +kernel
theorem dL_low_1 : decode cL_low 1 = .ok (.ldc 8, 2) := by decide +kernel
theorem dL_low_3 : decode cL_low 3 = .ok (.iand, 1) := by decide +kernel
theorem dL_low_4 : decode cL_low 4 = .ok (.iload_n 1, 1) := by decide +kernel
theorem dL_low_5 : decode cL_low 5 = .ok (.irem, 1) := by decide +kernel
theorem dL_low_6 : decode cL_low 6 = .ok (.ireturn, 1) := by decide +kernel
set_option maxRecDepth 20000 in
theorem ggL_told_X7_fault : GoodIn wsL_told wsX7_fault := goodIn_r _ [5, 6, 7, 8, 9, 10, 4, 11, 12, 13, 14, 15, 16, 17, 18, 19, 20, 21, 22, 23, 24, 25, 26, 27, 28, 29, 30, 31, 32, 33, 34, 35, 36, 37, 38, 39, 40, 41, 42, 43, 44, 45, 46, 47, 48, 49, 50, 51, 52, 53, 54, 55, 56, 57, 58, 59, 60, 61, 62, 63, 64, 65, 66, 67, 68, 69, 70, 71, 72, 73, 74, 75, 76, 77, 78, 79, 80, 81, 82, 83, 84, 85, 86, 87, 88, 89, 90, 91, 92, 93, 94, 95, 96, 97, 98, 99, 100, 101, 102, 103, 104, 105, 106, 107, 108, 109, 110, 111, 112, 113, 114, 115, 116, 117, 118, 119, 120, 121, 122, 123, 124, 125, 126, 127, 128, 129, 130, 131, 132, 133, 134, 135, 136, 137, 138, 139, 140, 141, 142, 143, 144, 145, 146, 147, 148, 149, 150, 151, 152, 153, 154, 155, 156] (by decide +kernel) (by decide +kernel)
set_option maxRecDepth 20000 in
theorem gL_told_X7_fault : GoodIn wsL_told (wsV RL 31 RX7 yX7_fault wsX7_fault) := goodIn_app (goodIn_of _ (by decide +kernel)) ggL_told_X7_fault
theorem dL_told_0 : decode cL_told 0 = .ok (.aload_n 0, 1) := by decide +kernel
theorem dL_told_1 : decode cL_told 1 = .ok (.iload_n 1, 1) := by decide +kernel
theorem dL_told_2 : decode cL_told 2 = .ok (.iconst 0, 1) := by decide +kernel
theorem dL_told_3 : decode cL_told 3 = .ok (.invokevirtual 31, 3) := by decide +kernel
theorem dL_told_6 : decode cL_told 6 = .ok (.iload_n 2, 1) := by decide +kernel
theorem dL_told_7 : decode cL_told 7 = .ok (.if_icmp .ne 28, 3) := by decide +kernel
theorem dL_told_10 : decode cL_told 10 = .ok (.aload_n 0, 1) := by decide +kernel
theorem dL_told_11 : decode cL_told 11 = .ok (.iload_n 1, 1) := by decide +kernel
theorem dL_told_12 : decode cL_told 12 = .ok (.iconst 1, 1) := by decide +kernel
theorem dL_told_13 : decode cL_told 13 = .ok (.invokevirtual 31, 3) := by decide +kernel
theorem dL_told_16 : decode cL_told 16 = .ok (.iload_n 3, 1) := by decide +kernel
theorem dL_told_17 : decode cL_told 17 = .ok (.if_icmp .ne 18, 3) := by decide +kernel
theorem dL_told_20 : decode cL_told 20 = .ok (.aload_n 0, 1) := by decide +kernel
theorem dL_told_21 : decode cL_told 21 = .ok (.iload_n 1, 1) := by decide +kernel
theorem dL_told_22 : decode cL_told 22 = .ok (.iconst 2, 1) := by decide +kernel
theorem dL_told_23 : decode cL_told 23 = .ok (.invokevirtual 31, 3) := by decide +kernel
theorem dL_told_26 : decode cL_told 26 = .ok (.iload 4, 2) := by decide +kernel
theorem dL_told_28 : decode cL_told 28 = .ok (.if_icmp .ne 7, 3) := by decide +kernel
theorem dL_told_31 : decode cL_told 31 = .ok (.iconst 1, 1) := by decide +kernel
theorem dL_told_32 : decode cL_told 32 = .ok (.goto 4, 3) := by decide +kernel
theorem dL_told_35 : decode cL_told 35 = .ok (.iconst 0, 1) := by decide +kernel
theorem dL_told_36 : decode cL_told 36 = .ok (.ireturn, 1) := by decide +kernel
set_option maxRecDepth 20000 in
theorem ggL_digits_X7_type : GoodIn wsL_digits wsX7_type := goodIn_r _ [5, 6, 7, 8, 9, 10, 11, 12, 13, 14, 15, 16, 17, 18, 19, 20, 21, 22, 23, 24, 25, 26, 27, 28, 29, 30, 31, 32, 33, 34] (by decide +kernel) (by decide +kernel)
set_option maxRecDepth 20000 in
theorem gL_digits_X7_type : GoodIn wsL_digits (wsV RL 57 RX7 yX7_type wsX7_type) := goodIn_app (goodIn_of _ (by decide +kernel)) ggL_digits_X7_type
theorem dL_digits_0 : decode cL_digits 0 = .ok (.iconst 0, 1) := by decide +kernel
theorem dL_digits_1 : decode cL_digits 1 = .ok (.istore_n 2, 1) := by decide +kernel
theorem dL_digits_2 : decode cL_digits 2 = .ok (.iload_n 1, 1) := by decide +kernel
theorem dL_digits_3 : decode cL_digits 3 = .ok (.bipush 9, 2) := by decide +kernel
theorem dL_digits_5 : decode cL_digits 5 = .ok (.if_icmp .le 16, 3) := by decide +kernel
theorem dL_digits_8 : decode cL_digits 8 = .ok (.aload_n 0, 1) := by decide +kernel
theorem dL_digits_9 : decode cL_digits 9 = .ok (.bipush 48, 2) := by decide +kernel
theorem dL_digits_11 : decode cL_digits 11 = .ok (.iload_n 1, 1) := by decide +kernel
theorem dL_digits_12 : decode cL_digits 12 = .ok (.bipush 10, 2) := by decide +kernel
theorem dL_digits_14 : decode cL_digits 14 = .ok (.idiv, 1) := by decide +kernel
theorem dL_digits_15 : decode cL_digits 15 = .ok (.iadd, 1) := by decide +kernel
theorem dL_digits_16 : decode cL_digits 16 = .ok (.i2c, 1) := by decide +kernel
theorem dL_digits_17 : decode cL_digits 17 = .ok (.invokevirtual 57, 3) := by decide +kernel
theorem dL_digits_20 : decode cL_digits 20 = .ok (.istore_n 2, 1) := by decide +kernel
theorem dL_digits_21 : decode cL_digits 21 = .ok (.aload_n 0, 1) := by decide +kernel
theorem dL_digits_22 : decode cL_digits 22 = .ok (.bipush 48, 2) := by decide +kernel
theorem dL_digits_24 : decode cL_digits 24 = .ok (.iload_n 1, 1) := by decide +kernel
theorem dL_digits_25 : decode cL_digits 25 = .ok (.bipush 10, 2) := by decide +kernel
theorem dL_digits_27 : decode cL_digits 27 = .ok (.irem, 1) := by decide +kernel
theorem dL_digits_28 : decode cL_digits 28 = .ok (.iadd, 1) := by decide +kernel
theorem dL_digits_29 : decode cL_digits 29 = .ok (.i2c, 1) := by decide +kernel
theorem dL_digits_30 : decode cL_digits 30 = .ok (.invokevirtual 57, 3) := by decide +kernel
theorem dL_digits_33 : decode cL_digits 33 = .ok (.istore_n 2, 1) := by decide +kernel
theorem dL_digits_34 : decode cL_digits 34 = .ok (.iload_n 2, 1) := by decide +kernel
theorem dL_digits_35 : decode cL_digits 35 = .ok (.ireturn, 1) := by decide +kernel
set_option maxRecDepth 20000 in
theorem ggL_without_X7_silentWithout : GoodIn wsL_without wsX7_silentWithout := goodIn_r _ [5, 6, 7, 8, 9, 10, 11, 12, 13, 14, 15, 16, 17, 18, 19, 20, 21, 22, 23, 24, 25, 26, 27, 28, 29, 30, 31, 32, 33, 34, 35, 36, 37, 38, 39, 40, 41, 42, 43, 44, 45, 46, 47, 48, 49, 50, 51, 52, 53, 54, 55, 56, 57, 58, 59, 60, 61, 62, 63, 64, 65, 66, 67, 68, 69, 70, 71, 72, 73, 74, 75, 4, 76, 77, 78, 79, 80, 81, 82, 83, 84, 85, 86, 87, 88, 89, 90, 91, 92, 93, 94, 95, 96, 97, 98, 99, 100, 101, 102, 103, 104, 250, 251, 252, 253, 254, 255, 256, 257, 258, 259, 260, 261, 262, 263, 264, 265, 266, 267, 268, 269, 270, 271, 272, 273, 274, 275, 276, 277] (by decide +kernel) (by decide +kernel)
set_option maxRecDepth 20000 in
theorem gL_without_X7_silentWithout : GoodIn wsL_without (wsV RL 44 RX7 yX7_silentWithout wsX7_silentWithout) := goodIn_app (goodIn_of _ (by decide +kernel)) ggL_without_X7_silentWithout
set_option maxRecDepth 20000 in
theorem ggL_without_X7_singer : GoodIn wsL_without wsX7_singer := goodIn_r _ [108, 6, 109, 110, 8, 9, 10, 11, 12, 13, 14, 111, 34, 35, 30, 36, 32, 112, 71, 72, 73, 74, 75, 4, 76, 113, 114, 115, 116, 117, 84, 85, 86, 87, 88, 69, 118, 38, 39, 40, 41, 42, 43, 44, 45, 46, 47, 48, 49, 50, 51, 52, 53, 54, 55, 56, 57, 58, 59, 60, 61, 62, 63, 64, 65, 66, 67, 68, 70, 77, 78, 79, 80, 81, 82, 83, 89, 90, 91, 92, 119, 120, 121, 122, 123, 124, 125, 126, 127, 128, 129, 130, 131, 132, 133, 134, 135, 136, 137, 250, 251, 252, 253, 254, 255, 256, 257, 258, 259, 260, 261, 262, 263, 264, 265, 266, 267, 268, 269, 277, 273, 274, 275, 276] (by decide +kernel) (by decide +kernel)
set_option maxRecDepth 20000 in
theorem gL_without_X7_singer : GoodIn wsL_without (wsV RL 15 RX7 yX7_singer wsX7_singer) := goodIn_app (goodIn_of _ (by decide +kernel)) ggL_without_X7_singer
set_option maxRecDepth 20000 in
theorem ggL_without_X7_count : GoodIn wsL_without wsX7_count := goodIn_r _ [141, 6, 142, 143, 144, 7, 8, 145, 146, 147, 148, 149, 150, 151, 152, 12, 153, 117, 64, 65, 66, 67, 68, 69, 34, 35, 30, 36, 32, 154, 155, 156, 157, 158, 159, 160, 161, 162, 163, 164, 165, 74, 166, 167, 168, 169, 170, 171, 172, 173, 174, 175, 176, 88, 15, 16, 17, 18, 19, 20, 21, 22, 23, 24, 25, 26, 27, 28, 29, 31, 33, 37, 38, 39, 40, 41, 42, 43, 44, 45, 46, 47, 48, 49, 50, 51, 52, 53, 54, 55, 56, 57, 58, 59, 60, 61, 62, 63, 70, 71, 72, 73, 75, 4, 76, 77, 78, 79, 80, 81, 82, 83, 84, 85, 86, 87, 89, 90, 91, 92, 93, 94, 95, 96, 97, 98, 99, 177, 178, 179, 180, 181, 182, 183, 184, 104, 185, 186, 187, 188, 189, 190, 191, 192, 193, 194, 195, 196, 136, 137, 250, 251, 252, 253, 254, 255, 256, 257, 258, 259, 260, 261, 262, 263, 264, 265, 266, 267, 268, 269, 278, 279, 280, 281, 282, 283, 284, 285, 277, 270, 271, 272, 273, 274, 275, 276] (by decide +kernel) (by decide +kernel)
set_option maxRecDepth 20000 in
theorem gL_without_X7_count : GoodIn wsL_without (wsV RL 9 RX7 yX7_count wsX7_count) := goodIn_app (goodIn_of _ (by decide +kernel)) ggL_without_X7_count
set_option maxRecDepth 20000 in
theorem ggL_without_X7_setPresent : GoodIn wsL_without wsX7_setPresent := goodIn_r _ [200, 6, 146, 201, 9, 10, 11, 12, 13, 14, 112, 71, 72, 73, 74, 75, 4, 76, 202, 203, 204, 205, 206, 207, 208, 209, 210, 211, 212, 213, 214, 215, 216, 217, 218, 219, 220, 221, 222, 30, 68, 58, 88, 223, 224, 63, 82, 83, 225, 226, 227, 228, 229, 230, 136, 49, 137, 231, 32, 232, 233, 234, 235, 117, 81, 236, 237, 238, 239, 240, 34, 35, 36, 241, 97, 98, 162, 163, 164, 165, 166, 167, 168, 169, 170, 171, 172, 250, 251, 252, 253, 254, 255, 256, 257, 258, 259, 260, 261, 262, 263, 264, 265, 266, 267, 268, 269, 278, 279, 277] (by decide +kernel) (by decide +kernel)
set_option maxRecDepth 20000 in
theorem gL_without_X7_setPresent : GoodIn wsL_without (wsV RL 47 RX7 yX7_setPresent wsX7_setPresent) := goodIn_app (goodIn_of _ (by decide +kernel)) ggL_without_X7_setPresent
set_option maxRecDepth 20000 in
theorem ggL_without_X7_undo : GoodIn wsL_without wsX7_undo := goodIn_r _ [245, 146, 147, 6, 246, 247, 248, 205, 249, 207, 208, 232, 233, 234, 12, 235, 117, 14, 74, 81, 225, 68, 58, 88, 223, 224, 63, 82, 83, 236, 237, 238, 30, 239, 32, 240, 34, 35, 36, 250, 251, 252, 253, 254, 255, 256, 278, 279, 257, 258, 259, 260, 261, 262, 263, 264, 265, 266, 267, 268, 269, 277] (by decide +kernel) (by decide +kernel)
set_option maxRecDepth 20000 in
theorem gL_without_X7_undo : GoodIn wsL_without (wsV RL 51 RX7 yX7_undo wsX7_undo) := goodIn_app (goodIn_of _ (by decide +kernel)) ggL_without_X7_undo
theorem dL_without_0 : decode cL_without 0 = .ok (.aload_n 0, 1) := by decide +kernel
theorem dL_without_1 : decode cL_without 1 = .ok (.iload_n 1, 1) := by decide +kernel
theorem dL_without_2 : decode cL_without 2 = .ok (.invokevirtual 44, 3) := by decide +kernel
theorem dL_without_5 : decode cL_without 5 = .ok (.istore_n 2, 1) := by decide +kernel
theorem dL_without_6 : decode cL_without 6 = .ok (.aload_n 0, 1) := by decide +kernel
theorem dL_without_7 : decode cL_without 7 = .ok (.iload_n 1, 1) := by decide +kernel
theorem dL_without_8 : decode cL_without 8 = .ok (.iconst 2, 1) := by decide +kernel
theorem dL_without_9 : decode cL_without 9 = .ok (.invokevirtual 15, 3) := by decide +kernel
theorem dL_without_12 : decode cL_without 12 = .ok (.istore_n 3, 1) := by decide +kernel
theorem dL_without_13 : decode cL_without 13 = .ok (.iload_n 3, 1) := by decide +kernel
theorem dL_without_14 : decode cL_without 14 = .ok (.ifCond .ne 19, 3) := by decide +kernel
theorem dL_without_17 : decode cL_without 17 = .ok (.iload_n 2, 1) := by decide +kernel
theorem dL_without_18 : decode cL_without 18 = .ok (.aload_n 0, 1) := by decide +kernel
theorem dL_without_19 : decode cL_without 19 = .ok (.bipush 8, 2) := by decide +kernel
theorem dL_without_21 : decode cL_without 21 = .ok (.invokevirtual 9, 3) := by decide +kernel
theorem dL_without_24 : decode cL_without 24 = .ok (.if_icmp .ne 7, 3) := by decide +kernel
theorem dL_without_27 : decode cL_without 27 = .ok (.iconst 1, 1) := by decide +kernel
theorem dL_without_28 : decode cL_without 28 = .ok (.goto 4, 3) := by decide +kernel
theorem dL_without_31 : decode cL_without 31 = .ok (.iconst 0, 1) := by decide +kernel
theorem dL_without_32 : decode cL_without 32 = .ok (.ireturn, 1) := by decide +kernel
theorem dL_without_33 : decode cL_without 33 = .ok (.aload_n 0, 1) := by decide +kernel
theorem dL_without_34 : decode cL_without 34 = .ok (.iload_n 1, 1) := by decide +kernel
theorem dL_without_35 : decode cL_without 35 = .ok (.iconst 0, 1) := by decide +kernel
theorem dL_without_36 : decode cL_without 36 = .ok (.invokevirtual 47, 3) := by decide +kernel
theorem dL_without_39 : decode cL_without 39 = .ok (.aload_n 0, 1) := by decide +kernel
theorem dL_without_40 : decode cL_without 40 = .ok (.iconst 4, 1) := by decide +kernel
theorem dL_without_41 : decode cL_without 41 = .ok (.invokevirtual 9, 3) := by decide +kernel
theorem dL_without_44 : decode cL_without 44 = .ok (.if_icmp .ne 34, 3) := by decide +kernel
theorem dL_without_47 : decode cL_without 47 = .ok (.aload_n 0, 1) := by decide +kernel
theorem dL_without_48 : decode cL_without 48 = .ok (.bipush 8, 2) := by decide +kernel
theorem dL_without_50 : decode cL_without 50 = .ok (.invokevirtual 9, 3) := by decide +kernel
theorem dL_without_53 : decode cL_without 53 = .ok (.iload_n 2, 1) := by decide +kernel
theorem dL_without_54 : decode cL_without 54 = .ok (.if_icmp .ne 24, 3) := by decide +kernel
theorem dL_without_57 : decode cL_without 57 = .ok (.aload_n 0, 1) := by decide +kernel
theorem dL_without_58 : decode cL_without 58 = .ok (.invokevirtual 51, 3) := by decide +kernel
theorem dL_without_61 : decode cL_without 61 = .ok (.ifCond .lt 17, 3) := by decide +kernel
theorem dL_without_64 : decode cL_without 64 = .ok (.aload_n 0, 1) := by decide +kernel
theorem dL_without_65 : decode cL_without 65 = .ok (.iload_n 1, 1) := by decide +kernel
theorem dL_without_66 : decode cL_without 66 = .ok (.iconst 2, 1) := by decide +kernel
theorem dL_without_67 : decode cL_without 67 = .ok (.invokevirtual 15, 3) := by decide +kernel
theorem dL_without_70 : decode cL_without 70 = .ok (.iconst 1, 1) := by decide +kernel
theorem dL_without_71 : decode cL_without 71 = .ok (.if_icmp .ne 7, 3) := by decide +kernel
theorem dL_without_74 : decode cL_without 74 = .ok (.iconst 1, 1) := by decide +kernel
theorem dL_without_75 : decode cL_without 75 = .ok (.goto 4, 3) := by decide +kernel
theorem dL_without_78 : decode cL_without 78 = .ok (.iconst 0, 1) := by decide +kernel
theorem dL_without_79 : decode cL_without 79 = .ok (.ireturn, 1) := by decide +kernel
set_option maxRecDepth 20000 in
theorem ggL_breaths_X7_breathFor : GoodIn wsL_breaths wsX7_breathFor := goodIn_r _ [5, 6, 7, 8, 9, 10, 11, 12, 13, 14, 15, 16, 17, 18, 19, 20, 21, 22, 23, 24, 25, 26, 27, 28, 29, 30, 31, 32, 33, 34, 35, 36, 37, 38, 39, 40, 41, 42, 43, 44, 45, 46, 47, 48, 49, 50, 51, 52, 53, 54, 55, 56, 57, 4, 58, 59, 60, 61, 62, 63, 64, 65, 66, 67, 68, 69, 70, 71, 72, 73, 74, 75, 76, 77, 78, 107, 108, 109, 110, 111, 112, 113, 114, 115, 116, 117, 118, 119, 120, 121, 122, 123, 124, 125, 126, 127, 128, 129, 130, 131] (by decide +kernel) (by decide +kernel)
set_option maxRecDepth 20000 in
theorem gL_breaths_X7_breathFor : GoodIn wsL_breaths (wsV RL 54 RX7 yX7_breathFor wsX7_breathFor) := goodIn_app (goodIn_of _ (by decide +kernel)) ggL_breaths_X7_breathFor
set_option maxRecDepth 20000 in
theorem ggL_breaths_X7_singer : GoodIn wsL_breaths wsX7_singer := goodIn_r _ [82, 6, 83, 84, 7, 8, 9, 10, 11, 12, 13, 85, 31, 32, 33, 34, 35, 86, 53, 54, 55, 56, 57, 4, 58, 87, 88, 89, 90, 91, 66, 67, 68, 69, 70, 51, 14, 15, 16, 17, 18, 19, 20, 21, 22, 23, 24, 25, 26, 27, 28, 29, 30, 36, 37, 38, 39, 40, 41, 42, 43, 44, 45, 46, 47, 48, 49, 50, 52, 59, 60, 61, 62, 63, 64, 65, 71, 72, 73, 74, 92, 93, 94, 95, 75, 76, 77, 78, 96, 97, 98, 99, 100, 101, 102, 103, 104, 105, 106, 107, 108, 109, 110, 111, 112, 113, 114, 115, 116, 117, 118, 119, 120, 121, 122, 123, 124, 125, 126, 131, 127, 128, 129, 130] (by decide +kernel) (by decide +kernel)
set_option maxRecDepth 20000 in
theorem gL_breaths_X7_singer : GoodIn wsL_breaths (wsV RL 15 RX7 yX7_singer wsX7_singer) := goodIn_app (goodIn_of _ (by decide +kernel)) ggL_breaths_X7_singer
theorem dL_breaths_0 : decode cL_breaths 0 = .ok (.aload_n 0, 1) := by decide +kernel
theorem dL_breaths_1 : decode cL_breaths 1 = .ok (.iload_n 1, 1) := by decide +kernel
theorem dL_breaths_2 : decode cL_breaths 2 = .ok (.invokevirtual 54, 3) := by decide +kernel
theorem dL_breaths_5 : decode cL_breaths 5 = .ok (.istore_n 2, 1) := by decide +kernel
theorem dL_breaths_6 : decode cL_breaths 6 = .ok (.aload_n 0, 1) := by decide +kernel
theorem dL_breaths_7 : decode cL_breaths 7 = .ok (.iload_n 1, 1) := by decide +kernel
theorem dL_breaths_8 : decode cL_breaths 8 = .ok (.iconst 5, 1) := by decide +kernel
theorem dL_breaths_9 : decode cL_breaths 9 = .ok (.invokevirtual 15, 3) := by decide +kernel
theorem dL_breaths_12 : decode cL_breaths 12 = .ok (.istore_n 3, 1) := by decide +kernel
theorem dL_breaths_13 : decode cL_breaths 13 = .ok (.aload_n 0, 1) := by decide +kernel
theorem dL_breaths_14 : decode cL_breaths 14 = .ok (.iload_n 1, 1) := by decide +kernel
theorem dL_breaths_15 : decode cL_breaths 15 = .ok (.iconst 0, 1) := by decide +kernel
theorem dL_breaths_16 : decode cL_breaths 16 = .ok (.invokevirtual 15, 3) := by decide +kernel
theorem dL_breaths_19 : decode cL_breaths 19 = .ok (.istore 4, 2) := by decide +kernel
theorem dL_breaths_21 : decode cL_breaths 21 = .ok (.iload_n 2, 1) := by decide +kernel
theorem dL_breaths_22 : decode cL_breaths 22 = .ok (.bipush (-5), 2) := by decide +kernel
theorem dL_breaths_24 : decode cL_breaths 24 = .ok (.if_icmp .ne 15, 3) := by decide +kernel
theorem dL_breaths_27 : decode cL_breaths 27 = .ok (.iload_n 3, 1) := by decide +kernel
theorem dL_breaths_28 : decode cL_breaths 28 = .ok (.ifCond .le 7, 3) := by decide +kernel
theorem dL_breaths_31 : decode cL_breaths 31 = .ok (.iconst 1, 1) := by decide +kernel
theorem dL_breaths_32 : decode cL_breaths 32 = .ok (.goto 42, 3) := by decide +kernel
theorem dL_breaths_35 : decode cL_breaths 35 = .ok (.iconst 0, 1) := by decide +kernel
theorem dL_breaths_36 : decode cL_breaths 36 = .ok (.goto 38, 3) := by decide +kernel
theorem dL_breaths_39 : decode cL_breaths 39 = .ok (.iload_n 2, 1) := by decide +kernel
theorem dL_breaths_40 : decode cL_breaths 40 = .ok (.iconst 4, 1) := by decide +kernel
theorem dL_breaths_41 : decode cL_breaths 41 = .ok (.if_icmp .lt 32, 3) := by decide +kernel
theorem dL_breaths_44 : decode cL_breaths 44 = .ok (.iload_n 2, 1) := by decide +kernel
theorem dL_breaths_45 : decode cL_breaths 45 = .ok (.bipush 40, 2) := by decide +kernel
theorem dL_breaths_47 : decode cL_breaths 47 = .ok (.if_icmp .gt 26, 3) := by decide +kernel
theorem dL_breaths_50 : decode cL_breaths 50 = .ok (.iload_n 3, 1) := by decide +kernel
theorem dL_breaths_51 : decode cL_breaths 51 = .ok (.ifCond .le 12, 3) := by decide +kernel
theorem dL_breaths_54 : decode cL_breaths 54 = .ok (.iload_n 2, 1) := by decide +kernel
theorem dL_breaths_55 : decode cL_breaths 55 = .ok (.iload 4, 2) := by decide +kernel
theorem dL_breaths_57 : decode cL_breaths 57 = .ok (.if_icmp .eq 16, 3) := by decide +kernel
theorem dL_breaths_60 : decode cL_breaths 60 = .ok (.goto 9, 3) := by decide +kernel
theorem dL_breaths_63 : decode cL_breaths 63 = .ok (.iload_n 2, 1) := by decide +kernel
theorem dL_breaths_64 : decode cL_breaths 64 = .ok (.iload 4, 2) := by decide +kernel
theorem dL_breaths_66 : decode cL_breaths 66 = .ok (.if_icmp .gt 7, 3) := by decide +kernel
theorem dL_breaths_69 : decode cL_breaths 69 = .ok (.iconst 1, 1) := by decide +kernel
theorem dL_breaths_70 : decode cL_breaths 70 = .ok (.goto 4, 3) := by decide +kernel
theorem dL_breaths_73 : decode cL_breaths 73 = .ok (.iconst 0, 1) := by decide +kernel
theorem dL_breaths_74 : decode cL_breaths 74 = .ok (.ireturn, 1) := by decide +kernel
