set_option maxRecDepth 20000 in
theorem ggL_errors_X7_count : GoodIn wsL_errors wsX7_count := goodIn_r _ [5, 6, 7, 8, 9, 10, 11, 12, 13, 14, 15, 16, 17, 18, 19, 20, 21, 22, 23, 24, 25, 26, 27, 28, 29, 30, 31, 32, 33, 34, 35, 36, 37, 38, 39, 40, 41, 42, 43, 44, 45, 46, 47, 48, 49, 50, 51, 52, 53, 54, 55, 56, 57, 58, 59, 60, 61, 62, 63, 64, 65, 66, 67, 68, 69, 70, 71, 72, 73, 74, 75, 76, 77, 78, 79, 80, 81, 82, 83, 84, 85, 86, 87, 88, 89, 90, 91, 92, 93, 94, 95, 96, 97, 98, 99, 100, 101, 102, 103, 104, 105, 106, 107, 4, 108, 109, 110, 111, 112, 113, 114, 115, 116, 117, 118, 119, 120, 121, 122, 123, 124, 125, 126, 127, 128, 129, 130, 131, 132, 133, 134, 135, 136, 137, 138, 139, 140, 141, 142, 143, 144, 145, 146, 147, 148, 149, 150, 151, 152, 153, 316, 317, 318, 319, 320, 321, 322, 323, 324, 325, 326, 327, 328, 329, 330, 331, 332, 333, 334, 335, 336, 337, 338, 339, 340, 341, 342, 343, 344, 345, 346, 347, 348, 349, 350, 351] (by decide +kernel) (by decide +kernel)
set_option maxRecDepth 20000 in
theorem gL_errors_X7_count : GoodIn wsL_errors (wsV RL 9 RX7 yX7_count wsX7_count) := goodIn_app (goodIn_of _ (by decide +kernel)) ggL_errors_X7_count
set_option maxRecDepth 20000 in
theorem ggL_errors_X7_setLoudness : GoodIn wsL_errors wsX7_setLoudness := goodIn_r _ [157, 6, 13, 158, 159, 160, 161, 20, 162, 22, 163, 164, 4, 165, 166, 167, 168, 169, 170, 171, 172, 173, 174, 175, 176, 177, 178, 179, 180, 181, 182, 183, 184, 185, 186, 31, 27, 97, 58, 187, 188, 102, 114, 115, 189, 190, 191, 192, 193, 194, 152, 88, 153, 195, 33, 196, 197, 198, 199, 200, 46, 113, 201, 202, 203, 204, 205, 29, 30, 32, 206, 121, 122, 123, 207, 24, 25, 26, 28, 316, 317, 318, 319, 320, 321, 322, 323, 324, 325, 326, 327, 328, 329, 330, 331, 332, 333, 334, 335, 336, 337, 344] (by decide +kernel) (by decide +kernel)
set_option maxRecDepth 20000 in
theorem gL_errors_X7_setLoudness : GoodIn wsL_errors (wsV RL 74 RX7 yX7_setLoudness wsX7_setLoudness) := goodIn_app (goodIn_of _ (by decide +kernel)) ggL_errors_X7_setLoudness
set_option maxRecDepth 20000 in
theorem ggL_errors_X7_setSort : GoodIn wsL_errors wsX7_setSort := goodIn_r _ [211, 6, 13, 212, 159, 160, 161, 20, 162, 22, 163, 164, 4, 165, 166, 167, 168, 169, 170, 171, 172, 173, 174, 175, 176, 177, 178, 179, 180, 181, 182, 183, 184, 185, 186, 31, 27, 97, 58, 187, 188, 102, 114, 115, 189, 190, 191, 192, 193, 194, 152, 88, 153, 195, 33, 196, 197, 198, 199, 200, 46, 113, 201, 202, 203, 204, 205, 29, 30, 32, 213, 206, 121, 122, 123, 316, 317, 318, 319, 320, 321, 322, 323, 324, 325, 326, 327, 328, 329, 330, 331, 332, 333, 334, 335, 336, 337, 344] (by decide +kernel) (by decide +kernel)
set_option maxRecDepth 20000 in
theorem gL_errors_X7_setSort : GoodIn wsL_errors (wsV RL 78 RX7 yX7_setSort wsX7_setSort) := goodIn_app (goodIn_of _ (by decide +kernel)) ggL_errors_X7_setSort
set_option maxRecDepth 20000 in
theorem ggL_errors_X7_addSinger : GoodIn wsL_errors wsX7_addSinger := goodIn_r _ [217, 6, 8, 13, 163, 164, 4, 165, 166, 167, 168, 169, 170, 171, 172, 173, 174, 20, 175, 176, 177, 178, 179, 180, 181, 182, 183, 184, 185, 186, 31, 27, 97, 58, 187, 188, 102, 114, 115, 189, 190, 191, 192, 193, 194, 152, 88, 153, 195, 33, 196, 197, 198, 199, 22, 200, 46, 113, 201, 202, 203, 204, 205, 29, 30, 32, 218, 219, 220, 221, 222, 121, 122, 123, 128, 129, 316, 317, 318, 319, 320, 321, 322, 323, 324, 325, 326, 327, 328, 329, 330, 331, 332, 333, 334, 335, 336, 337, 344] (by decide +kernel) (by decide +kernel)
set_option maxRecDepth 20000 in
theorem gL_errors_X7_addSinger : GoodIn wsL_errors (wsV RL 81 RX7 yX7_addSinger wsX7_addSinger) := goodIn_app (goodIn_of _ (by decide +kernel)) ggL_errors_X7_addSinger
set_option maxRecDepth 20000 in
theorem ggL_errors_X7_setPresent : GoodIn wsL_errors wsX7_setPresent := goodIn_r _ [226, 6, 13, 227, 228, 229, 230, 20, 231, 200, 232, 104, 105, 106, 46, 107, 4, 108, 166, 167, 168, 169, 170, 171, 172, 173, 174, 175, 176, 177, 178, 179, 180, 181, 182, 183, 184, 185, 186, 31, 27, 97, 58, 187, 188, 102, 114, 115, 189, 190, 191, 192, 193, 194, 152, 88, 153, 195, 33, 196, 197, 198, 199, 22, 113, 201, 202, 203, 204, 205, 29, 30, 32, 233, 128, 129, 42, 43, 44, 45, 47, 48, 49, 50, 51, 52, 53, 316, 317, 318, 319, 320, 321, 322, 323, 324, 325, 326, 327, 328, 329, 330, 331, 332, 333, 334, 335, 336, 337, 344] (by decide +kernel) (by decide +kernel)
set_option maxRecDepth 20000 in
theorem gL_errors_X7_setPresent : GoodIn wsL_errors (wsV RL 47 RX7 yX7_setPresent wsX7_setPresent) := goodIn_app (goodIn_of _ (by decide +kernel)) ggL_errors_X7_setPresent
set_option maxRecDepth 20000 in
theorem ggL_errors_X7_addSolo : GoodIn wsL_errors wsX7_addSolo := goodIn_r _ [237, 6, 9, 13, 228, 229, 230, 20, 231, 200, 159, 160, 161, 162, 22, 238, 239, 240, 241, 113, 114, 115, 28, 29, 30, 31, 32, 33, 166, 167, 168, 169, 170, 171, 172, 173, 174, 175, 176, 177, 178, 179, 180, 181, 182, 183, 184, 185, 186, 27, 97, 58, 187, 188, 102, 189, 190, 191, 192, 193, 194, 152, 88, 153, 195, 196, 197, 198, 199, 46, 201, 202, 203, 204, 205, 242, 243, 244, 245, 246, 247, 248, 249, 222, 121, 122, 123, 316, 317, 318, 319, 320, 321, 322, 323, 324, 325, 326, 327, 328, 329, 330, 331, 332, 333, 334, 335, 344, 336, 337] (by decide +kernel) (by decide +kernel)
set_option maxRecDepth 20000 in
theorem gL_errors_X7_addSolo : GoodIn wsL_errors (wsV RL 84 RX7 yX7_addSolo wsX7_addSolo) := goodIn_app (goodIn_of _ (by decide +kernel)) ggL_errors_X7_addSolo
set_option maxRecDepth 20000 in
theorem ggL_errors_X7_removeSolo : GoodIn wsL_errors wsX7_removeSolo := goodIn_r _ [253, 6, 13, 9, 254, 255, 256, 20, 257, 113, 166, 167, 168, 169, 170, 171, 172, 173, 174, 175, 176, 177, 178, 179, 180, 181, 182, 183, 184, 185, 186, 31, 27, 97, 58, 187, 188, 102, 114, 115, 189, 190, 191, 192, 193, 194, 152, 88, 153, 195, 33, 196, 197, 198, 199, 22, 200, 46, 201, 202, 203, 204, 205, 29, 30, 32, 258, 259, 260, 261, 246, 247, 248, 249, 28, 222, 121, 122, 123, 316, 317, 318, 319, 320, 321, 322, 323, 324, 325, 326, 327, 328, 329, 330, 331, 332, 333, 334, 335, 336, 337, 344] (by decide +kernel) (by decide +kernel)
set_option maxRecDepth 20000 in
theorem gL_errors_X7_removeSolo : GoodIn wsL_errors (wsV RL 87 RX7 yX7_removeSolo wsX7_removeSolo) := goodIn_app (goodIn_of _ (by decide +kernel)) ggL_errors_X7_removeSolo
set_option maxRecDepth 20000 in
theorem ggL_errors_X7_mark : GoodIn wsL_errors wsX7_mark := goodIn_r _ [265, 6, 13, 266, 228, 229, 230, 20, 231, 200, 159, 160, 161, 162, 22, 267, 117, 118, 119, 58, 28, 29, 30, 31, 32, 33, 107, 4, 108, 166, 167, 168, 169, 170, 171, 172, 173, 174, 175, 176, 177, 178, 179, 180, 181, 182, 183, 184, 185, 186, 27, 97, 187, 188, 102, 114, 115, 189, 190, 191, 192, 193, 194, 152, 88, 153, 195, 196, 197, 198, 199, 46, 113, 201, 202, 203, 204, 205, 213, 233, 128, 129, 206, 121, 122, 123, 268, 269, 270, 271, 116, 316, 317, 318, 319, 320, 321, 322, 323, 324, 325, 326, 327, 328, 329, 330, 331, 332, 333, 334, 335, 344, 336, 337] (by decide +kernel) (by decide +kernel)
set_option maxRecDepth 20000 in
theorem gL_errors_X7_mark : GoodIn wsL_errors (wsV RL 90 RX7 yX7_mark wsX7_mark) := goodIn_app (goodIn_of _ (by decide +kernel)) ggL_errors_X7_mark
set_option maxRecDepth 20000 in
theorem ggL_errors_X7_setReserve : GoodIn wsL_errors wsX7_setReserve := goodIn_r _ [275, 13, 6, 12, 163, 164, 4, 165, 166, 167, 168, 169, 170, 171, 172, 173, 174, 20, 175, 176, 177, 178, 179, 180, 181, 182, 183, 184, 185, 186, 31, 27, 97, 58, 187, 188, 102, 114, 115, 189, 190, 191, 192, 193, 194, 152, 88, 153, 195, 33, 196, 197, 198, 199, 22, 200, 46, 113, 201, 202, 203, 204, 205, 29, 30, 32, 316, 317, 318, 319, 320, 321, 322, 323, 324, 325, 326, 327, 328, 329, 330, 331, 332, 333, 334, 335, 336, 337, 344] (by decide +kernel) (by decide +kernel)
set_option maxRecDepth 20000 in
theorem gL_errors_X7_setReserve : GoodIn wsL_errors (wsV RL 94 RX7 yX7_setReserve wsX7_setReserve) := goodIn_app (goodIn_of _ (by decide +kernel)) ggL_errors_X7_setReserve
set_option maxRecDepth 20000 in
theorem ggL_errors_X7_does : GoodIn wsL_errors wsX7_does := goodIn_r _ [279, 6, 11, 280, 281, 228, 229, 230, 20, 231, 200, 159, 160, 161, 162, 22, 213, 29, 30, 31, 32, 33, 282, 77, 78, 79, 80, 81, 82, 83, 84, 85, 86, 87, 88, 89, 90, 91, 92, 93, 94, 95, 96, 97, 98, 99, 100, 101, 102, 23, 24, 25, 26, 27, 28, 103, 104, 105, 106, 46, 107, 4, 108, 109, 110, 111, 112, 113, 114, 115, 116, 117, 118, 119, 58, 120, 121, 122, 123, 316, 317, 318, 319, 320, 321, 322, 323, 324, 325, 326, 327, 328, 329, 330, 331, 332, 333, 334, 335, 348, 349, 350, 351, 344] (by decide +kernel) (by decide +kernel)
set_option maxRecDepth 20000 in
theorem gL_errors_X7_does : GoodIn wsL_errors (wsV RL 25 RX7 yX7_does wsX7_does) := goodIn_app (goodIn_of _ (by decide +kernel)) ggL_errors_X7_does
set_option maxRecDepth 20000 in
theorem ggL_errors_X7_left : GoodIn wsL_errors wsX7_left := goodIn_r _ [286, 6, 11, 280, 287, 228, 229, 230, 20, 231, 200, 159, 160, 161, 162, 22, 213, 29, 30, 31, 32, 33, 282, 77, 78, 79, 80, 81, 82, 83, 84, 85, 86, 87, 88, 89, 90, 91, 92, 93, 94, 95, 96, 97, 98, 99, 100, 101, 102, 23, 24, 25, 26, 27, 28, 103, 104, 105, 106, 46, 107, 4, 108, 109, 110, 111, 112, 113, 114, 115, 116, 117, 118, 119, 58, 120, 121, 122, 123, 316, 317, 318, 319, 320, 321, 322, 323, 324, 325, 326, 327, 328, 329, 330, 331, 332, 333, 334, 335, 348, 349, 350, 351, 344] (by decide +kernel) (by decide +kernel)
set_option maxRecDepth 20000 in
theorem gL_errors_X7_left : GoodIn wsL_errors (wsV RL 28 RX7 yX7_left wsX7_left) := goodIn_app (goodIn_of _ (by decide +kernel)) ggL_errors_X7_left
set_option maxRecDepth 20000 in
theorem ggL_errors_X7_silentWithout : GoodIn wsL_errors wsX7_silentWithout := goodIn_r _ [291, 6, 10, 11, 228, 229, 230, 20, 231, 200, 59, 60, 61, 62, 63, 64, 65, 66, 67, 68, 69, 70, 71, 72, 73, 31, 74, 33, 75, 29, 30, 32, 76, 77, 78, 79, 80, 81, 82, 83, 84, 85, 86, 87, 88, 89, 90, 91, 92, 93, 94, 95, 96, 97, 98, 99, 100, 101, 102, 23, 24, 25, 26, 27, 28, 103, 104, 105, 106, 46, 107, 4, 108, 109, 110, 111, 112, 113, 114, 115, 116, 117, 118, 119, 58, 120, 121, 122, 123, 124, 125, 126, 127, 128, 129, 130, 292, 293, 294, 295, 139, 316, 317, 318, 319, 320, 321, 322, 323, 324, 325, 326, 327, 328, 329, 330, 331, 332, 333, 334, 335, 345, 346, 347, 348, 349, 350, 351, 344] (by decide +kernel) (by decide +kernel)
set_option maxRecDepth 20000 in
theorem gL_errors_X7_silentWithout : GoodIn wsL_errors (wsV RL 44 RX7 yX7_silentWithout wsX7_silentWithout) := goodIn_app (goodIn_of _ (by decide +kernel)) ggL_errors_X7_silentWithout
set_option maxRecDepth 20000 in
theorem ggL_errors_X7_breathFor : GoodIn wsL_errors wsX7_breathFor := goodIn_r _ [299, 6, 11, 228, 229, 230, 20, 231, 200, 282, 77, 78, 79, 80, 81, 82, 83, 84, 85, 86, 87, 88, 89, 90, 91, 92, 29, 30, 31, 32, 33, 93, 94, 95, 96, 97, 98, 99, 100, 101, 102, 23, 24, 25, 26, 27, 28, 103, 104, 105, 106, 46, 107, 4, 108, 109, 110, 111, 112, 113, 114, 115, 116, 117, 118, 119, 58, 120, 121, 122, 123, 300, 301, 302, 303, 316, 317, 318, 319, 320, 321, 322, 323, 324, 325, 326, 327, 328, 329, 330, 331, 332, 333, 334, 335, 348, 349, 350, 351, 344] (by decide +kernel) (by decide +kernel)
set_option maxRecDepth 20000 in
theorem gL_errors_X7_breathFor : GoodIn wsL_errors (wsV RL 54 RX7 yX7_breathFor wsX7_breathFor) := goodIn_app (goodIn_of _ (by decide +kernel)) ggL_errors_X7_breathFor
set_option maxRecDepth 20000 in
theorem ggL_errors_X7_keep : GoodIn wsL_errors wsX7_keep := goodIn_r _ [307, 308, 309, 174, 20, 6, 7, 310, 180, 181, 182, 183, 184, 185, 186, 31, 27, 97, 58, 187, 188, 102, 114, 115, 189, 190, 191, 192, 193, 194, 152, 88, 153, 195, 33, 311, 197, 198, 199, 22, 200, 46, 113, 201, 202, 203, 204, 205, 29, 30, 32, 316, 317, 318, 319, 320, 321, 322, 323, 324, 325, 326, 327, 328, 329, 330, 331, 332, 333, 334, 335, 344] (by decide +kernel) (by decide +kernel)
set_option maxRecDepth 20000 in
theorem gL_errors_X7_keep : GoodIn wsL_errors (wsV RL 97 RX7 yX7_keep wsX7_keep) := goodIn_app (goodIn_of _ (by decide +kernel)) ggL_errors_X7_keep
set_option maxRecDepth 20000 in
theorem ggL_errors_X7_restore : GoodIn wsL_errors wsX7_restore := goodIn_r _ [315, 308, 13, 6, 7, 166, 167, 168, 169, 170, 171, 172, 173, 174, 20, 175, 176, 177, 178, 179, 180, 181, 182, 183, 184, 185, 186, 31, 27, 97, 58, 187, 188, 102, 114, 115, 189, 190, 191, 192, 193, 194, 152, 88, 153, 195, 33, 196, 197, 198, 199, 22, 200, 46, 113, 201, 202, 203, 204, 205, 29, 30, 32, 311, 316, 317, 318, 319, 320, 321, 322, 323, 324, 325, 326, 327, 328, 329, 330, 331, 332, 333, 334, 335, 336, 337, 344] (by decide +kernel) (by decide +kernel)
set_option maxRecDepth 20000 in
theorem gL_errors_X7_restore : GoodIn wsL_errors (wsV RL 100 RX7 yX7_restore wsX7_restore) := goodIn_app (goodIn_of _ (by decide +kernel)) ggL_errors_X7_restore
theorem dL_errors_0 : decode cL_errors 0 = .ok (.aload_n 0, 1) := by decide +kernel
theorem dL_errors_1 : decode cL_errors 1 = .ok (.iconst 0, 1) := by decide +kernel
theorem dL_errors_2 : decode cL_errors 2 = .ok (.invokevirtual 9, 3) := by decide +kernel
theorem dL_errors_5 : decode cL_errors 5 = .ok (.istore_n 1, 1) := by decide +kernel
theorem dL_errors_6 : decode cL_errors 6 = .ok (.aload_n 0, 1) := by decide +kernel
theorem dL_errors_7 : decode cL_errors 7 = .ok (.iconst 3, 1) := by decide +kernel
theorem dL_errors_8 : decode cL_errors 8 = .ok (.invokevirtual 9, 3) := by decide +kernel
theorem dL_errors_11 : decode cL_errors 11 = .ok (.istore_n 2, 1) := by decide +kernel
theorem dL_errors_12 : decode cL_errors 12 = .ok (.aload_n 0, 1) := by decide +kernel
theorem dL_errors_13 : decode cL_errors 13 = .ok (.iload_n 1, 1) := by decide +kernel
theorem dL_errors_14 : decode cL_errors 14 = .ok (.iconst 0, 1) := by decide +kernel
theorem dL_errors_15 : decode cL_errors 15 = .ok (.iconst 1, 1) := by decide +kernel
theorem dL_errors_16 : decode cL_errors 16 = .ok (.invokevirtual 74, 3) := by decide +kernel
theorem dL_errors_19 : decode cL_errors 19 = .ok (.iconst (-1), 1) := by decide +kernel
theorem dL_errors_20 : decode cL_errors 20 = .ok (.if_icmp .ne 117, 3) := by decide +kernel
theorem dL_errors_23 : decode cL_errors 23 = .ok (.aload_n 0, 1) := by decide +kernel
theorem dL_errors_24 : decode cL_errors 24 = .ok (.iconst 0, 1) := by decide +kernel
theorem dL_errors_25 : decode cL_errors 25 = .ok (.iconst 0, 1) := by decide +kernel
theorem dL_errors_26 : decode cL_errors 26 = .ok (.bipush 6, 2) := by decide +kernel
theorem dL_errors_28 : decode cL_errors 28 = .ok (.invokevirtual 74, 3) := by decide +kernel
theorem dL_errors_31 : decode cL_errors 31 = .ok (.bipush (-2), 2) := by decide +kernel
theorem dL_errors_33 : decode cL_errors 33 = .ok (.if_icmp .ne 104, 3) := by decide +kernel
theorem dL_errors_36 : decode cL_errors 36 = .ok (.aload_n 0, 1) := by decide +kernel
theorem dL_errors_37 : decode cL_errors 37 = .ok (.iconst (-1), 1) := by decide +kernel
theorem dL_errors_38 : decode cL_errors 38 = .ok (.iconst 0, 1) := by decide +kernel
theorem dL_errors_39 : decode cL_errors 39 = .ok (.invokevirtual 78, 3) := by decide +kernel
theorem dL_errors_42 : decode cL_errors 42 = .ok (.iconst (-1), 1) := by decide +kernel
theorem dL_errors_43 : decode cL_errors 43 = .ok (.if_icmp .ne 94, 3) := by decide +kernel
theorem dL_errors_46 : decode cL_errors 46 = .ok (.aload_n 0, 1) := by decide +kernel
theorem dL_errors_47 : decode cL_errors 47 = .ok (.iconst 0, 1) := by decide +kernel
theorem dL_errors_48 : decode cL_errors 48 = .ok (.iconst 3, 1) := by decide +kernel
theorem dL_errors_49 : decode cL_errors 49 = .ok (.invokevirtual 78, 3) := by decide +kernel
theorem dL_errors_52 : decode cL_errors 52 = .ok (.bipush (-2), 2) := by decide +kernel
theorem dL_errors_54 : decode cL_errors 54 = .ok (.if_icmp .ne 83, 3) := by decide +kernel
theorem dL_errors_57 : decode cL_errors 57 = .ok (.aload_n 0, 1) := by decide +kernel
theorem dL_errors_58 : decode cL_errors 58 = .ok (.iconst 3, 1) := by decide +kernel
theorem dL_errors_59 : decode cL_errors 59 = .ok (.iconst 1, 1) := by decide +kernel
theorem dL_errors_60 : decode cL_errors 60 = .ok (.invokevirtual 81, 3) := by decide +kernel
theorem dL_errors_63 : decode cL_errors 63 = .ok (.bipush (-2), 2) := by decide +kernel
theorem dL_errors_65 : decode cL_errors 65 = .ok (.if_icmp .ne 72, 3) := by decide +kernel
theorem dL_errors_68 : decode cL_errors 68 = .ok (.aload_n 0, 1) := by decide +kernel
theorem dL_errors_69 : decode cL_errors 69 = .ok (.bipush 41, 2) := by decide +kernel
theorem dL_errors_71 : decode cL_errors 71 = .ok (.iconst 1, 1) := by decide +kernel
theorem dL_errors_72 : decode cL_errors 72 = .ok (.invokevirtual 81, 3) := by decide +kernel
theorem dL_errors_75 : decode cL_errors 75 = .ok (.bipush (-2), 2) := by decide +kernel
theorem dL_errors_77 : decode cL_errors 77 = .ok (.if_icmp .ne 60, 3) := by decide +kernel
theorem dL_errors_80 : decode cL_errors 80 = .ok (.aload_n 0, 1) := by decide +kernel
theorem dL_errors_81 : decode cL_errors 81 = .ok (.iconst 4, 1) := by decide +kernel
theorem dL_errors_82 : decode cL_errors 82 = .ok (.bipush 11, 2) := by decide +kernel
theorem dL_errors_84 : decode cL_errors 84 = .ok (.invokevirtual 81, 3) := by decide +kernel
theorem dL_errors_87 : decode cL_errors 87 = .ok (.bipush (-2), 2) := by decide +kernel
theorem dL_errors_89 : decode cL_errors 89 = .ok (.if_icmp .ne 48, 3) := by decide +kernel
theorem dL_errors_92 : decode cL_errors 92 = .ok (.aload_n 0, 1) := by decide +kernel
theorem dL_errors_93 : decode cL_errors 93 = .ok (.iload_n 2, 1) := by decide +kernel
theorem dL_errors_94 : decode cL_errors 94 = .ok (.iconst 1, 1) := by decide +kernel
theorem dL_errors_95 : decode cL_errors 95 = .ok (.invokevirtual 47, 3) := by decide +kernel
theorem dL_errors_98 : decode cL_errors 98 = .ok (.iconst (-1), 1) := by decide +kernel
theorem dL_errors_99 : decode cL_errors 99 = .ok (.if_icmp .ne 38, 3) := by decide +kernel
theorem dL_errors_102 : decode cL_errors 102 = .ok (.aload_n 0, 1) := by decide +kernel
theorem dL_errors_103 : decode cL_errors 103 = .ok (.iload_n 2, 1) := by decide +kernel
theorem dL_errors_104 : decode cL_errors 104 = .ok (.iconst 0, 1) := by decide +kernel
theorem dL_errors_105 : decode cL_errors 105 = .ok (.iconst 0, 1) := by decide +kernel
theorem dL_errors_106 : decode cL_errors 106 = .ok (.invokevirtual 84, 3) := by decide +kernel
theorem dL_errors_109 : decode cL_errors 109 = .ok (.iconst (-1), 1) := by decide +kernel
theorem dL_errors_110 : decode cL_errors 110 = .ok (.if_icmp .ne 27, 3) := by decide +kernel
theorem dL_errors_113 : decode cL_errors 113 = .ok (.aload_n 0, 1) := by decide +kernel
theorem dL_errors_114 : decode cL_errors 114 = .ok (.iconst 0, 1) := by decide +kernel
theorem dL_errors_115 : decode cL_errors 115 = .ok (.iload_n 1, 1) := by decide +kernel
theorem dL_errors_116 : decode cL_errors 116 = .ok (.iload_n 1, 1) := by decide +kernel
theorem dL_errors_117 : decode cL_errors 117 = .ok (.invokevirtual 84, 3) := by decide +kernel
theorem dL_errors_120 : decode cL_errors 120 = .ok (.iconst (-1), 1) := by decide +kernel
theorem dL_errors_121 : decode cL_errors 121 = .ok (.if_icmp .ne 16, 3) := by decide +kernel
theorem dL_errors_124 : decode cL_errors 124 = .ok (.aload_n 0, 1) := by decide +kernel
theorem dL_errors_125 : decode cL_errors 125 = .ok (.iconst (-1), 1) := by decide +kernel
theorem dL_errors_126 : decode cL_errors 126 = .ok (.invokevirtual 87, 3) := by decide +kernel
theorem dL_errors_129 : decode cL_errors 129 = .ok (.iconst (-1), 1) := by decide +kernel
theorem dL_errors_130 : decode cL_errors 130 = .ok (.if_icmp .ne 7, 3) := by decide +kernel
theorem dL_errors_133 : decode cL_errors 133 = .ok (.iconst 1, 1) := by decide +kernel
theorem dL_errors_134 : decode cL_errors 134 = .ok (.goto 4, 3) := by decide +kernel
theorem dL_errors_137 : decode cL_errors 137 = .ok (.iconst 0, 1) := by decide +kernel
theorem dL_errors_138 : decode cL_errors 138 = .ok (.istore_n 3, 1) := by decide +kernel
theorem dL_errors_139 : decode cL_errors 139 = .ok (.iload_n 3, 1) := by decide +kernel
theorem dL_errors_140 : decode cL_errors 140 = .ok (.ifCond .eq 106, 3) := by decide +kernel
theorem dL_errors_143 : decode cL_errors 143 = .ok (.aload_n 0, 1) := by decide +kernel
theorem dL_errors_144 : decode cL_errors 144 = .ok (.iload_n 2, 1) := by decide +kernel
theorem dL_errors_145 : decode cL_errors 145 = .ok (.iconst 0, 1) := by decide +kernel
theorem dL_errors_146 : decode cL_errors 146 = .ok (.iconst 1, 1) := by decide +kernel
theorem dL_errors_147 : decode cL_errors 147 = .ok (.invokevirtual 90, 3) := by decide +kernel
theorem dL_errors_150 : decode cL_errors 150 = .ok (.iconst (-1), 1) := by decide +kernel
theorem dL_errors_151 : decode cL_errors 151 = .ok (.if_icmp .ne 95, 3) := by decide +kernel
theorem dL_errors_154 : decode cL_errors 154 = .ok (.aload_n 0, 1) := by decide +kernel
theorem dL_errors_155 : decode cL_errors 155 = .ok (.iconst 0, 1) := by decide +kernel
theorem dL_errors_156 : decode cL_errors 156 = .ok (.iload_n 1, 1) := by decide +kernel
theorem dL_errors_157 : decode cL_errors 157 = .ok (.iconst 1, 1) := by decide +kernel
theorem dL_errors_158 : decode cL_errors 158 = .ok (.invokevirtual 90, 3) := by decide +kernel
theorem dL_errors_161 : decode cL_errors 161 = .ok (.iconst (-1), 1) := by decide +kernel
theorem dL_errors_162 : decode cL_errors 162 = .ok (.if_icmp .ne 84, 3) := by decide +kernel
theorem dL_errors_165 : decode cL_errors 165 = .ok (.aload_n 0, 1) := by decide +kernel
theorem dL_errors_166 : decode cL_errors 166 = .ok (.iconst 0, 1) := by decide +kernel
theorem dL_errors_167 : decode cL_errors 167 = .ok (.invokevirtual 94, 3) := by decide +kernel
theorem dL_errors_170 : decode cL_errors 170 = .ok (.bipush (-2), 2) := by decide +kernel
theorem dL_errors_172 : decode cL_errors 172 = .ok (.if_icmp .ne 74, 3) := by decide +kernel
theorem dL_errors_175 : decode cL_errors 175 = .ok (.aload_n 0, 1) := by decide +kernel
theorem dL_errors_176 : decode cL_errors 176 = .ok (.bipush 9, 2) := by decide +kernel
theorem dL_errors_178 : decode cL_errors 178 = .ok (.invokevirtual 94, 3) := by decide +kernel
theorem dL_errors_181 : decode cL_errors 181 = .ok (.bipush (-2), 2) := by decide +kernel
theorem dL_errors_183 : decode cL_errors 183 = .ok (.if_icmp .ne 63, 3) := by decide +kernel
theorem dL_errors_186 : decode cL_errors 186 = .ok (.aload_n 0, 1) := by decide +kernel
theorem dL_errors_187 : decode cL_errors 187 = .ok (.iload_n 2, 1) := by decide +kernel
theorem dL_errors_188 : decode cL_errors 188 = .ok (.iconst 0, 1) := by decide +kernel
theorem dL_errors_189 : decode cL_errors 189 = .ok (.invokevirtual 25, 3) := by decide +kernel
theorem dL_errors_192 : decode cL_errors 192 = .ok (.iconst (-1), 1) := by decide +kernel
theorem dL_errors_193 : decode cL_errors 193 = .ok (.if_icmp .ne 53, 3) := by decide +kernel
theorem dL_errors_196 : decode cL_errors 196 = .ok (.aload_n 0, 1) := by decide +kernel
theorem dL_errors_197 : decode cL_errors 197 = .ok (.iconst 0, 1) := by decide +kernel
theorem dL_errors_198 : decode cL_errors 198 = .ok (.iload_n 1, 1) := by decide +kernel
theorem dL_errors_199 : decode cL_errors 199 = .ok (.invokevirtual 28, 3) := by decide +kernel
theorem dL_errors_202 : decode cL_errors 202 = .ok (.iconst (-1), 1) := by decide +kernel
theorem dL_errors_203 : decode cL_errors 203 = .ok (.if_icmp .ne 43, 3) := by decide +kernel
theorem dL_errors_206 : decode cL_errors 206 = .ok (.aload_n 0, 1) := by decide +kernel
theorem dL_errors_207 : decode cL_errors 207 = .ok (.iload_n 2, 1) := by decide +kernel
theorem dL_errors_208 : decode cL_errors 208 = .ok (.invokevirtual 44, 3) := by decide +kernel
theorem dL_errors_211 : decode cL_errors 211 = .ok (.iconst (-1), 1) := by decide +kernel
theorem dL_errors_212 : decode cL_errors 212 = .ok (.if_icmp .ne 34, 3) := by decide +kernel
theorem dL_errors_215 : decode cL_errors 215 = .ok (.aload_n 0, 1) := by decide +kernel
theorem dL_errors_216 : decode cL_errors 216 = .ok (.iconst (-1), 1) := by decide +kernel
theorem dL_errors_217 : decode cL_errors 217 = .ok (.invokevirtual 54, 3) := by decide +kernel
theorem dL_errors_220 : decode cL_errors 220 = .ok (.iconst (-1), 1) := by decide +kernel
theorem dL_errors_221 : decode cL_errors 221 = .ok (.if_icmp .ne 25, 3) := by decide +kernel
theorem dL_errors_224 : decode cL_errors 224 = .ok (.aload_n 0, 1) := by decide +kernel
theorem dL_errors_225 : decode cL_errors 225 = .ok (.iconst 2, 1) := by decide +kernel
theorem dL_errors_226 : decode cL_errors 226 = .ok (.invokevirtual 97, 3) := by decide +kernel
theorem dL_errors_229 : decode cL_errors 229 = .ok (.iconst (-1), 1) := by decide +kernel
theorem dL_errors_230 : decode cL_errors 230 = .ok (.if_icmp .ne 16, 3) := by decide +kernel
theorem dL_errors_233 : decode cL_errors 233 = .ok (.aload_n 0, 1) := by decide +kernel
theorem dL_errors_234 : decode cL_errors 234 = .ok (.iconst 2, 1) := by decide +kernel
theorem dL_errors_235 : decode cL_errors 235 = .ok (.invokevirtual 100, 3) := by decide +kernel
theorem dL_errors_238 : decode cL_errors 238 = .ok (.iconst (-1), 1) := by decide +kernel
theorem dL_errors_239 : decode cL_errors 239 = .ok (.if_icmp .ne 7, 3) := by decide +kernel
theorem dL_errors_242 : decode cL_errors 242 = .ok (.iconst 1, 1) := by decide +kernel
theorem dL_errors_243 : decode cL_errors 243 = .ok (.goto 4, 3) := by decide +kernel
theorem dL_errors_246 : decode cL_errors 246 = .ok (.iconst 0, 1) := by decide +kernel
theorem dL_errors_247 : decode cL_errors 247 = .ok (.ireturn, 1) := by decide +kernel
