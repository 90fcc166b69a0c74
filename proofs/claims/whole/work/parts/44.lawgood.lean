set_option maxRecDepth 20000 in
theorem ggL_law_X7_init : GoodIn wsL_law wsX7_init := goodIn_r _ [8, 9, 10, 11, 12, 13, 14, 15, 16, 17, 18, 19, 20, 21, 22, 23, 24, 25, 26, 27, 28, 29, 30, 31, 32, 33, 34, 35, 36, 37, 38, 39, 40, 41, 42, 43, 44, 45, 46, 47, 48, 49, 50, 51, 52, 53, 54, 55, 56, 57, 58, 59, 60, 61, 62, 63, 64, 65, 66, 67, 68, 69, 70, 71, 72, 73, 74, 75, 76, 77, 78, 79, 80, 81, 82, 83, 84, 85, 86, 87, 88, 89, 90, 91, 92, 93, 94, 834, 835, 836, 837, 838, 839, 840, 841, 842, 843, 844, 845, 846, 807, 808, 809, 810, 811, 812, 813, 847, 848, 849, 850, 851, 852, 853, 854, 855, 856, 857, 858, 859, 860, 861, 862, 863] (by decide +kernel) (by decide +kernel)
set_option maxRecDepth 20000 in
theorem gL_law_X7_init : GoodIn wsL_law (wsX7_init) := ggL_law_X7_init
set_option maxRecDepth 20000 in
theorem ggL_law_X8_init : GoodIn wsL_law wsX8_init := goodIn_r _ [97, 98, 10, 11, 61, 99, 100, 101, 102, 103, 104, 105, 106, 107, 108, 109, 110, 111, 112, 113, 114, 115, 814, 815, 816, 817, 818, 819, 820, 821, 822, 823, 824, 825, 826, 827, 828, 829, 830, 831, 832, 833] (by decide +kernel) (by decide +kernel)
set_option maxRecDepth 20000 in
theorem gL_law_X8_init : GoodIn wsL_law (wsX8_init) := ggL_law_X8_init
set_option maxRecDepth 20000 in
theorem ggL_law_X7_type : GoodIn wsL_law wsX7_type := goodIn_r _ [119, 19, 120, 121, 122, 123, 18, 124, 125, 67, 126, 127, 128, 43, 129, 62, 807, 808, 809, 810, 811, 812, 813, 847, 848, 849, 850, 851, 852, 863] (by decide +kernel) (by decide +kernel)
set_option maxRecDepth 20000 in
theorem gL_law_X7_type : GoodIn wsL_law (wsV RL 13 RX7 yX7_type wsX7_type) := goodIn_app (goodIn_of _ (by decide +kernel)) ggL_law_X7_type
set_option maxRecDepth 20000 in
theorem ggL_law_X8_type : GoodIn wsL_law wsX8_type := goodIn_r _ [133, 134, 106, 814, 815, 816, 817, 818, 819, 820, 821, 822, 823, 824, 825, 826, 827, 828, 829, 830, 831, 832, 833] (by decide +kernel) (by decide +kernel)
set_option maxRecDepth 20000 in
theorem gL_law_X8_type : GoodIn wsL_law (wsV RL 17 RX8 yX8_type wsX8_type) := goodIn_app (goodIn_of _ (by decide +kernel)) ggL_law_X8_type
set_option maxRecDepth 20000 in
theorem ggL_law_X7_clearText : GoodIn wsL_law wsX7_clearText := goodIn_r _ [138, 19, 120, 807, 808, 809, 810, 811, 812, 813, 847, 848, 849, 850, 851, 852] (by decide +kernel) (by decide +kernel)
set_option maxRecDepth 20000 in
theorem gL_law_X7_clearText : GoodIn wsL_law (wsV RL 18 RX7 yX7_clearText wsX7_clearText) := goodIn_app (goodIn_of _ (by decide +kernel)) ggL_law_X7_clearText
set_option maxRecDepth 20000 in
theorem ggL_law_X8_clearText : GoodIn wsL_law wsX8_clearText := goodIn_r _ [142, 134, 814, 815, 816, 817, 818, 819, 820, 821, 822, 823, 824, 825, 826, 827, 828, 829, 830, 831, 832, 833] (by decide +kernel) (by decide +kernel)
set_option maxRecDepth 20000 in
theorem gL_law_X8_clearText : GoodIn wsL_law (wsV RL 22 RX8 yX8_clearText wsX8_clearText) := goodIn_app (goodIn_of _ (by decide +kernel)) ggL_law_X8_clearText
set_option maxRecDepth 20000 in
theorem ggL_law_X7_read : GoodIn wsL_law wsX7_read := goodIn_r _ [146, 19, 23, 15, 147, 148, 149, 150, 18, 151, 125, 152, 153, 154, 155, 156, 157, 158, 159, 160, 161, 162, 163, 67, 164, 165, 166, 43, 167, 62, 168, 169, 170, 171, 172, 173, 174, 175, 2, 176, 177, 178, 179, 180, 181, 182, 183, 22, 184, 185, 73, 72, 13, 14, 186, 187, 188, 189, 190, 38, 39, 40, 10, 11, 41, 42, 44, 45, 46, 47, 48, 49, 50, 51, 52, 53, 54, 55, 56, 57, 58, 59, 60, 61, 191, 192, 193, 194, 195, 196, 197, 198, 199, 200, 201, 202, 203, 204, 205, 206, 207, 208, 209, 210, 211, 212, 213, 214, 215, 216, 217, 218, 219, 220, 127, 128, 129, 807, 808, 809, 810, 811, 812, 813, 834, 835, 836, 837, 838, 839, 840, 841, 842, 843, 844, 845, 846, 847, 848, 849, 850, 851, 852, 863, 853, 854] (by decide +kernel) (by decide +kernel)
set_option maxRecDepth 20000 in
theorem gL_law_X7_read : GoodIn wsL_law (wsV RL 23 RX7 yX7_read wsX7_read) := goodIn_app (goodIn_of _ (by decide +kernel)) ggL_law_X7_read
set_option maxRecDepth 20000 in
theorem ggL_law_X8_read : GoodIn wsL_law wsX8_read := goodIn_r _ [224, 225, 109, 99, 107, 108, 226, 227, 228, 5, 229, 230, 134, 106, 231, 232, 233, 234, 235, 236, 237, 238, 239, 240, 241, 242, 243, 244, 245, 100, 246, 247, 248, 249, 250, 251, 252, 253, 254, 101, 814, 815, 816, 817, 818, 819, 820, 821, 822, 823, 824, 825, 826, 827, 828, 829, 830, 831, 832, 833] (by decide +kernel) (by decide +kernel)
set_option maxRecDepth 20000 in
theorem gL_law_X8_read : GoodIn wsL_law (wsV RL 26 RX8 yX8_read wsX8_read) := goodIn_app (goodIn_of _ (by decide +kernel)) ggL_law_X8_read
set_option maxRecDepth 20000 in
theorem ggL_law_X7_setLoudness : GoodIn wsL_law wsX7_setLoudness := goodIn_r _ [258, 15, 23, 259, 260, 261, 262, 14, 263, 195, 264, 175, 2, 176, 181, 182, 183, 22, 184, 185, 73, 72, 13, 186, 187, 188, 189, 190, 38, 39, 40, 10, 11, 41, 42, 43, 44, 45, 46, 47, 48, 49, 50, 51, 52, 53, 54, 55, 56, 57, 58, 59, 60, 61, 62, 191, 192, 193, 194, 196, 197, 198, 199, 200, 201, 202, 203, 165, 166, 167, 265, 127, 128, 129, 266, 267, 268, 269, 270, 807, 808, 809, 810, 811, 812, 813, 834, 835, 836, 837, 838, 839, 840, 841, 842, 843, 844, 845, 846, 853, 854, 863] (by decide +kernel) (by decide +kernel)
set_option maxRecDepth 20000 in
theorem gL_law_X7_setLoudness : GoodIn wsL_law (wsV RL 27 RX7 yX7_setLoudness wsX7_setLoudness) := goodIn_app (goodIn_of _ (by decide +kernel)) ggL_law_X7_setLoudness
set_option maxRecDepth 20000 in
theorem ggL_law_X8_setLoudness : GoodIn wsL_law wsX8_setLoudness := goodIn_r _ [274, 99, 275, 276, 277, 5, 278, 279, 280, 281, 282, 283, 284, 285, 242, 243, 244, 245, 100, 286, 287, 288, 289, 250, 251, 252, 253, 254, 101, 814, 815, 816, 817, 818, 819, 820, 821, 822, 823, 824, 825, 826, 827, 828, 829, 830, 831, 832, 833] (by decide +kernel) (by decide +kernel)
set_option maxRecDepth 20000 in
theorem gL_law_X8_setLoudness : GoodIn wsL_law (wsV RL 31 RX8 yX8_setLoudness wsX8_setLoudness) := goodIn_app (goodIn_of _ (by decide +kernel)) ggL_law_X8_setLoudness
set_option maxRecDepth 20000 in
theorem ggL_law_X7_setSort : GoodIn wsL_law wsX7_setSort := goodIn_r _ [293, 15, 23, 294, 260, 261, 262, 14, 263, 195, 264, 175, 2, 176, 181, 182, 183, 22, 184, 185, 73, 72, 13, 186, 187, 188, 189, 190, 38, 39, 40, 10, 11, 41, 42, 43, 44, 45, 46, 47, 48, 49, 50, 51, 52, 53, 54, 55, 56, 57, 58, 59, 60, 61, 62, 191, 192, 193, 194, 196, 197, 198, 199, 200, 201, 202, 203, 165, 166, 167, 295, 265, 127, 128, 129, 807, 808, 809, 810, 811, 812, 813, 834, 835, 836, 837, 838, 839, 840, 841, 842, 843, 844, 845, 846, 853, 854, 863] (by decide +kernel) (by decide +kernel)
set_option maxRecDepth 20000 in
theorem gL_law_X7_setSort : GoodIn wsL_law (wsV RL 32 RX7 yX7_setSort wsX7_setSort) := goodIn_app (goodIn_of _ (by decide +kernel)) ggL_law_X7_setSort
set_option maxRecDepth 20000 in
theorem ggL_law_X8_setSort : GoodIn wsL_law wsX8_setSort := goodIn_r _ [299, 99, 275, 276, 277, 5, 278, 279, 280, 281, 282, 283, 284, 285, 242, 243, 244, 245, 100, 250, 251, 252, 253, 254, 101, 814, 815, 816, 817, 818, 819, 820, 821, 822, 823, 824, 825, 826, 827, 828, 829, 830, 831, 832, 833] (by decide +kernel) (by decide +kernel)
set_option maxRecDepth 20000 in
theorem gL_law_X8_setSort : GoodIn wsL_law (wsV RL 36 RX8 yX8_setSort wsX8_setSort) := goodIn_app (goodIn_of _ (by decide +kernel)) ggL_law_X8_setSort
set_option maxRecDepth 20000 in
theorem ggL_law_X7_addSinger : GoodIn wsL_law wsX7_addSinger := goodIn_r _ [303, 15, 304, 23, 264, 175, 2, 176, 181, 182, 183, 22, 184, 185, 73, 72, 13, 14, 186, 187, 188, 189, 190, 38, 39, 40, 10, 11, 41, 42, 43, 44, 45, 46, 47, 48, 49, 50, 51, 52, 53, 54, 55, 56, 57, 58, 59, 60, 61, 62, 191, 192, 193, 194, 195, 196, 197, 198, 199, 200, 201, 202, 203, 165, 166, 167, 305, 306, 307, 308, 220, 127, 128, 129, 309, 310, 807, 808, 809, 810, 811, 812, 813, 834, 835, 836, 837, 838, 839, 840, 841, 842, 843, 844, 845, 846, 853, 854, 863] (by decide +kernel) (by decide +kernel)
set_option maxRecDepth 20000 in
theorem gL_law_X7_addSinger : GoodIn wsL_law (wsV RL 37 RX7 yX7_addSinger wsX7_addSinger) := goodIn_app (goodIn_of _ (by decide +kernel)) ggL_law_X7_addSinger
set_option maxRecDepth 20000 in
theorem ggL_law_X8_addSinger : GoodIn wsL_law wsX8_addSinger := goodIn_r _ [314, 99, 283, 284, 5, 285, 315, 316, 317, 318, 242, 243, 244, 245, 100, 250, 251, 252, 253, 254, 101, 814, 815, 816, 817, 818, 819, 820, 821, 822, 823, 824, 825, 826, 827, 828, 829, 830, 831, 832, 833] (by decide +kernel) (by decide +kernel)
set_option maxRecDepth 20000 in
theorem gL_law_X8_addSinger : GoodIn wsL_law (wsV RL 40 RX8 yX8_addSinger wsX8_addSinger) := goodIn_app (goodIn_of _ (by decide +kernel)) ggL_law_X8_addSinger
set_option maxRecDepth 20000 in
theorem ggL_law_X7_setPresent : GoodIn wsL_law wsX7_setPresent := goodIn_r _ [322, 15, 23, 323, 324, 325, 326, 14, 327, 196, 328, 329, 330, 331, 197, 332, 2, 333, 181, 182, 183, 22, 184, 185, 73, 72, 13, 186, 187, 188, 189, 190, 38, 39, 40, 10, 11, 41, 42, 43, 44, 45, 46, 47, 48, 49, 50, 51, 52, 53, 54, 55, 56, 57, 58, 59, 60, 61, 62, 191, 192, 193, 194, 195, 198, 199, 200, 201, 202, 203, 165, 166, 167, 334, 309, 310, 335, 336, 337, 338, 339, 340, 341, 342, 343, 344, 345, 807, 808, 809, 810, 811, 812, 813, 834, 835, 836, 837, 838, 839, 840, 841, 842, 843, 844, 845, 846, 853, 854, 863] (by decide +kernel) (by decide +kernel)
set_option maxRecDepth 20000 in
theorem gL_law_X7_setPresent : GoodIn wsL_law (wsV RL 41 RX7 yX7_setPresent wsX7_setPresent) := goodIn_app (goodIn_of _ (by decide +kernel)) ggL_law_X7_setPresent
set_option maxRecDepth 20000 in
theorem ggL_law_X8_setPresent : GoodIn wsL_law wsX8_setPresent := goodIn_r _ [349, 99, 350, 351, 352, 5, 353, 315, 316, 317, 318, 283, 284, 285, 354, 355, 356, 357, 242, 243, 244, 245, 100, 358, 359, 360, 361, 250, 251, 252, 253, 254, 101, 814, 815, 816, 817, 818, 819, 820, 821, 822, 823, 824, 825, 826, 827, 828, 829, 830, 831, 832, 833] (by decide +kernel) (by decide +kernel)
set_option maxRecDepth 20000 in
theorem gL_law_X8_setPresent : GoodIn wsL_law (wsV RL 45 RX8 yX8_setPresent wsX8_setPresent) := goodIn_app (goodIn_of _ (by decide +kernel)) ggL_law_X8_setPresent
set_option maxRecDepth 20000 in
theorem ggL_law_X7_addSolo : GoodIn wsL_law wsX7_addSolo := goodIn_r _ [365, 15, 366, 23, 324, 325, 326, 14, 327, 196, 260, 261, 262, 263, 195, 367, 368, 369, 370, 198, 50, 51, 270, 165, 166, 43, 167, 62, 181, 182, 183, 22, 184, 185, 73, 72, 13, 186, 187, 188, 189, 190, 38, 39, 40, 10, 11, 41, 42, 44, 45, 46, 47, 48, 49, 52, 53, 54, 55, 56, 57, 58, 59, 60, 61, 191, 192, 193, 194, 197, 199, 200, 201, 202, 203, 371, 372, 373, 374, 375, 376, 377, 378, 220, 127, 128, 129, 807, 808, 809, 810, 811, 812, 813, 834, 835, 836, 837, 838, 839, 840, 841, 842, 843, 844, 845, 846, 863, 853, 854] (by decide +kernel) (by decide +kernel)
set_option maxRecDepth 20000 in
theorem gL_law_X7_addSolo : GoodIn wsL_law (wsV RL 46 RX7 yX7_addSolo wsX7_addSolo) := goodIn_app (goodIn_of _ (by decide +kernel)) ggL_law_X7_addSolo
set_option maxRecDepth 20000 in
theorem ggL_law_X8_addSolo : GoodIn wsL_law wsX8_addSolo := goodIn_r _ [382, 99, 350, 351, 352, 5, 353, 315, 316, 317, 318, 283, 284, 285, 275, 276, 277, 278, 279, 280, 281, 282, 383, 384, 385, 386, 387, 388, 389, 390, 242, 243, 244, 245, 100, 250, 251, 252, 253, 254, 101, 814, 815, 816, 817, 818, 819, 820, 821, 822, 823, 824, 825, 826, 827, 828, 829, 830, 831, 832, 833] (by decide +kernel) (by decide +kernel)
set_option maxRecDepth 20000 in
theorem gL_law_X8_addSolo : GoodIn wsL_law (wsV RL 49 RX8 yX8_addSolo wsX8_addSolo) := goodIn_app (goodIn_of _ (by decide +kernel)) ggL_law_X8_addSolo
set_option maxRecDepth 20000 in
theorem ggL_law_X7_removeSolo : GoodIn wsL_law wsX7_removeSolo := goodIn_r _ [394, 15, 23, 366, 395, 396, 397, 14, 398, 198, 181, 182, 183, 22, 184, 185, 73, 72, 13, 186, 187, 188, 189, 190, 38, 39, 40, 10, 11, 41, 42, 43, 44, 45, 46, 47, 48, 49, 50, 51, 52, 53, 54, 55, 56, 57, 58, 59, 60, 61, 62, 191, 192, 193, 194, 195, 196, 197, 199, 200, 201, 202, 203, 165, 166, 167, 399, 400, 401, 402, 375, 376, 377, 378, 270, 220, 127, 128, 129, 807, 808, 809, 810, 811, 812, 813, 834, 835, 836, 837, 838, 839, 840, 841, 842, 843, 844, 845, 846, 853, 854, 863] (by decide +kernel) (by decide +kernel)
set_option maxRecDepth 20000 in
theorem gL_law_X7_removeSolo : GoodIn wsL_law (wsV RL 50 RX7 yX7_removeSolo wsX7_removeSolo) := goodIn_app (goodIn_of _ (by decide +kernel)) ggL_law_X7_removeSolo
set_option maxRecDepth 20000 in
theorem ggL_law_X8_removeSolo : GoodIn wsL_law wsX8_removeSolo := goodIn_r _ [406, 99, 383, 384, 385, 5, 386, 283, 284, 285, 242, 243, 244, 245, 100, 250, 251, 252, 253, 254, 101, 814, 815, 816, 817, 818, 819, 820, 821, 822, 823, 824, 825, 826, 827, 828, 829, 830, 831, 832, 833] (by decide +kernel) (by decide +kernel)
set_option maxRecDepth 20000 in
theorem gL_law_X8_removeSolo : GoodIn wsL_law (wsV RL 54 RX8 yX8_removeSolo wsX8_removeSolo) := goodIn_app (goodIn_of _ (by decide +kernel)) ggL_law_X8_removeSolo
set_option maxRecDepth 20000 in
theorem ggL_law_X7_mark : GoodIn wsL_law wsX7_mark := goodIn_r _ [410, 15, 23, 411, 324, 325, 326, 14, 327, 196, 260, 261, 262, 263, 195, 412, 413, 414, 415, 46, 270, 165, 166, 43, 167, 62, 332, 2, 333, 181, 182, 183, 22, 184, 185, 73, 72, 13, 186, 187, 188, 189, 190, 38, 39, 40, 10, 11, 41, 42, 44, 45, 47, 48, 49, 50, 51, 52, 53, 54, 55, 56, 57, 58, 59, 60, 61, 191, 192, 193, 194, 197, 198, 199, 200, 201, 202, 203, 295, 334, 309, 310, 265, 127, 128, 129, 416, 417, 418, 419, 420, 807, 808, 809, 810, 811, 812, 813, 834, 835, 836, 837, 838, 839, 840, 841, 842, 843, 844, 845, 846, 863, 853, 854] (by decide +kernel) (by decide +kernel)
set_option maxRecDepth 20000 in
theorem gL_law_X7_mark : GoodIn wsL_law (wsV RL 55 RX7 yX7_mark wsX7_mark) := goodIn_app (goodIn_of _ (by decide +kernel)) ggL_law_X7_mark
set_option maxRecDepth 20000 in
theorem ggL_law_X8_mark : GoodIn wsL_law wsX8_mark := goodIn_r _ [424, 350, 351, 352, 5, 353, 315, 316, 317, 318, 99, 283, 284, 285, 275, 276, 277, 278, 279, 280, 281, 282, 425, 426, 427, 428, 242, 243, 244, 245, 100, 429, 430, 431, 432, 433, 434, 435, 436, 250, 251, 252, 253, 254, 101, 814, 815, 816, 817, 818, 819, 820, 821, 822, 823, 824, 825, 826, 827, 828, 829, 830, 831, 832, 833] (by decide +kernel) (by decide +kernel)
set_option maxRecDepth 20000 in
theorem gL_law_X8_mark : GoodIn wsL_law (wsV RL 59 RX8 yX8_mark wsX8_mark) := goodIn_app (goodIn_of _ (by decide +kernel)) ggL_law_X8_mark
set_option maxRecDepth 20000 in
theorem ggL_law_X7_setReserve : GoodIn wsL_law wsX7_setReserve := goodIn_r _ [440, 23, 15, 441, 264, 175, 2, 176, 181, 182, 183, 22, 184, 185, 73, 72, 13, 14, 186, 187, 188, 189, 190, 38, 39, 40, 10, 11, 41, 42, 43, 44, 45, 46, 47, 48, 49, 50, 51, 52, 53, 54, 55, 56, 57, 58, 59, 60, 61, 62, 191, 192, 193, 194, 195, 196, 197, 198, 199, 200, 201, 202, 203, 165, 166, 167, 807, 808, 809, 810, 811, 812, 813, 834, 835, 836, 837, 838, 839, 840, 841, 842, 843, 844, 845, 846, 853, 854, 863] (by decide +kernel) (by decide +kernel)
set_option maxRecDepth 20000 in
theorem gL_law_X7_setReserve : GoodIn wsL_law (wsV RL 60 RX7 yX7_setReserve wsX7_setReserve) := goodIn_app (goodIn_of _ (by decide +kernel)) ggL_law_X7_setReserve
set_option maxRecDepth 20000 in
theorem ggL_law_X8_setReserve : GoodIn wsL_law wsX8_setReserve := goodIn_r _ [445, 99, 283, 284, 5, 285, 242, 243, 244, 245, 100, 250, 251, 252, 253, 254, 101, 814, 815, 816, 817, 818, 819, 820, 821, 822, 823, 824, 825, 826, 827, 828, 829, 830, 831, 832, 833] (by decide +kernel) (by decide +kernel)
set_option maxRecDepth 20000 in
theorem gL_law_X8_setReserve : GoodIn wsL_law (wsV RL 63 RX8 yX8_setReserve wsX8_setReserve) := goodIn_app (goodIn_of _ (by decide +kernel)) ggL_law_X8_setReserve
set_option maxRecDepth 20000 in
theorem ggL_law_X7_make : GoodIn wsL_law wsX7_make := goodIn_r _ [449, 15, 323, 147, 23, 36, 181, 182, 183, 22, 184, 185, 73, 72, 13, 14, 186, 187, 188, 189, 190, 38, 39, 40, 10, 11, 41, 42, 43, 44, 45, 46, 47, 48, 49, 50, 51, 52, 53, 54, 55, 56, 57, 58, 59, 60, 61, 62, 191, 192, 193, 194, 195, 196, 197, 198, 199, 200, 201, 202, 203, 165, 166, 167, 450, 451, 452, 35, 453, 454, 93, 455, 456, 457, 209, 210, 211, 458, 459, 267, 268, 269, 270, 460, 461, 462, 463, 464, 465, 466, 467, 468, 469, 470, 471, 472, 473, 474, 475, 476, 336, 337, 338, 339, 340, 341, 342, 343, 344, 345, 477, 478, 479, 480, 481, 482, 329, 330, 331, 332, 2, 333, 309, 310, 483, 484, 485, 486, 487, 127, 128, 129, 488, 489, 490, 491, 492, 493, 494, 495, 496, 497, 498, 499, 500, 501, 502, 503, 504, 505, 506, 420, 413, 414, 415, 507, 508, 509, 510, 807, 808, 809, 810, 811, 812, 813, 834, 835, 836, 837, 838, 839, 840, 841, 842, 843, 844, 845, 846, 853, 854, 863, 862] (by decide +kernel) (by decide +kernel)
set_option maxRecDepth 20000 in
theorem gL_law_X7_make : GoodIn wsL_law (wsV RL 64 RX7 yX7_make wsX7_make) := goodIn_app (goodIn_of _ (by decide +kernel)) ggL_law_X7_make
