set_option maxRecDepth 20000 in
theorem kL_L_reads_0 : GoodIn wsL_law [Cond.code yL_reads cL_reads 13 (some .boolean)] := goodIn_r _ [236] (by decide +kernel) (by decide +kernel)
set_option maxRecDepth 20000 in
theorem kL_L_reads_wsL_reads_r1 : GoodIn wsL_law wsL_reads_r1 := goodIn_r _ [58, 237, 238, 239, 2, 240, 16, 241, 242, 243, 244, 245, 20, 12, 97, 246, 247, 248, 15, 249, 250, 251, 252, 253] (by decide +kernel) (by decide +kernel)
set_option maxRecDepth 20000 in
theorem kL_L_reads_wsL_reads_r2 : GoodIn wsL_law wsL_reads_r2 := goodIn_r _ [254, 255, 256, 257, 258, 259, 260, 261, 262, 64, 263, 121, 122, 40, 123, 59, 264, 265, 266, 267, 268, 269, 270, 222] (by decide +kernel) (by decide +kernel)
set_option maxRecDepth 20000 in
theorem kL_L_reads_wsL_reads_r3 : GoodIn wsL_law wsL_reads_r3 := goodIn_r _ [223, 271, 272, 273, 274, 98, 99, 100, 19, 101, 102, 70, 69, 10, 11, 103, 104, 105, 106, 107, 35, 36, 37, 7] (by decide +kernel) (by decide +kernel)
set_option maxRecDepth 20000 in
theorem kL_L_reads_wsL_reads_r4 : GoodIn wsL_law wsL_reads_r4 := goodIn_r _ [8, 38, 39, 41, 42, 43, 44, 45, 46, 47, 48, 49, 50, 51, 52, 53, 54, 55, 56, 57, 108, 109, 110, 111] (by decide +kernel) (by decide +kernel)
set_option maxRecDepth 20000 in
theorem kL_L_reads_wsL_reads_r5 : GoodIn wsL_law wsL_reads_r5 := goodIn_r _ [112, 113, 114, 115, 116, 117, 118, 119, 120, 275, 276, 277, 278, 279, 132, 133, 134, 280, 281, 282, 283, 284, 285, 286] (by decide +kernel) (by decide +kernel)
set_option maxRecDepth 20000 in
theorem kL_L_reads_wsL_reads_r6 : GoodIn wsL_law wsL_reads_r6 := goodIn_r _ [287, 228, 186, 187, 188, 288, 289, 231, 290, 291, 292, 293, 294, 295, 296, 297, 298, 299, 300, 301, 302, 303, 304, 305] (by decide +kernel) (by decide +kernel)
set_option maxRecDepth 20000 in
theorem kL_L_reads_wsL_reads_r7 : GoodIn wsL_law wsL_reads_r7 := goodIn_r _ [306, 307, 220, 308, 29, 25, 309, 310, 311, 312, 313, 314, 205, 137, 138, 139, 140, 315, 316, 317, 318, 319, 320, 321] (by decide +kernel) (by decide +kernel)
set_option maxRecDepth 20000 in
theorem kL_L_reads_wsL_reads_r8 : GoodIn wsL_law wsL_reads_r8 := goodIn_r _ [322, 323, 158, 159, 160, 161, 162, 163, 164, 165, 166, 167, 212, 213, 214, 215, 324, 325, 326, 28, 327, 82, 83, 84] (by decide +kernel) (by decide +kernel)
set_option maxRecDepth 20000 in
theorem kL_L_reads_wsL_reads_r9 : GoodIn wsL_law wsL_reads_r9 := goodIn_r _ [328, 329, 330, 331, 332, 333, 334, 335, 336, 24, 337, 338, 339, 340, 341, 342, 343, 195, 196, 75, 76, 344, 345, 198] (by decide +kernel) (by decide +kernel)
set_option maxRecDepth 20000 in
theorem kL_L_reads_wsL_reads_r10 : GoodIn wsL_law wsL_reads_r10 := goodIn_r _ [199, 200, 201, 202, 203, 204, 206, 174, 175, 176, 177, 178, 207, 142, 143, 144, 208, 209, 210, 211, 346, 347, 348, 349] (by decide +kernel) (by decide +kernel)
set_option maxRecDepth 20000 in
theorem kL_L_reads_wsL_reads_r11 : GoodIn wsL_law wsL_reads_r11 := goodIn_r _ [350, 179, 180, 351, 352, 353, 354, 355, 356, 357, 358, 359, 360, 361, 362, 363, 364, 365, 366, 367, 368, 369, 370, 371] (by decide +kernel) (by decide +kernel)
set_option maxRecDepth 20000 in
theorem kL_L_reads_wsL_reads_r12 : GoodIn wsL_law wsL_reads_r12 := goodIn_r _ [372, 373, 374, 375, 376, 377, 378, 379, 380, 381, 382, 383, 384, 385, 386, 387, 388, 389, 390, 391, 392, 393] (by decide +kernel) (by decide +kernel)
set_option maxRecDepth 20000 in
theorem kL_L_reads_wsX70 : GoodIn wsL_law wsX70 := goodIn_r _ [567, 568, 569, 570, 571, 572, 573] (by decide +kernel) (by decide +kernel)
set_option maxRecDepth 20000 in
theorem kL_L_reads_wsX30 : GoodIn wsL_law wsX30 := goodIn_r _ [587, 588, 589, 590, 591, 592] (by decide +kernel) (by decide +kernel)
set_option maxRecDepth 20000 in
theorem kL_L_reads_wsX40 : GoodIn wsL_law wsX40 := goodIn_r _ [574, 575, 576, 577, 578, 579, 580, 581, 582, 583, 584, 585, 586] (by decide +kernel) (by decide +kernel)
set_option maxRecDepth 20000 in
theorem kL_L_reads_wsX20 : GoodIn wsL_law wsX20 := goodIn_r _ [603] (by decide +kernel) (by decide +kernel)
set_option maxRecDepth 20000 in
theorem kL_L_reads_wsX10 : GoodIn wsL_law wsX10 := goodIn_r _ [593, 594] (by decide +kernel) (by decide +kernel)
set_option maxRecDepth 20000 in
theorem kL_L_reads_wsX00 : GoodIn wsL_law wsX00 := goodIn_r _ [599, 600, 601] (by decide +kernel) (by decide +kernel)
set_option maxRecDepth 20000 in
theorem kL_L_reads_wsX60 : GoodIn wsL_law wsX60 := goodIn_r _ [595, 596, 597, 598] (by decide +kernel) (by decide +kernel)
theorem ggL_law_L_reads : GoodIn wsL_law wsL_reads := goodIn_app (a := [Cond.code yL_reads cL_reads 13 (some .boolean)]) kL_L_reads_0 (goodIn_app (goodIn_app (goodIn_app (goodIn_app (goodIn_app (goodIn_app (goodIn_app (goodIn_app kL_L_reads_wsL_reads_r1 (goodIn_app kL_L_reads_wsL_reads_r2 (goodIn_app kL_L_reads_wsL_reads_r3 (goodIn_app kL_L_reads_wsL_reads_r4 (goodIn_app kL_L_reads_wsL_reads_r5 (goodIn_app kL_L_reads_wsL_reads_r6 (goodIn_app kL_L_reads_wsL_reads_r7 (goodIn_app kL_L_reads_wsL_reads_r8 (goodIn_app kL_L_reads_wsL_reads_r9 (goodIn_app kL_L_reads_wsL_reads_r10 (goodIn_app kL_L_reads_wsL_reads_r11 kL_L_reads_wsL_reads_r12))))))))))) kL_L_reads_wsX70) kL_L_reads_wsX30) kL_L_reads_wsX40) kL_L_reads_wsX20) kL_L_reads_wsX10) kL_L_reads_wsX00) kL_L_reads_wsX60)
set_option maxRecDepth 20000 in
theorem gL_law_L_reads : GoodIn wsL_law (va_wsS RL 108 yL_reads wsL_reads) := goodIn_app (goodIn_of _ (by decide +kernel)) ggL_law_L_reads
