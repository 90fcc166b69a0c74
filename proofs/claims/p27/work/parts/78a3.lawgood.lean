set_option maxRecDepth 20000 in
theorem kL_L_makes_0 : GoodIn wsL_law [Cond.code yL_makes cL_makes 11 (some .boolean)] := goodIn_r _ [487] (by decide +kernel) (by decide +kernel)
set_option maxRecDepth 20000 in
theorem kL_L_makes_wsL_makes_r1 : GoodIn wsL_law wsL_makes_r1 := goodIn_r _ [92, 93, 94, 2, 95, 12, 96, 97, 20, 33, 98, 99, 100, 19, 101, 102, 70, 69, 10, 11, 103, 104, 105, 106] (by decide +kernel) (by decide +kernel)
set_option maxRecDepth 20000 in
theorem kL_L_makes_wsL_makes_r2 : GoodIn wsL_law wsL_makes_r2 := goodIn_r _ [107, 35, 36, 37, 7, 8, 38, 39, 40, 41, 42, 43, 44, 45, 46, 47, 48, 49, 50, 51, 52, 53, 54, 55] (by decide +kernel) (by decide +kernel)
set_option maxRecDepth 20000 in
theorem kL_L_makes_wsL_makes_r3 : GoodIn wsL_law wsL_makes_r3 := goodIn_r _ [56, 57, 58, 59, 108, 109, 110, 111, 112, 113, 114, 115, 116, 117, 118, 119, 120, 121, 122, 123, 124, 125, 126, 32] (by decide +kernel) (by decide +kernel)
set_option maxRecDepth 20000 in
theorem kL_L_makes_wsL_makes_r4 : GoodIn wsL_law wsL_makes_r4 := goodIn_r _ [127, 128, 90, 129, 130, 131, 132, 133, 134, 135, 136, 137, 138, 139, 140, 141, 142, 143, 144, 145, 146, 147, 148, 149] (by decide +kernel) (by decide +kernel)
set_option maxRecDepth 20000 in
theorem kL_L_makes_wsL_makes_r5 : GoodIn wsL_law wsL_makes_r5 := goodIn_r _ [150, 151, 152, 153, 154, 155, 156, 157, 158, 159, 160, 161, 162, 163, 164, 165, 166, 167, 168, 169, 170, 171, 172, 173] (by decide +kernel) (by decide +kernel)
set_option maxRecDepth 20000 in
theorem kL_L_makes_wsL_makes_r6 : GoodIn wsL_law wsL_makes_r6 := goodIn_r _ [174, 175, 176, 177, 178, 179, 180, 181, 182, 183, 184, 185, 186, 187, 188, 189, 190, 191, 192, 193, 194, 195, 196, 197] (by decide +kernel) (by decide +kernel)
set_option maxRecDepth 20000 in
theorem kL_L_makes_wsL_makes_r7 : GoodIn wsL_law wsL_makes_r7 := goodIn_r _ [198, 199, 200, 201, 202, 203, 204, 205, 206, 207, 208, 209, 210, 211, 212, 213, 214, 215, 304, 305, 306, 307, 220, 308] (by decide +kernel) (by decide +kernel)
set_option maxRecDepth 20000 in
theorem kL_L_makes_wsL_makes_r8 : GoodIn wsL_law wsL_makes_r8 := goodIn_r _ [29, 25, 309, 310, 16, 241, 311, 312, 313, 314, 315, 316, 317, 318, 319, 320, 321, 322, 323, 324, 325, 326, 28, 327] (by decide +kernel) (by decide +kernel)
set_option maxRecDepth 20000 in
theorem kL_L_makes_wsL_makes_r9 : GoodIn wsL_law wsL_makes_r9 := goodIn_r _ [82, 83, 84, 328, 329, 330, 331, 332, 333, 334, 335, 336, 24, 337, 338, 339, 340, 341, 342, 343, 75, 76, 344, 345] (by decide +kernel) (by decide +kernel)
set_option maxRecDepth 20000 in
theorem kL_L_makes_wsL_makes_r10 : GoodIn wsL_law wsL_makes_r10 := goodIn_r _ [346, 347, 348, 349, 350, 351, 352, 353, 354, 355, 356, 357, 358, 359, 360, 361, 362, 363, 364, 365, 366, 367, 368, 369] (by decide +kernel) (by decide +kernel)
set_option maxRecDepth 20000 in
theorem kL_L_makes_wsL_makes_r11 : GoodIn wsL_law wsL_makes_r11 := goodIn_r _ [370, 371, 372, 373, 374, 375, 376, 377, 378, 379, 380, 381, 382, 383, 384, 385, 386, 387, 388, 389, 390, 391, 392, 393] (by decide +kernel) (by decide +kernel)
set_option maxRecDepth 20000 in
theorem kL_L_makes_wsL_makes_r12 : GoodIn wsL_law wsL_makes_r12 := goodIn_r _ [404, 405, 406, 407, 408, 409, 410, 411, 412, 413, 414, 415, 416, 417, 418, 419, 420, 421, 422, 423, 424, 425, 426, 427] (by decide +kernel) (by decide +kernel)
set_option maxRecDepth 20000 in
theorem kL_L_makes_wsL_makes_r13 : GoodIn wsL_law wsL_makes_r13 := goodIn_r _ [428, 429, 430, 431, 432, 433, 434, 435, 436, 488, 489, 490, 491, 492, 470, 471, 472, 473, 474] (by decide +kernel) (by decide +kernel)
set_option maxRecDepth 20000 in
theorem kL_L_makes_wsX50 : GoodIn wsL_law wsX50 := goodIn_r _ [602] (by decide +kernel) (by decide +kernel)
theorem ggL_law_L_makes : GoodIn wsL_law wsL_makes := goodIn_app (a := [Cond.code yL_makes cL_makes 11 (some .boolean)]) kL_L_makes_0 (goodIn_app (goodIn_app (goodIn_app (goodIn_app (goodIn_app (goodIn_app (goodIn_app (goodIn_app (goodIn_app kL_L_makes_wsL_makes_r1 (goodIn_app kL_L_makes_wsL_makes_r2 (goodIn_app kL_L_makes_wsL_makes_r3 (goodIn_app kL_L_makes_wsL_makes_r4 (goodIn_app kL_L_makes_wsL_makes_r5 (goodIn_app kL_L_makes_wsL_makes_r6 (goodIn_app kL_L_makes_wsL_makes_r7 (goodIn_app kL_L_makes_wsL_makes_r8 (goodIn_app kL_L_makes_wsL_makes_r9 (goodIn_app kL_L_makes_wsL_makes_r10 (goodIn_app kL_L_makes_wsL_makes_r11 (goodIn_app kL_L_makes_wsL_makes_r12 kL_L_makes_wsL_makes_r13)))))))))))) kL_L_reads_wsX70) kL_L_reads_wsX40) kL_L_reads_wsX10) kL_L_reads_wsX20) kL_L_makes_wsX50) kL_L_reads_wsX30) kL_L_reads_wsX00) kL_L_reads_wsX60)
set_option maxRecDepth 20000 in
theorem gL_law_L_makes : GoodIn wsL_law (va_wsS RL 112 yL_makes wsL_makes) := goodIn_app (goodIn_of _ (by decide +kernel)) ggL_law_L_makes
