set_option maxRecDepth 20000 in
theorem kL_L_without_0 : GoodIn wsL_law [Cond.code yL_without cL_without 4 (some .boolean)] := goodIn_r _ [495] (by decide +kernel) (by decide +kernel)
set_option maxRecDepth 20000 in
theorem kL_L_without_wsL_without_r1 : GoodIn wsL_law wsL_without_r1 := goodIn_r _ [496, 497, 498, 2, 499, 12, 29, 25, 410, 411, 412, 11, 413, 113, 324, 325, 326, 28, 327, 82, 83, 84, 328, 329] (by decide +kernel) (by decide +kernel)
set_option maxRecDepth 20000 in
theorem kL_L_without_wsL_without_r2 : GoodIn wsL_law wsL_without_r2 := goodIn_r _ [330, 331, 332, 132, 133, 40, 134, 59, 333, 121, 122, 123, 334, 335, 336, 24, 337, 338, 339, 340, 341, 342, 343, 195] (by decide +kernel) (by decide +kernel)
set_option maxRecDepth 20000 in
theorem kL_L_without_wsL_without_r3 : GoodIn wsL_law wsL_without_r3 := goodIn_r _ [56, 196, 75, 76, 344, 345, 198, 199, 200, 42, 201, 202, 203, 204, 46, 205, 137, 138, 139, 41, 140, 206, 174, 175] (by decide +kernel) (by decide +kernel)
set_option maxRecDepth 20000 in
theorem kL_L_without_wsL_without_r4 : GoodIn wsL_law wsL_without_r4 := goodIn_r _ [176, 114, 177, 178, 207, 142, 143, 144, 115, 47, 48, 208, 209, 210, 211, 43, 346, 186, 187, 188, 347, 348, 349, 350] (by decide +kernel) (by decide +kernel)
set_option maxRecDepth 20000 in
theorem kL_L_without_wsL_without_r5 : GoodIn wsL_law wsL_without_r5 := goodIn_r _ [179, 180, 351, 500, 501, 502, 503, 360, 404, 405, 406, 407, 408, 409, 383, 414, 415, 416, 417, 418, 112, 419, 420, 421] (by decide +kernel) (by decide +kernel)
set_option maxRecDepth 20000 in
theorem kL_L_without_wsL_without_r6 : GoodIn wsL_law wsL_without_r6 := goodIn_r _ [422, 423, 424, 425, 426, 427, 428, 429, 430, 431, 432, 433, 434, 435, 436, 55, 57, 304, 305, 306, 307, 97, 220, 308] (by decide +kernel) (by decide +kernel)
set_option maxRecDepth 20000 in
theorem kL_L_without_wsL_without_r7 : GoodIn wsL_law wsL_without_r7 := goodIn_r _ [309, 20, 310, 16, 241, 311, 312, 313, 314, 315, 316, 317, 318, 319, 320, 321, 322, 323, 158, 159, 160, 161, 162, 163] (by decide +kernel) (by decide +kernel)
set_option maxRecDepth 20000 in
theorem kL_L_without_wsL_without_r8 : GoodIn wsL_law wsL_without_r8 := goodIn_r _ [164, 165, 166, 167, 212, 213, 214, 215, 352, 353, 354, 355, 356, 357, 358, 359, 361, 362, 363, 364, 365, 366, 367, 368] (by decide +kernel) (by decide +kernel)
set_option maxRecDepth 20000 in
theorem kL_L_without_wsL_without_r9 : GoodIn wsL_law wsL_without_r9 := goodIn_r _ [369, 370, 371, 372, 437, 438, 439, 440, 96, 98, 99, 100, 19, 101, 102, 70, 69, 10, 103, 104, 105, 106, 107, 35] (by decide +kernel) (by decide +kernel)
set_option maxRecDepth 20000 in
theorem kL_L_without_wsL_without_r10 : GoodIn wsL_law wsL_without_r10 := goodIn_r _ [36, 37, 7, 8, 38, 39, 44, 45, 49, 50, 51, 52, 53, 54, 58, 108, 109, 110, 111, 116, 117, 118, 119, 120] (by decide +kernel) (by decide +kernel)
set_option maxRecDepth 20000 in
theorem kL_L_without_wsL_without_r11 : GoodIn wsL_law wsL_without_r11 := goodIn_r _ [441, 504, 505, 506, 507, 508, 509, 510, 511] (by decide +kernel) (by decide +kernel)
theorem ggL_law_L_without : GoodIn wsL_law wsL_without := goodIn_app (a := [Cond.code yL_without cL_without 4 (some .boolean)]) kL_L_without_0 (goodIn_app (goodIn_app (goodIn_app (goodIn_app (goodIn_app (goodIn_app (goodIn_app (goodIn_app kL_L_without_wsL_without_r1 (goodIn_app kL_L_without_wsL_without_r2 (goodIn_app kL_L_without_wsL_without_r3 (goodIn_app kL_L_without_wsL_without_r4 (goodIn_app kL_L_without_wsL_without_r5 (goodIn_app kL_L_without_wsL_without_r6 (goodIn_app kL_L_without_wsL_without_r7 (goodIn_app kL_L_without_wsL_without_r8 (goodIn_app kL_L_without_wsL_without_r9 (goodIn_app kL_L_without_wsL_without_r10 kL_L_without_wsL_without_r11)))))))))) kL_L_reads_wsX70) kL_L_reads_wsX40) kL_L_reads_wsX00) kL_L_reads_wsX60) kL_L_reads_wsX20) kL_L_reads_wsX10) kL_L_reads_wsX30)
set_option maxRecDepth 20000 in
theorem gL_law_L_without : GoodIn wsL_law (va_wsS RL 116 yL_without wsL_without) := goodIn_app (goodIn_of _ (by decide +kernel)) ggL_law_L_without
