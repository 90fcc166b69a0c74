set_option maxRecDepth 20000 in
theorem kL_L_breaths_0 : GoodIn wsL_law [Cond.code yL_breaths cL_breaths 5 (some .boolean)] := goodIn_r _ [514] (by decide +kernel) (by decide +kernel)
set_option maxRecDepth 20000 in
theorem kL_L_breaths_wsL_breaths_r1 : GoodIn wsL_law wsL_breaths_r1 := goodIn_r _ [515, 516, 517, 2, 518, 12, 25, 410, 411, 412, 11, 413, 113, 419, 335, 336, 24, 337, 338, 339, 340, 341, 342, 343] (by decide +kernel) (by decide +kernel)
set_option maxRecDepth 20000 in
theorem kL_L_breaths_wsL_breaths_r2 : GoodIn wsL_law wsL_breaths_r2 := goodIn_r _ [195, 56, 196, 75, 76, 344, 121, 122, 40, 123, 59, 345, 198, 199, 200, 42, 201, 202, 203, 204, 46, 205, 137, 138] (by decide +kernel) (by decide +kernel)
set_option maxRecDepth 20000 in
theorem kL_L_breaths_wsL_breaths_r3 : GoodIn wsL_law wsL_breaths_r3 := goodIn_r _ [139, 41, 140, 206, 174, 175, 176, 114, 177, 178, 207, 142, 143, 144, 115, 47, 48, 208, 209, 210, 211, 43, 346, 186] (by decide +kernel) (by decide +kernel)
set_option maxRecDepth 20000 in
theorem kL_L_breaths_wsL_breaths_r4 : GoodIn wsL_law wsL_breaths_r4 := goodIn_r _ [187, 188, 424, 425, 426, 427, 404, 405, 406, 407, 408, 409, 383, 414, 415, 416, 417, 418, 112, 420, 421, 422, 423, 428] (by decide +kernel) (by decide +kernel)
set_option maxRecDepth 20000 in
theorem kL_L_breaths_wsL_breaths_r5 : GoodIn wsL_law wsL_breaths_r5 := goodIn_r _ [429, 430, 431, 432, 433, 434, 435, 436, 55, 57] (by decide +kernel) (by decide +kernel)
theorem ggL_law_L_breaths : GoodIn wsL_law wsL_breaths := goodIn_app (a := [Cond.code yL_breaths cL_breaths 5 (some .boolean)]) kL_L_breaths_0 (goodIn_app (goodIn_app (goodIn_app (goodIn_app (goodIn_app kL_L_breaths_wsL_breaths_r1 (goodIn_app kL_L_breaths_wsL_breaths_r2 (goodIn_app kL_L_breaths_wsL_breaths_r3 (goodIn_app kL_L_breaths_wsL_breaths_r4 kL_L_breaths_wsL_breaths_r5)))) kL_L_reads_wsX70) kL_L_reads_wsX40) kL_L_reads_wsX60) kL_L_reads_wsX20)
set_option maxRecDepth 20000 in
theorem gL_law_L_breaths : GoodIn wsL_law (va_wsS RL 120 yL_breaths wsL_breaths) := goodIn_app (goodIn_of _ (by decide +kernel)) ggL_law_L_breaths
