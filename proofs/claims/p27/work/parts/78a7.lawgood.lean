set_option maxRecDepth 20000 in
theorem kL_L_beats_0 : GoodIn wsL_law [Cond.code yL_beats cL_beats 9 (some .boolean)] := goodIn_r _ [531] (by decide +kernel) (by decide +kernel)
set_option maxRecDepth 20000 in
theorem kL_L_beats_wsL_beats_r1 : GoodIn wsL_law wsL_beats_r1 := goodIn_r _ [58, 304, 305, 306, 2, 307, 12, 97, 220, 308, 29, 25, 309, 20, 310, 16, 241, 311, 312, 313, 11, 314, 112, 205] (by decide +kernel) (by decide +kernel)
set_option maxRecDepth 20000 in
theorem kL_L_beats_wsL_beats_r2 : GoodIn wsL_law wsL_beats_r2 := goodIn_r _ [137, 138, 139, 41, 140, 121, 122, 40, 123, 59, 315, 316, 317, 318, 319, 320, 321, 322, 323, 158, 159, 160, 114, 161] (by decide +kernel) (by decide +kernel)
set_option maxRecDepth 20000 in
theorem kL_L_beats_wsL_beats_r3 : GoodIn wsL_law wsL_beats_r3 := goodIn_r _ [162, 163, 164, 165, 166, 167, 212, 213, 214, 215, 43, 324, 325, 326, 28, 327, 82, 83, 84, 328, 329, 330, 331, 332] (by decide +kernel) (by decide +kernel)
set_option maxRecDepth 20000 in
theorem kL_L_beats_wsL_beats_r4 : GoodIn wsL_law wsL_beats_r4 := goodIn_r _ [132, 133, 134, 333, 334, 335, 336, 24, 337, 338, 339, 340, 341, 342, 343, 195, 56, 196, 75, 76, 344, 345, 198, 199] (by decide +kernel) (by decide +kernel)
set_option maxRecDepth 20000 in
theorem kL_L_beats_wsL_beats_r5 : GoodIn wsL_law wsL_beats_r5 := goodIn_r _ [200, 42, 201, 202, 203, 204, 46, 206, 174, 175, 176, 177, 178, 207, 142, 143, 144, 115, 47, 48, 208, 209, 210, 211] (by decide +kernel) (by decide +kernel)
set_option maxRecDepth 20000 in
theorem kL_L_beats_wsL_beats_r6 : GoodIn wsL_law wsL_beats_r6 := goodIn_r _ [346, 186, 187, 188, 347, 348, 349, 350, 179, 180, 351, 352, 353, 354, 355, 356, 357, 358, 359, 360, 361, 362, 363, 364] (by decide +kernel) (by decide +kernel)
set_option maxRecDepth 20000 in
theorem kL_L_beats_wsL_beats_r7 : GoodIn wsL_law wsL_beats_r7 := goodIn_r _ [365, 366, 367, 368, 369, 370, 371, 372, 55, 57, 373, 374, 375, 376, 377, 378, 379, 380, 381, 382, 383, 384, 385, 386] (by decide +kernel) (by decide +kernel)
set_option maxRecDepth 20000 in
theorem kL_L_beats_wsL_beats_r8 : GoodIn wsL_law wsL_beats_r8 := goodIn_r _ [387, 388, 389, 390, 391, 392, 393, 470, 471, 472, 473, 408, 474, 410, 411, 412, 413, 113, 419] (by decide +kernel) (by decide +kernel)
theorem ggL_law_L_beats : GoodIn wsL_law wsL_beats := goodIn_app (a := [Cond.code yL_beats cL_beats 9 (some .boolean)]) kL_L_beats_0 (goodIn_app (goodIn_app (goodIn_app (goodIn_app (goodIn_app (goodIn_app (goodIn_app (goodIn_app kL_L_beats_wsL_beats_r1 (goodIn_app kL_L_beats_wsL_beats_r2 (goodIn_app kL_L_beats_wsL_beats_r3 (goodIn_app kL_L_beats_wsL_beats_r4 (goodIn_app kL_L_beats_wsL_beats_r5 (goodIn_app kL_L_beats_wsL_beats_r6 (goodIn_app kL_L_beats_wsL_beats_r7 kL_L_beats_wsL_beats_r8))))))) kL_L_reads_wsX70) kL_L_reads_wsX40) kL_L_reads_wsX10) kL_L_reads_wsX30) kL_L_reads_wsX20) kL_L_reads_wsX00) kL_L_reads_wsX60)
set_option maxRecDepth 20000 in
theorem gL_law_L_beats : GoodIn wsL_law (va_wsS RL 126 yL_beats wsL_beats) := goodIn_app (goodIn_of _ (by decide +kernel)) ggL_law_L_beats
