set_option maxRecDepth 20000 in
theorem kL_L_errors_0 : GoodIn wsL_law [Cond.code yL_errors cL_errors 4 (some .boolean)] := goodIn_r _ [557] (by decide +kernel) (by decide +kernel)
set_option maxRecDepth 20000 in
theorem kL_L_errors_wsL_errors_r1 : GoodIn wsL_law wsL_errors_r1 := goodIn_r _ [304, 305, 306, 2, 307, 12, 97, 220, 308, 29, 25, 309, 20, 310, 16, 241, 311, 312, 313, 11, 314, 112, 205, 137] (by decide +kernel) (by decide +kernel)
set_option maxRecDepth 20000 in
theorem kL_L_errors_wsL_errors_r2 : GoodIn wsL_law wsL_errors_r2 := goodIn_r _ [138, 139, 41, 140, 121, 122, 40, 123, 59, 315, 316, 317, 318, 319, 320, 321, 322, 323, 158, 159, 160, 114, 161, 162] (by decide +kernel) (by decide +kernel)
set_option maxRecDepth 20000 in
theorem kL_L_errors_wsL_errors_r3 : GoodIn wsL_law wsL_errors_r3 := goodIn_r _ [163, 164, 165, 166, 167, 212, 213, 214, 215, 43, 324, 325, 326, 28, 327, 82, 83, 84, 328, 329, 330, 331, 332, 132] (by decide +kernel) (by decide +kernel)
set_option maxRecDepth 20000 in
theorem kL_L_errors_wsL_errors_r4 : GoodIn wsL_law wsL_errors_r4 := goodIn_r _ [133, 134, 333, 334, 335, 336, 24, 337, 338, 339, 340, 341, 342, 343, 195, 56, 196, 75, 76, 344, 345, 198, 199, 200] (by decide +kernel) (by decide +kernel)
set_option maxRecDepth 20000 in
theorem kL_L_errors_wsL_errors_r5 : GoodIn wsL_law wsL_errors_r5 := goodIn_r _ [42, 201, 202, 203, 204, 46, 206, 174, 175, 176, 177, 178, 207, 142, 143, 144, 115, 47, 48, 208, 209, 210, 211, 346] (by decide +kernel) (by decide +kernel)
set_option maxRecDepth 20000 in
theorem kL_L_errors_wsL_errors_r6 : GoodIn wsL_law wsL_errors_r6 := goodIn_r _ [186, 187, 188, 347, 348, 349, 350, 179, 180, 351, 352, 353, 354, 355, 356, 357, 358, 359, 360, 361, 362, 363, 364, 365] (by decide +kernel) (by decide +kernel)
set_option maxRecDepth 20000 in
theorem kL_L_errors_wsL_errors_r7 : GoodIn wsL_law wsL_errors_r7 := goodIn_r _ [366, 367, 368, 369, 370, 371, 372, 55, 57, 394, 395, 396, 397, 378, 379, 380, 381, 382, 221, 222, 223, 98, 99, 100] (by decide +kernel) (by decide +kernel)
set_option maxRecDepth 20000 in
theorem kL_L_errors_wsL_errors_r8 : GoodIn wsL_law wsL_errors_r8 := goodIn_r _ [19, 101, 102, 70, 69, 10, 103, 104, 105, 106, 107, 35, 36, 37, 7, 8, 38, 39, 44, 45, 49, 50, 51, 52] (by decide +kernel) (by decide +kernel)
set_option maxRecDepth 20000 in
theorem kL_L_errors_wsL_errors_r9 : GoodIn wsL_law wsL_errors_r9 := goodIn_r _ [53, 54, 58, 108, 109, 110, 111, 113, 116, 117, 118, 119, 120, 398, 399, 400, 401, 402, 403, 377, 383, 216, 217, 218] (by decide +kernel) (by decide +kernel)
set_option maxRecDepth 20000 in
theorem kL_L_errors_wsL_errors_r10 : GoodIn wsL_law wsL_errors_r10 := goodIn_r _ [219, 224, 225, 226, 227, 228, 437, 438, 439, 440, 96, 410, 411, 412, 413, 414, 441, 442, 443, 444, 445, 446, 447, 448] (by decide +kernel) (by decide +kernel)
set_option maxRecDepth 20000 in
theorem kL_L_errors_wsL_errors_r11 : GoodIn wsL_law wsL_errors_r11 := goodIn_r _ [449, 450, 451, 452, 453, 454, 455, 456, 457, 458, 459, 460, 461, 462, 463, 464, 465, 466, 467, 468, 469, 475, 476, 477] (by decide +kernel) (by decide +kernel)
set_option maxRecDepth 20000 in
theorem kL_L_errors_wsL_errors_r12 : GoodIn wsL_law wsL_errors_r12 := goodIn_r _ [478, 479, 480, 415, 416, 417, 418, 481, 482, 483, 484, 470, 471, 472, 473, 408, 474, 419, 488, 489, 490, 491, 492, 496] (by decide +kernel) (by decide +kernel)
set_option maxRecDepth 20000 in
theorem kL_L_errors_wsL_errors_r13 : GoodIn wsL_law wsL_errors_r13 := goodIn_r _ [497, 498, 499, 500, 501, 502, 503, 515, 516, 517, 518, 424, 425, 426, 427, 558, 559, 560, 561, 21, 9, 34, 562, 563] (by decide +kernel) (by decide +kernel)
set_option maxRecDepth 20000 in
theorem kL_L_errors_wsL_errors_r14 : GoodIn wsL_law wsL_errors_r14 := goodIn_r _ [564, 565, 566] (by decide +kernel) (by decide +kernel)
theorem ggL_law_L_errors : GoodIn wsL_law wsL_errors := goodIn_app (a := [Cond.code yL_errors cL_errors 4 (some .boolean)]) kL_L_errors_0 (goodIn_app (goodIn_app (goodIn_app (goodIn_app (goodIn_app (goodIn_app (goodIn_app (goodIn_app kL_L_errors_wsL_errors_r1 (goodIn_app kL_L_errors_wsL_errors_r2 (goodIn_app kL_L_errors_wsL_errors_r3 (goodIn_app kL_L_errors_wsL_errors_r4 (goodIn_app kL_L_errors_wsL_errors_r5 (goodIn_app kL_L_errors_wsL_errors_r6 (goodIn_app kL_L_errors_wsL_errors_r7 (goodIn_app kL_L_errors_wsL_errors_r8 (goodIn_app kL_L_errors_wsL_errors_r9 (goodIn_app kL_L_errors_wsL_errors_r10 (goodIn_app kL_L_errors_wsL_errors_r11 (goodIn_app kL_L_errors_wsL_errors_r12 (goodIn_app kL_L_errors_wsL_errors_r13 kL_L_errors_wsL_errors_r14))))))))))))) kL_L_reads_wsX70) kL_L_reads_wsX40) kL_L_reads_wsX10) kL_L_reads_wsX30) kL_L_reads_wsX20) kL_L_reads_wsX00) kL_L_reads_wsX60)
set_option maxRecDepth 20000 in
theorem gL_law_L_errors : GoodIn wsL_law (va_wsS RL 135 yL_errors wsL_errors) := goodIn_app (goodIn_of _ (by decide +kernel)) ggL_law_L_errors
