set_option maxRecDepth 20000 in
theorem ggL_law_L_cell : GoodIn wsL_law wsL_cell := goodIn_r _ [232, 233] (by decide +kernel) (by decide +kernel)
set_option maxRecDepth 20000 in
theorem gL_law_L_cell : GoodIn wsL_law (va_wsS RL 104 yL_cell wsL_cell) := goodIn_app (goodIn_of _ (by decide +kernel)) ggL_law_L_cell
set_option maxRecDepth 20000 in
theorem ggL_law_L_low : GoodIn wsL_law wsL_low := goodIn_r _ [290, 291] (by decide +kernel) (by decide +kernel)
set_option maxRecDepth 20000 in
theorem gL_law_L_low : GoodIn wsL_law (va_wsS RL 67 yL_low wsL_low) := goodIn_app (goodIn_of _ (by decide +kernel)) ggL_law_L_low
set_option maxRecDepth 20000 in
theorem ggL_law_X7_init : GoodIn wsL_law wsX7_init := goodIn_r _ [5, 6, 7, 8, 9, 10, 11, 12, 13, 14, 15, 16, 17, 18, 19, 20, 21, 22, 23, 24, 25, 26, 27, 28, 29, 30, 31, 32, 33, 34, 35, 36, 37, 38, 39, 40, 41, 42, 43, 44, 45, 46, 47, 48, 49, 50, 51, 52, 53, 54, 55, 56, 57, 58, 59, 60, 61, 62, 63, 64, 65, 66, 67, 68, 69, 70, 71, 72, 73, 74, 75, 76, 77, 78, 79, 80, 81, 82, 83, 84, 85, 86, 87, 88, 89, 90, 91, 574, 575, 576, 577, 578, 579, 580, 581, 582, 583, 584, 585, 586, 567, 568, 569, 570, 571, 572, 573, 587, 588, 589, 590, 591, 592, 593, 594, 595, 596, 597, 598, 599, 600, 601, 602, 603] (by decide +kernel) (by decide +kernel)
set_option maxRecDepth 20000 in
theorem gL_law_X7_init : GoodIn wsL_law (wsX7_init) := ggL_law_X7_init
set_option maxRecDepth 20000 in
theorem ggL_law_X7_make : GoodIn wsL_law wsX7_make := goodIn_r _ [95, 12, 96, 97, 20, 33, 98, 99, 100, 19, 101, 102, 70, 69, 10, 11, 103, 104, 105, 106, 107, 35, 36, 37, 7, 8, 38, 39, 40, 41, 42, 43, 44, 45, 46, 47, 48, 49, 50, 51, 52, 53, 54, 55, 56, 57, 58, 59, 108, 109, 110, 111, 112, 113, 114, 115, 116, 117, 118, 119, 120, 121, 122, 123, 124, 125, 126, 32, 127, 128, 90, 129, 130, 131, 132, 133, 134, 135, 136, 137, 138, 139, 140, 141, 142, 143, 144, 145, 146, 147, 148, 149, 150, 151, 152, 153, 154, 155, 156, 157, 158, 159, 160, 161, 162, 163, 164, 165, 166, 167, 168, 169, 170, 171, 172, 173, 174, 175, 176, 177, 2, 178, 179, 180, 181, 182, 183, 184, 185, 186, 187, 188, 189, 190, 191, 192, 193, 194, 195, 196, 197, 198, 199, 200, 201, 202, 203, 204, 205, 206, 207, 208, 209, 210, 211, 212, 213, 214, 215, 567, 568, 569, 570, 571, 572, 573, 574, 575, 576, 577, 578, 579, 580, 581, 582, 583, 584, 585, 586, 593, 594, 603, 602] (by decide +kernel) (by decide +kernel)
set_option maxRecDepth 20000 in
theorem gL_law_X7_make : GoodIn wsL_law (wsV RL 40 RX7 yX7_make wsX7_make) := goodIn_app (goodIn_of _ (by decide +kernel)) ggL_law_X7_make
set_option maxRecDepth 20000 in
theorem ggL_law_X7_addSinger : GoodIn wsL_law wsX7_addSinger := goodIn_r _ [219, 12, 220, 20, 221, 222, 2, 223, 98, 99, 100, 19, 101, 102, 70, 69, 10, 11, 103, 104, 105, 106, 107, 35, 36, 37, 7, 8, 38, 39, 40, 41, 42, 43, 44, 45, 46, 47, 48, 49, 50, 51, 52, 53, 54, 55, 56, 57, 58, 59, 108, 109, 110, 111, 112, 113, 114, 115, 116, 117, 118, 119, 120, 121, 122, 123, 224, 225, 226, 227, 228, 186, 187, 188, 179, 180, 567, 568, 569, 570, 571, 572, 573, 574, 575, 576, 577, 578, 579, 580, 581, 582, 583, 584, 585, 586, 593, 594, 603] (by decide +kernel) (by decide +kernel)
set_option maxRecDepth 20000 in
theorem gL_law_X7_addSinger : GoodIn wsL_law (wsV RL 81 RX7 yX7_addSinger wsX7_addSinger) := goodIn_app (goodIn_of _ (by decide +kernel)) ggL_law_X7_addSinger
set_option maxRecDepth 20000 in
theorem ggL_law_X7_count : GoodIn wsL_law wsX7_count := goodIn_r _ [307, 12, 97, 220, 308, 29, 25, 309, 20, 310, 16, 241, 311, 312, 313, 11, 314, 112, 205, 137, 138, 139, 41, 140, 121, 122, 40, 123, 59, 315, 316, 317, 318, 319, 320, 321, 322, 323, 158, 159, 160, 114, 161, 162, 163, 164, 165, 166, 167, 212, 213, 214, 215, 43, 324, 325, 326, 28, 327, 82, 83, 84, 328, 329, 330, 331, 332, 132, 133, 134, 333, 334, 335, 336, 24, 337, 338, 339, 340, 341, 342, 343, 195, 56, 196, 75, 76, 344, 345, 198, 199, 200, 42, 201, 202, 203, 204, 46, 206, 174, 175, 176, 177, 2, 178, 207, 142, 143, 144, 115, 47, 48, 208, 209, 210, 211, 346, 186, 187, 188, 347, 348, 349, 350, 179, 180, 351, 352, 353, 354, 355, 356, 357, 358, 359, 360, 361, 362, 363, 364, 365, 366, 367, 368, 369, 370, 371, 372, 55, 57, 567, 568, 569, 570, 571, 572, 573, 574, 575, 576, 577, 578, 579, 580, 581, 582, 583, 584, 585, 586, 593, 594, 587, 588, 589, 590, 591, 592, 603, 599, 600, 601, 595, 596, 597, 598] (by decide +kernel) (by decide +kernel)
set_option maxRecDepth 20000 in
theorem gL_law_X7_count : GoodIn wsL_law (wsV RL 9 RX7 yX7_count wsX7_count) := goodIn_app (goodIn_of _ (by decide +kernel)) ggL_law_X7_count
set_option maxRecDepth 20000 in
theorem ggL_law_X7_beat : GoodIn wsL_law wsX7_beat := goodIn_r _ [376, 12, 377, 378, 29, 25, 379, 380, 381, 11, 382, 112, 383, 121, 122, 40, 123, 59, 384, 320, 321, 322, 41, 205, 137, 138, 139, 140, 385, 142, 143, 144, 115, 47, 48, 324, 325, 326, 28, 327, 82, 83, 84, 328, 329, 330, 331, 332, 132, 133, 134, 333, 334, 335, 336, 24, 337, 338, 339, 340, 341, 342, 343, 195, 56, 196, 75, 76, 344, 345, 198, 199, 200, 42, 201, 202, 203, 204, 46, 206, 174, 175, 176, 114, 177, 2, 178, 207, 208, 209, 210, 211, 43, 346, 186, 187, 188, 347, 348, 349, 350, 179, 180, 351, 386, 387, 388, 389, 390, 391, 392, 393, 162, 163, 164, 165, 166, 167, 567, 568, 569, 570, 571, 572, 573, 574, 575, 576, 577, 578, 579, 580, 581, 582, 583, 584, 585, 586, 603, 599, 600, 601, 595, 596, 597, 598] (by decide +kernel) (by decide +kernel)
set_option maxRecDepth 20000 in
theorem gL_law_X7_beat : GoodIn wsL_law (wsV RL 19 RX7 yX7_beat wsX7_beat) := goodIn_app (goodIn_of _ (by decide +kernel)) ggL_law_X7_beat
set_option maxRecDepth 20000 in
theorem ggL_law_X7_setLoudness : GoodIn wsL_law wsX7_setLoudness := goodIn_r _ [397, 12, 20, 378, 379, 380, 381, 11, 382, 112, 221, 222, 2, 223, 98, 99, 100, 19, 101, 102, 70, 69, 10, 103, 104, 105, 106, 107, 35, 36, 37, 7, 8, 38, 39, 40, 41, 42, 43, 44, 45, 46, 47, 48, 49, 50, 51, 52, 53, 54, 55, 56, 57, 58, 59, 108, 109, 110, 111, 113, 114, 115, 116, 117, 118, 119, 120, 121, 122, 123, 398, 186, 187, 188, 399, 137, 138, 139, 140, 567, 568, 569, 570, 571, 572, 573, 574, 575, 576, 577, 578, 579, 580, 581, 582, 583, 584, 585, 586, 593, 594, 603] (by decide +kernel) (by decide +kernel)
set_option maxRecDepth 20000 in
theorem gL_law_X7_setLoudness : GoodIn wsL_law (wsV RL 74 RX7 yX7_setLoudness wsX7_setLoudness) := goodIn_app (goodIn_of _ (by decide +kernel)) ggL_law_X7_setLoudness
set_option maxRecDepth 20000 in
theorem ggL_law_X7_setSort : GoodIn wsL_law wsX7_setSort := goodIn_r _ [403, 12, 20, 377, 379, 380, 381, 11, 382, 112, 221, 222, 2, 223, 98, 99, 100, 19, 101, 102, 70, 69, 10, 103, 104, 105, 106, 107, 35, 36, 37, 7, 8, 38, 39, 40, 41, 42, 43, 44, 45, 46, 47, 48, 49, 50, 51, 52, 53, 54, 55, 56, 57, 58, 59, 108, 109, 110, 111, 113, 114, 115, 116, 117, 118, 119, 120, 121, 122, 123, 383, 398, 186, 187, 188, 567, 568, 569, 570, 571, 572, 573, 574, 575, 576, 577, 578, 579, 580, 581, 582, 583, 584, 585, 586, 593, 594, 603] (by decide +kernel) (by decide +kernel)
set_option maxRecDepth 20000 in
theorem gL_law_X7_setSort : GoodIn wsL_law (wsV RL 78 RX7 yX7_setSort wsX7_setSort) := goodIn_app (goodIn_of _ (by decide +kernel)) ggL_law_X7_setSort
