set_option maxRecDepth 20000 in
theorem ggL_law_X8_make : GoodIn wsL_law wsX8_make := goodIn_r _ [514, 358, 359, 360, 5, 361, 315, 316, 317, 318, 99, 354, 355, 356, 357, 279, 280, 281, 282, 242, 243, 244, 245, 100, 246, 247, 248, 249, 286, 287, 288, 289, 515, 516, 517, 518, 383, 384, 385, 386, 387, 388, 389, 390, 283, 284, 285, 519, 520, 521, 522, 112, 523, 524, 525, 526, 527, 528, 529, 530, 111, 531, 532, 533, 534, 535, 536, 537, 538, 539, 540, 541, 542, 429, 430, 431, 432, 543, 544, 545, 546, 110, 547, 548, 549, 550, 425, 426, 427, 428, 551, 552, 553, 554, 555, 556, 557, 433, 434, 435, 436, 250, 251, 252, 253, 254, 101, 814, 815, 816, 817, 818, 819, 820, 821, 822, 823, 824, 825, 826, 827, 828, 829, 830, 831, 832, 833] (by decide +kernel) (by decide +kernel)
set_option maxRecDepth 20000 in
theorem gL_law_X8_make : GoodIn wsL_law (wsV RL 67 RX8 yX8_make wsX8_make) := goodIn_app (goodIn_of _ (by decide +kernel)) ggL_law_X8_make
set_option maxRecDepth 20000 in
theorem ggL_law_X7_undo : GoodIn wsL_law wsX7_undo := goodIn_r _ [561, 23, 562, 15, 563, 564, 565, 22, 566, 185, 73, 191, 192, 193, 14, 194, 195, 196, 197, 198, 52, 44, 45, 46, 47, 48, 49, 50, 51, 199, 200, 201, 43, 202, 62, 203, 165, 166, 167, 807, 808, 809, 810, 811, 812, 813, 853, 854, 834, 835, 836, 837, 838, 839, 840, 841, 842, 843, 844, 845, 846, 863] (by decide +kernel) (by decide +kernel)
set_option maxRecDepth 20000 in
theorem gL_law_X7_undo : GoodIn wsL_law (wsV RL 68 RX7 yX7_undo wsX7_undo) := goodIn_app (goodIn_of _ (by decide +kernel)) ggL_law_X7_undo
set_option maxRecDepth 20000 in
theorem ggL_law_X8_undo : GoodIn wsL_law wsX8_undo := goodIn_r _ [570, 254, 99, 101, 814, 815, 816, 817, 818, 819, 820, 821, 822, 823, 824, 825, 826, 827, 828, 829, 830, 831, 832, 833] (by decide +kernel) (by decide +kernel)
set_option maxRecDepth 20000 in
theorem gL_law_X8_undo : GoodIn wsL_law (wsV RL 71 RX8 yX8_undo wsX8_undo) := goodIn_app (goodIn_of _ (by decide +kernel)) ggL_law_X8_undo
set_option maxRecDepth 20000 in
theorem ggL_law_X7_keep : GoodIn wsL_law wsX7_keep := goodIn_r _ [574, 24, 12, 13, 14, 15, 147, 37, 38, 39, 40, 10, 11, 41, 42, 43, 44, 45, 46, 47, 48, 49, 50, 51, 52, 53, 54, 55, 56, 57, 58, 59, 60, 61, 62, 575, 192, 193, 194, 195, 196, 197, 198, 199, 200, 201, 202, 203, 165, 166, 167, 807, 808, 809, 810, 811, 812, 813, 834, 835, 836, 837, 838, 839, 840, 841, 842, 843, 844, 845, 846, 863] (by decide +kernel) (by decide +kernel)
set_option maxRecDepth 20000 in
theorem gL_law_X7_keep : GoodIn wsL_law (wsV RL 72 RX7 yX7_keep wsX7_keep) := goodIn_app (goodIn_of _ (by decide +kernel)) ggL_law_X7_keep
set_option maxRecDepth 20000 in
theorem ggL_law_X8_keep : GoodIn wsL_law wsX8_keep := goodIn_r _ [579, 104, 102, 99, 283, 284, 5, 285, 279, 280, 281, 282, 814, 815, 816, 817, 818, 819, 820, 821, 822, 823, 824, 825, 826, 827, 828, 829, 830, 831, 832, 833] (by decide +kernel) (by decide +kernel)
set_option maxRecDepth 20000 in
theorem gL_law_X8_keep : GoodIn wsL_law (wsV RL 75 RX8 yX8_keep wsX8_keep) := goodIn_app (goodIn_of _ (by decide +kernel)) ggL_law_X8_keep
set_option maxRecDepth 20000 in
theorem ggL_law_X7_restore : GoodIn wsL_law wsX7_restore := goodIn_r _ [583, 24, 23, 15, 147, 181, 182, 183, 22, 184, 185, 73, 72, 13, 14, 186, 187, 188, 189, 190, 38, 39, 40, 10, 11, 41, 42, 43, 44, 45, 46, 47, 48, 49, 50, 51, 52, 53, 54, 55, 56, 57, 58, 59, 60, 61, 62, 191, 192, 193, 194, 195, 196, 197, 198, 199, 200, 201, 202, 203, 165, 166, 167, 575, 807, 808, 809, 810, 811, 812, 813, 834, 835, 836, 837, 838, 839, 840, 841, 842, 843, 844, 845, 846, 853, 854, 863] (by decide +kernel) (by decide +kernel)
set_option maxRecDepth 20000 in
theorem gL_law_X7_restore : GoodIn wsL_law (wsV RL 76 RX7 yX7_restore wsX7_restore) := goodIn_app (goodIn_of _ (by decide +kernel)) ggL_law_X7_restore
set_option maxRecDepth 20000 in
theorem ggL_law_X8_restore : GoodIn wsL_law wsX8_restore := goodIn_r _ [587, 104, 99, 102, 283, 284, 5, 285, 242, 243, 244, 245, 100, 279, 280, 281, 282, 250, 251, 252, 253, 254, 101, 814, 815, 816, 817, 818, 819, 820, 821, 822, 823, 824, 825, 826, 827, 828, 829, 830, 831, 832, 833] (by decide +kernel) (by decide +kernel)
set_option maxRecDepth 20000 in
theorem gL_law_X8_restore : GoodIn wsL_law (wsV RL 79 RX8 yX8_restore wsX8_restore) := goodIn_app (goodIn_of _ (by decide +kernel)) ggL_law_X8_restore
set_option maxRecDepth 20000 in
theorem ggL_law_X7_beat : GoodIn wsL_law wsX7_beat := goodIn_r _ [591, 15, 294, 259, 32, 28, 260, 261, 262, 14, 263, 195, 295, 165, 166, 43, 167, 62, 592, 593, 594, 595, 44, 504, 267, 268, 269, 270, 596, 461, 462, 463, 198, 50, 51, 597, 598, 599, 31, 600, 85, 86, 87, 601, 602, 603, 604, 605, 209, 210, 211, 606, 607, 608, 609, 27, 610, 611, 612, 613, 614, 615, 616, 494, 59, 495, 78, 79, 617, 618, 497, 498, 499, 45, 500, 501, 502, 503, 49, 505, 329, 330, 331, 197, 332, 2, 333, 506, 420, 413, 414, 415, 46, 619, 127, 128, 129, 620, 621, 622, 623, 309, 310, 624, 625, 626, 627, 628, 629, 630, 631, 632, 340, 341, 342, 343, 344, 345, 807, 808, 809, 810, 811, 812, 813, 834, 835, 836, 837, 838, 839, 840, 841, 842, 843, 844, 845, 846, 863, 859, 860, 861, 855, 856, 857, 858] (by decide +kernel) (by decide +kernel)
set_option maxRecDepth 20000 in
theorem gL_law_X7_beat : GoodIn wsL_law (wsV RL 80 RX7 yX7_beat wsX7_beat) := goodIn_app (goodIn_of _ (by decide +kernel)) ggL_law_X7_beat
set_option maxRecDepth 20000 in
theorem ggL_law_X8_beat : GoodIn wsL_law wsX8_beat := goodIn_r _ [636, 99, 275, 276, 277, 5, 278, 279, 280, 281, 282, 283, 284, 285, 637, 638, 639, 640, 315, 316, 317, 318, 543, 544, 545, 546, 110, 111, 527, 528, 529, 530, 354, 355, 356, 357, 547, 548, 549, 550, 515, 516, 517, 518, 383, 384, 385, 386, 387, 388, 389, 390, 286, 287, 288, 289, 425, 426, 427, 428, 535, 536, 537, 538, 551, 552, 553, 641, 642, 643, 644, 645, 646, 647, 648, 649, 650, 651, 652, 814, 815, 816, 817, 818, 819, 820, 821, 822, 823, 824, 825, 826, 827, 828, 829, 830, 831, 832, 833] (by decide +kernel) (by decide +kernel)
set_option maxRecDepth 20000 in
theorem gL_law_X8_beat : GoodIn wsL_law (wsV RL 83 RX8 yX8_beat wsX8_beat) := goodIn_app (goodIn_of _ (by decide +kernel)) ggL_law_X8_beat
set_option maxRecDepth 20000 in
theorem ggL_law_X7_singer : GoodIn wsL_law wsX7_singer := goodIn_r _ [656, 15, 657, 658, 28, 324, 325, 326, 14, 327, 196, 295, 165, 166, 43, 167, 62, 328, 329, 330, 331, 197, 332, 2, 333, 416, 417, 418, 419, 195, 420, 413, 414, 415, 46, 270, 659, 608, 609, 27, 610, 611, 612, 613, 614, 615, 616, 494, 59, 495, 78, 79, 617, 618, 497, 498, 499, 45, 500, 501, 502, 503, 49, 504, 267, 268, 269, 44, 505, 506, 461, 462, 463, 198, 50, 51, 619, 127, 128, 129, 660, 661, 662, 663, 664, 665, 666, 667, 668, 669, 670, 671, 672, 673, 674, 675, 676, 58, 60, 807, 808, 809, 810, 811, 812, 813, 834, 835, 836, 837, 838, 839, 840, 841, 842, 843, 844, 845, 846, 863, 855, 856, 857, 858] (by decide +kernel) (by decide +kernel)
set_option maxRecDepth 20000 in
theorem gL_law_X7_singer : GoodIn wsL_law (wsV RL 84 RX7 yX7_singer wsX7_singer) := goodIn_app (goodIn_of _ (by decide +kernel)) ggL_law_X7_singer
set_option maxRecDepth 20000 in
theorem ggL_law_X8_singer : GoodIn wsL_law wsX8_singer := goodIn_r _ [680, 111, 350, 351, 352, 5, 353, 315, 316, 317, 318, 99, 283, 284, 285, 637, 638, 639, 640, 279, 280, 281, 282, 543, 544, 545, 546, 110, 527, 528, 529, 530, 354, 355, 356, 357, 547, 548, 549, 550, 515, 516, 517, 518, 383, 384, 385, 386, 387, 388, 389, 390, 286, 287, 288, 289, 425, 426, 427, 428, 535, 536, 537, 538, 551, 552, 553, 649, 650, 651, 652, 433, 434, 435, 436, 681, 682, 683, 684, 814, 815, 816, 817, 818, 819, 820, 821, 822, 823, 824, 825, 826, 827, 828, 829, 830, 831, 832, 833] (by decide +kernel) (by decide +kernel)
set_option maxRecDepth 20000 in
theorem gL_law_X8_singer : GoodIn wsL_law (wsV RL 87 RX8 yX8_singer wsX8_singer) := goodIn_app (goodIn_of _ (by decide +kernel)) ggL_law_X8_singer
set_option maxRecDepth 20000 in
theorem ggL_law_X7_does : GoodIn wsL_law wsX7_does := goodIn_r _ [688, 15, 28, 657, 689, 324, 325, 326, 14, 327, 196, 260, 261, 262, 263, 195, 295, 165, 166, 43, 167, 62, 659, 608, 609, 27, 610, 611, 612, 613, 614, 615, 616, 494, 59, 495, 78, 79, 617, 618, 497, 498, 499, 45, 500, 501, 502, 503, 49, 504, 267, 268, 269, 44, 270, 505, 329, 330, 331, 197, 332, 2, 333, 506, 461, 462, 463, 198, 50, 51, 420, 413, 414, 415, 46, 619, 127, 128, 129, 807, 808, 809, 810, 811, 812, 813, 834, 835, 836, 837, 838, 839, 840, 841, 842, 843, 844, 845, 846, 855, 856, 857, 858, 863] (by decide +kernel) (by decide +kernel)
set_option maxRecDepth 20000 in
theorem gL_law_X7_does : GoodIn wsL_law (wsV RL 88 RX7 yX7_does wsX7_does) := goodIn_app (goodIn_of _ (by decide +kernel)) ggL_law_X7_does
set_option maxRecDepth 20000 in
theorem ggL_law_X8_does : GoodIn wsL_law wsX8_does := goodIn_r _ [693, 350, 351, 352, 5, 353, 315, 316, 317, 318, 99, 283, 284, 285, 275, 276, 277, 278, 279, 280, 281, 282, 637, 638, 639, 640, 543, 544, 545, 546, 110, 111, 527, 528, 529, 530, 354, 355, 356, 357, 547, 548, 549, 550, 515, 516, 517, 518, 383, 384, 385, 386, 387, 388, 389, 390, 286, 287, 288, 289, 425, 426, 427, 428, 535, 536, 537, 538, 551, 552, 553, 649, 650, 651, 652, 814, 815, 816, 817, 818, 819, 820, 821, 822, 823, 824, 825, 826, 827, 828, 829, 830, 831, 832, 833] (by decide +kernel) (by decide +kernel)
set_option maxRecDepth 20000 in
theorem gL_law_X8_does : GoodIn wsL_law (wsV RL 91 RX8 yX8_does wsX8_does) := goodIn_app (goodIn_of _ (by decide +kernel)) ggL_law_X8_does
set_option maxRecDepth 20000 in
theorem ggL_law_X7_left : GoodIn wsL_law wsX7_left := goodIn_r _ [697, 15, 28, 657, 698, 324, 325, 326, 14, 327, 196, 260, 261, 262, 263, 195, 295, 165, 166, 43, 167, 62, 659, 608, 609, 27, 610, 611, 612, 613, 614, 615, 616, 494, 59, 495, 78, 79, 617, 618, 497, 498, 499, 45, 500, 501, 502, 503, 49, 504, 267, 268, 269, 44, 270, 505, 329, 330, 331, 197, 332, 2, 333, 506, 461, 462, 463, 198, 50, 51, 420, 413, 414, 415, 46, 619, 127, 128, 129, 807, 808, 809, 810, 811, 812, 813, 834, 835, 836, 837, 838, 839, 840, 841, 842, 843, 844, 845, 846, 855, 856, 857, 858, 863] (by decide +kernel) (by decide +kernel)
set_option maxRecDepth 20000 in
theorem gL_law_X7_left : GoodIn wsL_law (wsV RL 92 RX7 yX7_left wsX7_left) := goodIn_app (goodIn_of _ (by decide +kernel)) ggL_law_X7_left
set_option maxRecDepth 20000 in
theorem ggL_law_X8_left : GoodIn wsL_law wsX8_left := goodIn_r _ [702, 111, 350, 351, 352, 5, 353, 315, 316, 317, 318, 99, 283, 284, 285, 275, 276, 277, 278, 279, 280, 281, 282, 637, 638, 639, 640, 543, 544, 545, 546, 110, 527, 528, 529, 530, 354, 355, 356, 357, 547, 548, 549, 550, 515, 516, 517, 518, 383, 384, 385, 386, 387, 388, 389, 390, 286, 287, 288, 289, 425, 426, 427, 428, 535, 536, 537, 538, 551, 552, 553, 814, 815, 816, 817, 818, 819, 820, 821, 822, 823, 824, 825, 826, 827, 828, 829, 830, 831, 832, 833] (by decide +kernel) (by decide +kernel)
set_option maxRecDepth 20000 in
theorem gL_law_X8_left : GoodIn wsL_law (wsV RL 95 RX8 yX8_left wsX8_left) := goodIn_app (goodIn_of _ (by decide +kernel)) ggL_law_X8_left
set_option maxRecDepth 20000 in
theorem ggL_law_X7_solo : GoodIn wsL_law wsX7_solo := goodIn_r _ [706, 15, 707, 708, 709, 395, 396, 397, 14, 398, 198, 295, 165, 166, 43, 167, 62, 807, 808, 809, 810, 811, 812, 813, 834, 835, 836, 837, 838, 839, 840, 841, 842, 843, 844, 845, 846, 863] (by decide +kernel) (by decide +kernel)
set_option maxRecDepth 20000 in
theorem gL_law_X7_solo : GoodIn wsL_law (wsV RL 96 RX7 yX7_solo wsX7_solo) := goodIn_app (goodIn_of _ (by decide +kernel)) ggL_law_X7_solo
set_option maxRecDepth 20000 in
theorem ggL_law_X8_solo : GoodIn wsL_law wsX8_solo := goodIn_r _ [713, 383, 384, 385, 5, 386, 99, 283, 284, 285, 387, 388, 389, 390, 814, 815, 816, 817, 818, 819, 820, 821, 822, 823, 824, 825, 826, 827, 828, 829, 830, 831, 832, 833] (by decide +kernel) (by decide +kernel)
set_option maxRecDepth 20000 in
theorem gL_law_X8_solo : GoodIn wsL_law (wsV RL 99 RX8 yX8_solo wsX8_solo) := goodIn_app (goodIn_of _ (by decide +kernel)) ggL_law_X8_solo
set_option maxRecDepth 20000 in
theorem ggL_law_X7_fault : GoodIn wsL_law wsX7_fault := goodIn_r _ [717, 32, 15, 28, 264, 175, 2, 176, 597, 598, 599, 31, 600, 85, 86, 87, 601, 602, 603, 604, 605, 209, 210, 43, 211, 62, 606, 165, 166, 167, 607, 608, 609, 27, 610, 611, 612, 613, 614, 615, 616, 494, 59, 495, 78, 79, 617, 618, 497, 498, 14, 499, 45, 500, 501, 502, 503, 49, 504, 267, 268, 269, 44, 270, 505, 329, 330, 331, 197, 332, 333, 506, 461, 462, 463, 198, 50, 51, 420, 413, 414, 415, 46, 619, 127, 128, 129, 620, 621, 622, 623, 309, 310, 624, 718, 719, 720, 721, 722, 723, 724, 725, 726, 727, 728, 729, 730, 731, 732, 593, 594, 595, 733, 340, 341, 342, 343, 344, 345, 734, 735, 736, 737, 738, 739, 807, 808, 809, 810, 811, 812, 813, 859, 860, 861, 834, 835, 836, 837, 838, 839, 840, 841, 842, 843, 844, 845, 846, 855, 856, 857, 858, 863] (by decide +kernel) (by decide +kernel)
set_option maxRecDepth 20000 in
theorem gL_law_X7_fault : GoodIn wsL_law (wsV RL 100 RX7 yX7_fault wsX7_fault) := goodIn_app (goodIn_of _ (by decide +kernel)) ggL_law_X7_fault
set_option maxRecDepth 20000 in
theorem ggL_law_X8_fault : GoodIn wsL_law wsX8_fault := goodIn_r _ [743, 744, 113, 114, 115, 283, 284, 5, 285, 745, 746, 747, 748, 637, 638, 639, 640, 315, 316, 317, 318, 99, 279, 280, 281, 282, 543, 544, 545, 546, 110, 111, 527, 528, 529, 530, 354, 355, 356, 357, 547, 548, 549, 550, 515, 516, 517, 518, 383, 384, 385, 386, 387, 388, 389, 390, 286, 287, 288, 289, 425, 426, 427, 428, 535, 536, 537, 538, 551, 552, 553, 645, 646, 647, 648, 649, 650, 651, 652, 749, 750, 751, 752, 753, 754, 755, 756, 641, 642, 643, 644, 814, 815, 816, 817, 818, 819, 820, 821, 822, 823, 824, 825, 826, 827, 828, 829, 830, 831, 832, 833] (by decide +kernel) (by decide +kernel)
set_option maxRecDepth 20000 in
theorem gL_law_X8_fault : GoodIn wsL_law (wsV RL 103 RX8 yX8_fault wsX8_fault) := goodIn_app (goodIn_of _ (by decide +kernel)) ggL_law_X8_fault
set_option maxRecDepth 20000 in
theorem ggL_law_X7_silentWithout : GoodIn wsL_law wsX7_silentWithout := goodIn_r _ [760, 15, 32, 28, 324, 325, 326, 14, 327, 196, 597, 598, 599, 31, 600, 85, 86, 87, 601, 602, 603, 604, 605, 209, 210, 43, 211, 62, 606, 165, 166, 167, 607, 608, 609, 27, 610, 611, 612, 613, 614, 615, 616, 494, 59, 495, 78, 79, 617, 618, 497, 498, 499, 45, 500, 501, 502, 503, 49, 504, 267, 268, 269, 44, 270, 505, 329, 330, 331, 197, 332, 2, 333, 506, 461, 462, 463, 198, 50, 51, 420, 413, 414, 415, 46, 619, 127, 128, 129, 620, 621, 622, 623, 309, 310, 624, 761, 762, 763, 764, 726, 807, 808, 809, 810, 811, 812, 813, 834, 835, 836, 837, 838, 839, 840, 841, 842, 843, 844, 845, 846, 859, 860, 861, 855, 856, 857, 858, 863] (by decide +kernel) (by decide +kernel)
set_option maxRecDepth 20000 in
theorem gL_law_X7_silentWithout : GoodIn wsL_law (wsV RL 104 RX7 yX7_silentWithout wsX7_silentWithout) := goodIn_app (goodIn_of _ (by decide +kernel)) ggL_law_X7_silentWithout
set_option maxRecDepth 20000 in
theorem ggL_law_X8_silentWithout : GoodIn wsL_law wsX8_silentWithout := goodIn_r _ [768, 350, 351, 352, 5, 353, 315, 316, 317, 318, 99, 283, 284, 285, 637, 638, 639, 640, 279, 280, 281, 282, 543, 544, 545, 546, 110, 111, 527, 528, 529, 530, 354, 355, 356, 357, 547, 548, 549, 550, 515, 516, 517, 518, 383, 384, 385, 386, 387, 388, 389, 390, 286, 287, 288, 289, 425, 426, 427, 428, 535, 536, 537, 538, 551, 552, 553, 645, 646, 647, 648, 649, 650, 651, 652, 814, 815, 816, 817, 818, 819, 820, 821, 822, 823, 824, 825, 826, 827, 828, 829, 830, 831, 832, 833] (by decide +kernel) (by decide +kernel)
set_option maxRecDepth 20000 in
theorem gL_law_X8_silentWithout : GoodIn wsL_law (wsV RL 107 RX8 yX8_silentWithout wsX8_silentWithout) := goodIn_app (goodIn_of _ (by decide +kernel)) ggL_law_X8_silentWithout
set_option maxRecDepth 20000 in
theorem ggL_law_X7_breathFor : GoodIn wsL_law wsX7_breathFor := goodIn_r _ [772, 15, 28, 324, 325, 326, 14, 327, 196, 659, 608, 609, 27, 610, 611, 612, 613, 614, 615, 616, 494, 59, 495, 78, 79, 617, 165, 166, 43, 167, 62, 618, 497, 498, 499, 45, 500, 501, 502, 503, 49, 504, 267, 268, 269, 44, 270, 505, 329, 330, 331, 197, 332, 2, 333, 506, 461, 462, 463, 198, 50, 51, 420, 413, 414, 415, 46, 619, 127, 128, 129, 664, 665, 666, 667, 807, 808, 809, 810, 811, 812, 813, 834, 835, 836, 837, 838, 839, 840, 841, 842, 843, 844, 845, 846, 855, 856, 857, 858, 863] (by decide +kernel) (by decide +kernel)
set_option maxRecDepth 20000 in
theorem gL_law_X7_breathFor : GoodIn wsL_law (wsV RL 108 RX7 yX7_breathFor wsX7_breathFor) := goodIn_app (goodIn_of _ (by decide +kernel)) ggL_law_X7_breathFor
set_option maxRecDepth 20000 in
theorem ggL_law_X8_breathFor : GoodIn wsL_law wsX8_breathFor := goodIn_r _ [776, 99, 350, 351, 352, 5, 353, 315, 316, 317, 318, 283, 284, 285, 354, 355, 356, 357, 279, 280, 281, 282, 543, 544, 545, 546, 110, 111, 527, 528, 529, 530, 547, 548, 549, 550, 515, 516, 517, 518, 383, 384, 385, 386, 387, 388, 389, 390, 286, 287, 288, 289, 425, 426, 427, 428, 535, 536, 537, 538, 551, 552, 553, 681, 682, 683, 684, 649, 650, 651, 652, 814, 815, 816, 817, 818, 819, 820, 821, 822, 823, 824, 825, 826, 827, 828, 829, 830, 831, 832, 833] (by decide +kernel) (by decide +kernel)
set_option maxRecDepth 20000 in
theorem gL_law_X8_breathFor : GoodIn wsL_law (wsV RL 111 RX8 yX8_breathFor wsX8_breathFor) := goodIn_app (goodIn_of _ (by decide +kernel)) ggL_law_X8_breathFor
set_option maxRecDepth 20000 in
theorem ggL_law_X7_count : GoodIn wsL_law wsX7_count := goodIn_r _ [780, 15, 147, 304, 366, 32, 28, 441, 23, 562, 19, 120, 781, 782, 783, 14, 784, 195, 504, 267, 268, 269, 44, 270, 165, 166, 43, 167, 62, 785, 786, 787, 788, 789, 593, 594, 595, 335, 336, 337, 338, 197, 339, 340, 341, 342, 343, 344, 345, 507, 508, 509, 510, 46, 597, 598, 599, 31, 600, 85, 86, 87, 601, 602, 603, 604, 605, 209, 210, 211, 606, 607, 608, 609, 27, 610, 611, 612, 613, 614, 615, 616, 494, 59, 495, 78, 79, 617, 618, 497, 498, 499, 45, 500, 501, 502, 503, 49, 505, 329, 330, 331, 332, 2, 333, 506, 461, 462, 463, 198, 50, 51, 420, 413, 414, 415, 619, 127, 128, 129, 620, 621, 622, 623, 309, 310, 624, 790, 791, 792, 793, 722, 723, 724, 725, 726, 727, 728, 729, 730, 731, 732, 733, 794, 795, 796, 797, 798, 58, 60, 807, 808, 809, 810, 811, 812, 813, 834, 835, 836, 837, 838, 839, 840, 841, 842, 843, 844, 845, 846, 853, 854, 847, 848, 849, 850, 851, 852, 863, 859, 860, 861, 855, 856, 857, 858] (by decide +kernel) (by decide +kernel)
set_option maxRecDepth 20000 in
theorem gL_law_X7_count : GoodIn wsL_law (wsV RL 112 RX7 yX7_count wsX7_count) := goodIn_app (goodIn_of _ (by decide +kernel)) ggL_law_X7_count
set_option maxRecDepth 20000 in
theorem ggL_law_X8_count : GoodIn wsL_law wsX8_count := goodIn_r _ [802, 744, 99, 254, 134, 745, 746, 747, 5, 748, 637, 638, 639, 640, 315, 316, 317, 318, 279, 280, 281, 282, 543, 544, 545, 546, 110, 111, 527, 528, 529, 530, 354, 355, 356, 357, 547, 548, 549, 550, 515, 516, 517, 518, 383, 384, 385, 386, 387, 388, 389, 390, 283, 284, 285, 286, 287, 288, 289, 425, 426, 427, 428, 535, 536, 537, 538, 551, 552, 553, 645, 646, 647, 648, 649, 650, 651, 652, 749, 750, 751, 752, 113, 114, 115, 753, 754, 755, 756, 641, 642, 643, 644, 358, 359, 360, 361, 554, 555, 556, 557, 433, 434, 435, 436, 803, 804, 805, 806, 814, 815, 816, 817, 818, 819, 820, 821, 822, 823, 824, 825, 826, 827, 828, 829, 830, 831, 832, 833] (by decide +kernel) (by decide +kernel)
set_option maxRecDepth 20000 in
theorem gL_law_X8_count : GoodIn wsL_law (wsV RL 115 RX8 yX8_count wsX8_count) := goodIn_app (goodIn_of _ (by decide +kernel)) ggL_law_X8_count
