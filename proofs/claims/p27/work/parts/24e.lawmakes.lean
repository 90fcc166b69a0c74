set_option maxRecDepth 20000 in
theorem ggL_makes_X7_make : GoodIn wsL_makes wsX7_make := goodIn_r _ [5, 6, 7, 8, 9, 10, 11, 12, 13, 14, 15, 16, 17, 18, 19, 20, 21, 22, 23, 24, 25, 26, 27, 28, 29, 30, 31, 32, 33, 34, 35, 36, 37, 38, 39, 40, 41, 42, 43, 44, 45, 46, 47, 48, 49, 50, 51, 52, 53, 54, 55, 56, 57, 58, 59, 60, 61, 62, 63, 64, 65, 66, 67, 68, 69, 70, 71, 72, 73, 74, 75, 76, 77, 78, 79, 80, 81, 82, 83, 84, 85, 86, 87, 88, 89, 90, 91, 92, 93, 94, 95, 96, 97, 98, 99, 100, 101, 102, 103, 104, 105, 106, 107, 108, 109, 110, 111, 112, 113, 114, 115, 116, 117, 118, 119, 120, 121, 122, 123, 124, 4, 125, 126, 127, 128, 129, 130, 131, 132, 133, 134, 135, 136, 137, 138, 139, 140, 141, 142, 143, 144, 145, 146, 147, 148, 149, 150, 151, 152, 153, 154, 155, 156, 157, 158, 159, 160, 161, 162, 308, 309, 310, 311, 312, 313, 314, 315, 316, 317, 318, 319, 320, 321, 322, 323, 324, 325, 326, 327, 328, 329, 330, 331] (by decide +kernel) (by decide +kernel)
set_option maxRecDepth 20000 in
theorem gL_makes_X7_make : GoodIn wsL_makes (wsV RL 40 RX7 yX7_make wsX7_make) := goodIn_app (goodIn_of _ (by decide +kernel)) ggL_makes_X7_make
set_option maxRecDepth 20000 in
theorem ggL_makes_X7_count : GoodIn wsL_makes wsX7_count := goodIn_r _ [166, 6, 8, 167, 168, 169, 170, 171, 9, 172, 173, 174, 175, 176, 177, 20, 178, 57, 152, 84, 85, 86, 34, 87, 66, 67, 33, 68, 52, 179, 180, 181, 182, 183, 184, 185, 186, 187, 105, 106, 107, 59, 108, 109, 110, 111, 112, 113, 114, 159, 160, 161, 162, 36, 188, 189, 190, 191, 192, 193, 194, 195, 196, 197, 198, 199, 200, 79, 80, 81, 201, 202, 203, 204, 205, 206, 207, 208, 209, 210, 211, 212, 142, 49, 143, 213, 214, 215, 216, 145, 146, 147, 35, 148, 149, 150, 151, 39, 153, 121, 122, 123, 124, 4, 125, 154, 89, 90, 91, 60, 40, 41, 155, 156, 157, 158, 217, 133, 134, 135, 218, 219, 220, 221, 126, 127, 222, 223, 224, 225, 226, 227, 228, 229, 230, 231, 232, 233, 234, 235, 236, 237, 238, 239, 240, 241, 242, 243, 48, 50, 308, 309, 310, 311, 312, 313, 314, 315, 316, 317, 318, 319, 320, 321, 322, 323, 324, 325, 326, 327, 328, 329, 332, 333, 334, 335, 336, 337, 330, 338, 339, 340, 341, 342, 343, 344] (by decide +kernel) (by decide +kernel)
set_option maxRecDepth 20000 in
theorem gL_makes_X7_count : GoodIn wsL_makes (wsV RL 9 RX7 yX7_count wsX7_count) := goodIn_app (goodIn_of _ (by decide +kernel)) ggL_makes_X7_count
set_option maxRecDepth 20000 in
theorem ggL_makes_X7_beat : GoodIn wsL_makes wsX7_beat := goodIn_r _ [247, 6, 248, 249, 169, 170, 250, 251, 252, 20, 253, 57, 254, 66, 67, 33, 68, 52, 255, 184, 185, 186, 34, 152, 84, 85, 86, 87, 256, 89, 90, 91, 60, 40, 41, 188, 189, 190, 191, 192, 193, 194, 195, 196, 197, 198, 199, 200, 79, 80, 81, 201, 202, 203, 204, 205, 206, 207, 208, 209, 210, 211, 212, 142, 49, 143, 213, 214, 215, 216, 145, 146, 147, 35, 148, 149, 150, 151, 39, 153, 121, 122, 123, 59, 124, 4, 125, 154, 155, 156, 157, 158, 36, 217, 133, 134, 135, 218, 219, 220, 221, 126, 127, 222, 257, 258, 259, 260, 261, 262, 263, 264, 109, 110, 111, 112, 113, 114, 308, 309, 310, 311, 312, 313, 314, 315, 316, 317, 318, 319, 320, 321, 322, 323, 324, 325, 326, 327, 330, 338, 339, 340, 341, 342, 343, 344] (by decide +kernel) (by decide +kernel)
set_option maxRecDepth 20000 in
theorem gL_makes_X7_beat : GoodIn wsL_makes (wsV RL 19 RX7 yX7_beat wsX7_beat) := goodIn_app (goodIn_of _ (by decide +kernel)) ggL_makes_X7_beat
set_option maxRecDepth 20000 in
theorem ggL_makes_X7_singer : GoodIn wsL_makes wsX7_singer := goodIn_r _ [268, 6, 269, 270, 170, 271, 272, 273, 20, 274, 58, 254, 66, 67, 33, 68, 52, 275, 121, 122, 123, 59, 124, 4, 125, 276, 277, 278, 279, 57, 155, 156, 157, 158, 36, 87, 280, 203, 204, 205, 206, 207, 208, 209, 210, 211, 212, 142, 49, 143, 213, 214, 215, 216, 145, 146, 147, 35, 148, 149, 150, 151, 39, 152, 84, 85, 86, 34, 153, 154, 89, 90, 91, 60, 40, 41, 217, 133, 134, 135, 281, 282, 283, 284, 285, 286, 287, 288, 289, 290, 291, 292, 293, 294, 295, 296, 297, 48, 50, 308, 309, 310, 311, 312, 313, 314, 315, 316, 317, 318, 319, 320, 321, 322, 323, 324, 325, 326, 327, 330, 341, 342, 343, 344] (by decide +kernel) (by decide +kernel)
set_option maxRecDepth 20000 in
theorem gL_makes_X7_singer : GoodIn wsL_makes (wsV RL 15 RX7 yX7_singer wsX7_singer) := goodIn_app (goodIn_of _ (by decide +kernel)) ggL_makes_X7_singer
set_option maxRecDepth 20000 in
theorem ggL_makes_X7_left : GoodIn wsL_makes wsX7_left := goodIn_r _ [301, 6, 170, 269, 302, 271, 272, 273, 20, 274, 58, 250, 251, 252, 253, 57, 254, 66, 67, 33, 68, 52, 280, 203, 204, 205, 206, 207, 208, 209, 210, 211, 212, 142, 49, 143, 213, 214, 215, 216, 145, 146, 147, 35, 148, 149, 150, 151, 39, 152, 84, 85, 86, 34, 87, 153, 121, 122, 123, 59, 124, 4, 125, 154, 89, 90, 91, 60, 40, 41, 155, 156, 157, 158, 36, 217, 133, 134, 135, 308, 309, 310, 311, 312, 313, 314, 315, 316, 317, 318, 319, 320, 321, 322, 323, 324, 325, 326, 327, 341, 342, 343, 344, 330] (by decide +kernel) (by decide +kernel)
set_option maxRecDepth 20000 in
theorem gL_makes_X7_left : GoodIn wsL_makes (wsV RL 28 RX7 yX7_left wsX7_left) := goodIn_app (goodIn_of _ (by decide +kernel)) ggL_makes_X7_left
set_option maxRecDepth 20000 in
theorem ggL_makes_X7_does : GoodIn wsL_makes wsX7_does := goodIn_r _ [306, 6, 170, 269, 307, 271, 272, 273, 20, 274, 58, 250, 251, 252, 253, 57, 254, 66, 67, 33, 68, 52, 280, 203, 204, 205, 206, 207, 208, 209, 210, 211, 212, 142, 49, 143, 213, 214, 215, 216, 145, 146, 147, 35, 148, 149, 150, 151, 39, 152, 84, 85, 86, 34, 87, 153, 121, 122, 123, 59, 124, 4, 125, 154, 89, 90, 91, 60, 40, 41, 155, 156, 157, 158, 36, 217, 133, 134, 135, 308, 309, 310, 311, 312, 313, 314, 315, 316, 317, 318, 319, 320, 321, 322, 323, 324, 325, 326, 327, 341, 342, 343, 344, 330] (by decide +kernel) (by decide +kernel)
set_option maxRecDepth 20000 in
theorem gL_makes_X7_does : GoodIn wsL_makes (wsV RL 25 RX7 yX7_does wsX7_does) := goodIn_app (goodIn_of _ (by decide +kernel)) ggL_makes_X7_does
theorem dL_makes_0 : decode cL_makes 0 = .ok (.aload_n 0, 1) := by decide +kernel
theorem dL_makes_1 : decode cL_makes 1 = .ok (.invokevirtual 40, 3) := by decide +kernel
theorem dL_makes_4 : decode cL_makes 4 = .ok (.istore_n 1, 1) := by decide +kernel
theorem dL_makes_5 : decode cL_makes 5 = .ok (.aload_n 0, 1) := by decide +kernel
theorem dL_makes_6 : decode cL_makes 6 = .ok (.iconst 4, 1) := by decide +kernel
theorem dL_makes_7 : decode cL_makes 7 = .ok (.invokevirtual 9, 3) := by decide +kernel
theorem dL_makes_10 : decode cL_makes 10 = .ok (.istore_n 2, 1) := by decide +kernel
theorem dL_makes_11 : decode cL_makes 11 = .ok (.iload_n 2, 1) := by decide +kernel
theorem dL_makes_12 : decode cL_makes 12 = .ok (.ifCond .eq 11, 3) := by decide +kernel
theorem dL_makes_15 : decode cL_makes 15 = .ok (.aload_n 0, 1) := by decide +kernel
theorem dL_makes_16 : decode cL_makes 16 = .ok (.iconst 0, 1) := by decide +kernel
theorem dL_makes_17 : decode cL_makes 17 = .ok (.invokevirtual 9, 3) := by decide +kernel
theorem dL_makes_20 : decode cL_makes 20 = .ok (.ifCond .ne 15, 3) := by decide +kernel
theorem dL_makes_23 : decode cL_makes 23 = .ok (.iload_n 1, 1) := by decide +kernel
theorem dL_makes_24 : decode cL_makes 24 = .ok (.bipush (-4), 2) := by decide +kernel
theorem dL_makes_26 : decode cL_makes 26 = .ok (.if_icmp .ne 7, 3) := by decide +kernel
theorem dL_makes_29 : decode cL_makes 29 = .ok (.iconst 1, 1) := by decide +kernel
theorem dL_makes_30 : decode cL_makes 30 = .ok (.goto 4, 3) := by decide +kernel
theorem dL_makes_33 : decode cL_makes 33 = .ok (.iconst 0, 1) := by decide +kernel
theorem dL_makes_34 : decode cL_makes 34 = .ok (.ireturn, 1) := by decide +kernel
theorem dL_makes_35 : decode cL_makes 35 = .ok (.iload_n 2, 1) := by decide +kernel
theorem dL_makes_36 : decode cL_makes 36 = .ok (.iconst 2, 1) := by decide +kernel
theorem dL_makes_37 : decode cL_makes 37 = .ok (.idiv, 1) := by decide +kernel
theorem dL_makes_38 : decode cL_makes 38 = .ok (.iconst 1, 1) := by decide +kernel
theorem dL_makes_39 : decode cL_makes 39 = .ok (.if_icmp .ge 7, 3) := by decide +kernel
theorem dL_makes_42 : decode cL_makes 42 = .ok (.iconst 1, 1) := by decide +kernel
theorem dL_makes_43 : decode cL_makes 43 = .ok (.goto 6, 3) := by decide +kernel
theorem dL_makes_46 : decode cL_makes 46 = .ok (.iload_n 2, 1) := by decide +kernel
theorem dL_makes_47 : decode cL_makes 47 = .ok (.iconst 2, 1) := by decide +kernel
theorem dL_makes_48 : decode cL_makes 48 = .ok (.idiv, 1) := by decide +kernel
theorem dL_makes_49 : decode cL_makes 49 = .ok (.istore_n 3, 1) := by decide +kernel
theorem dL_makes_50 : decode cL_makes 50 = .ok (.iconst 0, 1) := by decide +kernel
theorem dL_makes_51 : decode cL_makes 51 = .ok (.istore 4, 2) := by decide +kernel
theorem dL_makes_53 : decode cL_makes 53 = .ok (.iconst 0, 1) := by decide +kernel
theorem dL_makes_54 : decode cL_makes 54 = .ok (.istore 5, 2) := by decide +kernel
theorem dL_makes_56 : decode cL_makes 56 = .ok (.iload 5, 2) := by decide +kernel
theorem dL_makes_58 : decode cL_makes 58 = .ok (.aload_n 0, 1) := by decide +kernel
theorem dL_makes_59 : decode cL_makes 59 = .ok (.iconst 0, 1) := by decide +kernel
theorem dL_makes_60 : decode cL_makes 60 = .ok (.invokevirtual 9, 3) := by decide +kernel
theorem dL_makes_63 : decode cL_makes 63 = .ok (.if_icmp .ge 212, 3) := by decide +kernel
theorem dL_makes_66 : decode cL_makes 66 = .ok (.aload_n 0, 1) := by decide +kernel
theorem dL_makes_67 : decode cL_makes 67 = .ok (.iload 5, 2) := by decide +kernel
theorem dL_makes_69 : decode cL_makes 69 = .ok (.iconst 5, 1) := by decide +kernel
theorem dL_makes_70 : decode cL_makes 70 = .ok (.invokevirtual 19, 3) := by decide +kernel
theorem dL_makes_73 : decode cL_makes 73 = .ok (.istore 6, 2) := by decide +kernel
theorem dL_makes_75 : decode cL_makes 75 = .ok (.iconst 0, 1) := by decide +kernel
theorem dL_makes_76 : decode cL_makes 76 = .ok (.istore 7, 2) := by decide +kernel
theorem dL_makes_78 : decode cL_makes 78 = .ok (.aload_n 0, 1) := by decide +kernel
theorem dL_makes_79 : decode cL_makes 79 = .ok (.bipush 12, 2) := by decide +kernel
theorem dL_makes_81 : decode cL_makes 81 = .ok (.invokevirtual 9, 3) := by decide +kernel
theorem dL_makes_84 : decode cL_makes 84 = .ok (.istore 8, 2) := by decide +kernel
theorem dL_makes_86 : decode cL_makes 86 = .ok (.iload 5, 2) := by decide +kernel
theorem dL_makes_88 : decode cL_makes 88 = .ok (.istore 9, 2) := by decide +kernel
theorem dL_makes_90 : decode cL_makes 90 = .ok (.iload 9, 2) := by decide +kernel
theorem dL_makes_92 : decode cL_makes 92 = .ok (.aload_n 0, 1) := by decide +kernel
theorem dL_makes_93 : decode cL_makes 93 = .ok (.iconst 0, 1) := by decide +kernel
theorem dL_makes_94 : decode cL_makes 94 = .ok (.invokevirtual 9, 3) := by decide +kernel
theorem dL_makes_97 : decode cL_makes 97 = .ok (.if_icmp .ge 60, 3) := by decide +kernel
theorem dL_makes_100 : decode cL_makes 100 = .ok (.iload 8, 2) := by decide +kernel
theorem dL_makes_102 : decode cL_makes 102 = .ok (.ifCond .le 55, 3) := by decide +kernel
theorem dL_makes_105 : decode cL_makes 105 = .ok (.iload 7, 2) := by decide +kernel
theorem dL_makes_107 : decode cL_makes 107 = .ok (.aload_n 0, 1) := by decide +kernel
theorem dL_makes_108 : decode cL_makes 108 = .ok (.iload 9, 2) := by decide +kernel
theorem dL_makes_110 : decode cL_makes 110 = .ok (.iconst 0, 1) := by decide +kernel
theorem dL_makes_111 : decode cL_makes 111 = .ok (.invokevirtual 19, 3) := by decide +kernel
theorem dL_makes_114 : decode cL_makes 114 = .ok (.ifCond .le 13, 3) := by decide +kernel
theorem dL_makes_117 : decode cL_makes 117 = .ok (.aload_n 0, 1) := by decide +kernel
theorem dL_makes_118 : decode cL_makes 118 = .ok (.iload 9, 2) := by decide +kernel
theorem dL_makes_120 : decode cL_makes 120 = .ok (.iconst 1, 1) := by decide +kernel
theorem dL_makes_121 : decode cL_makes 121 = .ok (.invokevirtual 19, 3) := by decide +kernel
theorem dL_makes_124 : decode cL_makes 124 = .ok (.goto 4, 3) := by decide +kernel
theorem dL_makes_127 : decode cL_makes 127 = .ok (.iconst 0, 1) := by decide +kernel
theorem dL_makes_128 : decode cL_makes 128 = .ok (.iadd, 1) := by decide +kernel
theorem dL_makes_129 : decode cL_makes 129 = .ok (.istore 7, 2) := by decide +kernel
theorem dL_makes_131 : decode cL_makes 131 = .ok (.iload 8, 2) := by decide +kernel
theorem dL_makes_133 : decode cL_makes 133 = .ok (.aload_n 0, 1) := by decide +kernel
theorem dL_makes_134 : decode cL_makes 134 = .ok (.iload 9, 2) := by decide +kernel
theorem dL_makes_136 : decode cL_makes 136 = .ok (.iconst 0, 1) := by decide +kernel
theorem dL_makes_137 : decode cL_makes 137 = .ok (.invokevirtual 19, 3) := by decide +kernel
theorem dL_makes_140 : decode cL_makes 140 = .ok (.ifCond .le 7, 3) := by decide +kernel
theorem dL_makes_143 : decode cL_makes 143 = .ok (.iconst 1, 1) := by decide +kernel
theorem dL_makes_144 : decode cL_makes 144 = .ok (.goto 4, 3) := by decide +kernel
theorem dL_makes_147 : decode cL_makes 147 = .ok (.iconst 0, 1) := by decide +kernel
theorem dL_makes_148 : decode cL_makes 148 = .ok (.isub, 1) := by decide +kernel
theorem dL_makes_149 : decode cL_makes 149 = .ok (.istore 8, 2) := by decide +kernel
theorem dL_makes_151 : decode cL_makes 151 = .ok (.iinc 9 1, 3) := by decide +kernel
theorem dL_makes_154 : decode cL_makes 154 = .ok (.goto (-64), 3) := by decide +kernel
theorem dL_makes_157 : decode cL_makes 157 = .ok (.iload 4, 2) := by decide +kernel
theorem dL_makes_159 : decode cL_makes 159 = .ok (.iload 6, 2) := by decide +kernel
theorem dL_makes_161 : decode cL_makes 161 = .ok (.iadd, 1) := by decide +kernel
theorem dL_makes_162 : decode cL_makes 162 = .ok (.istore 4, 2) := by decide +kernel
theorem dL_makes_164 : decode cL_makes 164 = .ok (.iload 6, 2) := by decide +kernel
theorem dL_makes_166 : decode cL_makes 166 = .ok (.iload_n 3, 1) := by decide +kernel
theorem dL_makes_167 : decode cL_makes 167 = .ok (.if_icmp .gt 28, 3) := by decide +kernel
theorem dL_makes_170 : decode cL_makes 170 = .ok (.iload 6, 2) := by decide +kernel
theorem dL_makes_172 : decode cL_makes 172 = .ok (.ifCond .le 25, 3) := by decide +kernel
theorem dL_makes_175 : decode cL_makes 175 = .ok (.aload_n 0, 1) := by decide +kernel
theorem dL_makes_176 : decode cL_makes 176 = .ok (.iload 5, 2) := by decide +kernel
theorem dL_makes_178 : decode cL_makes 178 = .ok (.iconst 3, 1) := by decide +kernel
theorem dL_makes_179 : decode cL_makes 179 = .ok (.invokevirtual 19, 3) := by decide +kernel
theorem dL_makes_182 : decode cL_makes 182 = .ok (.ifCond .eq 13, 3) := by decide +kernel
theorem dL_makes_185 : decode cL_makes 185 = .ok (.aload_n 0, 1) := by decide +kernel
theorem dL_makes_186 : decode cL_makes 186 = .ok (.iload 5, 2) := by decide +kernel
theorem dL_makes_188 : decode cL_makes 188 = .ok (.iconst 4, 1) := by decide +kernel
theorem dL_makes_189 : decode cL_makes 189 = .ok (.invokevirtual 19, 3) := by decide +kernel
theorem dL_makes_192 : decode cL_makes 192 = .ok (.ifCond .lt 5, 3) := by decide +kernel
theorem dL_makes_195 : decode cL_makes 195 = .ok (.iconst 0, 1) := by decide +kernel
theorem dL_makes_196 : decode cL_makes 196 = .ok (.ireturn, 1) := by decide +kernel
theorem dL_makes_197 : decode cL_makes 197 = .ok (.iconst 0, 1) := by decide +kernel
theorem dL_makes_198 : decode cL_makes 198 = .ok (.istore 9, 2) := by decide +kernel
theorem dL_makes_200 : decode cL_makes 200 = .ok (.iload 9, 2) := by decide +kernel
theorem dL_makes_202 : decode cL_makes 202 = .ok (.aload_n 0, 1) := by decide +kernel
theorem dL_makes_203 : decode cL_makes 203 = .ok (.iconst 3, 1) := by decide +kernel
theorem dL_makes_204 : decode cL_makes 204 = .ok (.invokevirtual 9, 3) := by decide +kernel
theorem dL_makes_207 : decode cL_makes 207 = .ok (.if_icmp .ge 62, 3) := by decide +kernel
theorem dL_makes_210 : decode cL_makes 210 = .ok (.iload 6, 2) := by decide +kernel
theorem dL_makes_212 : decode cL_makes 212 = .ok (.ifCond .le 57, 3) := by decide +kernel
theorem dL_makes_215 : decode cL_makes 215 = .ok (.iload 5, 2) := by decide +kernel
theorem dL_makes_217 : decode cL_makes 217 = .ok (.ifCond .ne 13, 3) := by decide +kernel
theorem dL_makes_220 : decode cL_makes 220 = .ok (.aload_n 0, 1) := by decide +kernel
theorem dL_makes_221 : decode cL_makes 221 = .ok (.iload 9, 2) := by decide +kernel
theorem dL_makes_223 : decode cL_makes 223 = .ok (.iconst 0, 1) := by decide +kernel
theorem dL_makes_224 : decode cL_makes 224 = .ok (.invokevirtual 15, 3) := by decide +kernel
theorem dL_makes_227 : decode cL_makes 227 = .ok (.goto 13, 3) := by decide +kernel
theorem dL_makes_230 : decode cL_makes 230 = .ok (.aload_n 0, 1) := by decide +kernel
theorem dL_makes_231 : decode cL_makes 231 = .ok (.iload 9, 2) := by decide +kernel
theorem dL_makes_233 : decode cL_makes 233 = .ok (.iload 5, 2) := by decide +kernel
theorem dL_makes_235 : decode cL_makes 235 = .ok (.iconst 1, 1) := by decide +kernel
theorem dL_makes_236 : decode cL_makes 236 = .ok (.isub, 1) := by decide +kernel
theorem dL_makes_237 : decode cL_makes 237 = .ok (.invokevirtual 28, 3) := by decide +kernel
theorem dL_makes_240 : decode cL_makes 240 = .ok (.istore 10, 2) := by decide +kernel
theorem dL_makes_242 : decode cL_makes 242 = .ok (.aload_n 0, 1) := by decide +kernel
theorem dL_makes_243 : decode cL_makes 243 = .ok (.iload 9, 2) := by decide +kernel
theorem dL_makes_245 : decode cL_makes 245 = .ok (.iload 5, 2) := by decide +kernel
theorem dL_makes_247 : decode cL_makes 247 = .ok (.invokevirtual 25, 3) := by decide +kernel
theorem dL_makes_250 : decode cL_makes 250 = .ok (.iconst 1, 1) := by decide +kernel
theorem dL_makes_251 : decode cL_makes 251 = .ok (.if_icmp .ne 12, 3) := by decide +kernel
theorem dL_makes_254 : decode cL_makes 254 = .ok (.iload 10, 2) := by decide +kernel
theorem dL_makes_256 : decode cL_makes 256 = .ok (.iload 7, 2) := by decide +kernel
theorem dL_makes_258 : decode cL_makes 258 = .ok (.if_icmp .lt 5, 3) := by decide +kernel
theorem dL_makes_261 : decode cL_makes 261 = .ok (.iconst 0, 1) := by decide +kernel
theorem dL_makes_262 : decode cL_makes 262 = .ok (.ireturn, 1) := by decide +kernel
theorem dL_makes_263 : decode cL_makes 263 = .ok (.iinc 9 1, 3) := by decide +kernel
theorem dL_makes_266 : decode cL_makes 266 = .ok (.goto (-66), 3) := by decide +kernel
theorem dL_makes_269 : decode cL_makes 269 = .ok (.iinc 5 1, 3) := by decide +kernel
theorem dL_makes_272 : decode cL_makes 272 = .ok (.goto (-216), 3) := by decide +kernel
theorem dL_makes_275 : decode cL_makes 275 = .ok (.iload_n 1, 1) := by decide +kernel
theorem dL_makes_276 : decode cL_makes 276 = .ok (.iload 4, 2) := by decide +kernel
theorem dL_makes_278 : decode cL_makes 278 = .ok (.if_icmp .ne 27, 3) := by decide +kernel
theorem dL_makes_281 : decode cL_makes 281 = .ok (.aload_n 0, 1) := by decide +kernel
theorem dL_makes_282 : decode cL_makes 282 = .ok (.bipush 6, 2) := by decide +kernel
theorem dL_makes_284 : decode cL_makes 284 = .ok (.invokevirtual 9, 3) := by decide +kernel
theorem dL_makes_287 : decode cL_makes 287 = .ok (.iload 4, 2) := by decide +kernel
theorem dL_makes_289 : decode cL_makes 289 = .ok (.if_icmp .ne 16, 3) := by decide +kernel
theorem dL_makes_292 : decode cL_makes 292 = .ok (.aload_n 0, 1) := by decide +kernel
theorem dL_makes_293 : decode cL_makes 293 = .ok (.bipush 11, 2) := by decide +kernel
theorem dL_makes_295 : decode cL_makes 295 = .ok (.invokevirtual 9, 3) := by decide +kernel
theorem dL_makes_298 : decode cL_makes 298 = .ok (.ifCond .ne 7, 3) := by decide +kernel
theorem dL_makes_301 : decode cL_makes 301 = .ok (.iconst 1, 1) := by decide +kernel
theorem dL_makes_302 : decode cL_makes 302 = .ok (.goto 4, 3) := by decide +kernel
theorem dL_makes_305 : decode cL_makes 305 = .ok (.iconst 0, 1) := by decide +kernel
theorem dL_makes_306 : decode cL_makes 306 = .ok (.ireturn, 1) := by decide +kernel
