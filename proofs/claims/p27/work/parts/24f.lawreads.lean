set_option maxRecDepth 20000 in
theorem ggL_reads_X7_clearText : GoodIn wsL_reads wsX7_clearText := goodIn_r _ [6, 7, 8, 287, 288, 289, 290, 291, 292, 293, 294, 295, 296, 297, 298, 299] (by decide +kernel) (by decide +kernel)
set_option maxRecDepth 20000 in
theorem gL_reads_X7_clearText : GoodIn wsL_reads (wsV RL 61 RX7 yX7_clearText wsX7_clearText) := goodIn_app (goodIn_of _ (by decide +kernel)) ggL_reads_X7_clearText
set_option maxRecDepth 20000 in
theorem ggL_reads_X7_read : GoodIn wsL_reads wsX7_read := goodIn_r _ [12, 7, 13, 14, 15, 16, 17, 18, 19, 20, 21, 22, 23, 24, 25, 26, 27, 28, 29, 30, 31, 32, 33, 34, 35, 36, 37, 38, 39, 40, 41, 42, 43, 44, 45, 46, 47, 48, 5, 49, 50, 51, 52, 53, 54, 55, 56, 57, 58, 59, 60, 61, 62, 63, 64, 65, 66, 67, 68, 69, 70, 71, 72, 73, 74, 75, 76, 77, 78, 79, 80, 81, 82, 83, 84, 85, 86, 87, 88, 89, 90, 91, 92, 1, 93, 94, 95, 96, 97, 98, 99, 100, 101, 102, 103, 104, 105, 106, 107, 108, 109, 110, 111, 112, 113, 114, 115, 116, 117, 118, 119, 120, 121, 122, 123, 124, 125, 287, 288, 289, 290, 291, 292, 293, 300, 301, 302, 303, 304, 305, 306, 307, 308, 309, 310, 311, 312, 294, 295, 296, 297, 298, 299, 313, 314, 315] (by decide +kernel) (by decide +kernel)
set_option maxRecDepth 20000 in
theorem gL_reads_X7_read : GoodIn wsL_reads (wsV RL 64 RX7 yX7_read wsX7_read) := goodIn_app (goodIn_of _ (by decide +kernel)) ggL_reads_X7_read
set_option maxRecDepth 20000 in
theorem ggL_reads_L_low : GoodIn wsL_reads wsL_low := goodIn_r _ [129, 130] (by decide +kernel) (by decide +kernel)
set_option maxRecDepth 20000 in
theorem gL_reads_L_low : GoodIn wsL_reads (va_wsS RL 67 yL_low wsL_low) := goodIn_app (goodIn_of _ (by decide +kernel)) ggL_reads_L_low
set_option maxRecDepth 20000 in
theorem ggL_reads_X7_type : GoodIn wsL_reads wsX7_type := goodIn_r _ [134, 7, 8, 135, 136, 137, 19, 138, 21, 34, 139, 123, 124, 38, 125, 40, 287, 288, 289, 290, 291, 292, 293, 294, 295, 296, 297, 298, 299, 313] (by decide +kernel) (by decide +kernel)
set_option maxRecDepth 20000 in
theorem gL_reads_X7_type : GoodIn wsL_reads (wsV RL 57 RX7 yX7_type wsX7_type) := goodIn_app (goodIn_of _ (by decide +kernel)) ggL_reads_X7_type
set_option maxRecDepth 20000 in
theorem ggL_reads_L_digits : GoodIn wsL_reads wsL_digits := goodIn_r _ [142, 131, 132, 133, 5, 134, 7, 8, 135, 136, 137, 19, 138, 21, 34, 139, 123, 124, 38, 125, 40, 287, 288, 289, 290, 291, 292, 293, 294, 295, 296, 297, 298, 299, 313] (by decide +kernel) (by decide +kernel)
set_option maxRecDepth 20000 in
theorem gL_reads_L_digits : GoodIn wsL_reads (va_wsS RL 70 yL_digits wsL_digits) := goodIn_app (goodIn_of _ (by decide +kernel)) ggL_reads_L_digits
set_option maxRecDepth 20000 in
theorem ggL_reads_X7_count : GoodIn wsL_reads wsX7_count := goodIn_r _ [146, 14, 15, 147, 148, 149, 150, 151, 13, 152, 7, 8, 153, 154, 155, 63, 156, 97, 157, 158, 159, 160, 76, 161, 36, 37, 38, 39, 40, 162, 163, 164, 165, 166, 167, 168, 169, 170, 171, 172, 173, 99, 174, 175, 176, 177, 178, 179, 180, 181, 182, 183, 184, 78, 185, 186, 187, 188, 189, 190, 191, 192, 193, 194, 195, 196, 197, 111, 112, 113, 198, 199, 200, 201, 202, 203, 204, 205, 206, 207, 208, 209, 210, 91, 211, 212, 213, 214, 215, 216, 217, 218, 77, 219, 220, 221, 222, 81, 223, 224, 225, 226, 227, 5, 228, 229, 230, 231, 232, 100, 82, 83, 233, 234, 235, 236, 237, 123, 124, 125, 238, 239, 240, 241, 242, 243, 244, 245, 246, 247, 248, 249, 250, 251, 252, 253, 254, 255, 256, 257, 258, 259, 260, 261, 262, 263, 264, 265, 90, 92, 287, 288, 289, 290, 291, 292, 293, 300, 301, 302, 303, 304, 305, 306, 307, 308, 309, 310, 311, 312, 314, 315, 294, 295, 296, 297, 298, 299, 313, 316, 317, 318, 319, 320, 321, 322] (by decide +kernel) (by decide +kernel)
set_option maxRecDepth 20000 in
theorem gL_reads_X7_count : GoodIn wsL_reads (wsV RL 9 RX7 yX7_count wsX7_count) := goodIn_app (goodIn_of _ (by decide +kernel)) ggL_reads_X7_count
set_option maxRecDepth 20000 in
theorem ggL_reads_X7_beat : GoodIn wsL_reads wsX7_beat := goodIn_r _ [269, 14, 270, 271, 149, 150, 272, 273, 274, 63, 275, 97, 276, 36, 37, 38, 39, 40, 277, 167, 168, 169, 76, 157, 158, 159, 160, 161, 278, 230, 231, 232, 100, 82, 83, 185, 186, 187, 188, 189, 190, 191, 192, 193, 194, 195, 196, 197, 111, 112, 113, 198, 199, 200, 201, 202, 203, 204, 205, 206, 207, 208, 209, 210, 91, 211, 212, 213, 214, 215, 216, 217, 218, 77, 219, 220, 221, 222, 81, 223, 224, 225, 226, 99, 227, 5, 228, 229, 233, 234, 235, 236, 78, 237, 123, 124, 125, 238, 239, 240, 241, 242, 243, 244, 279, 280, 281, 282, 283, 284, 285, 286, 175, 176, 177, 178, 179, 180, 287, 288, 289, 290, 291, 292, 293, 300, 301, 302, 303, 304, 305, 306, 307, 308, 309, 310, 311, 312, 313, 316, 317, 318, 319, 320, 321, 322] (by decide +kernel) (by decide +kernel)
set_option maxRecDepth 20000 in
theorem gL_reads_X7_beat : GoodIn wsL_reads (wsV RL 19 RX7 yX7_beat wsX7_beat) := goodIn_app (goodIn_of _ (by decide +kernel)) ggL_reads_X7_beat
theorem dL_reads_0 : decode cL_reads 0 = .ok (.aload_n 0, 1) := by decide +kernel
theorem dL_reads_1 : decode cL_reads 1 = .ok (.invokevirtual 61, 3) := by decide +kernel
theorem dL_reads_4 : decode cL_reads 4 = .ok (.pop, 1) := by decide +kernel
theorem dL_reads_5 : decode cL_reads 5 = .ok (.aload_n 0, 1) := by decide +kernel
theorem dL_reads_6 : decode cL_reads 6 = .ok (.invokevirtual 64, 3) := by decide +kernel
theorem dL_reads_9 : decode cL_reads 9 = .ok (.bipush (-100), 2) := by decide +kernel
theorem dL_reads_11 : decode cL_reads 11 = .ok (.if_icmp .eq 5, 3) := by decide +kernel
theorem dL_reads_14 : decode cL_reads 14 = .ok (.iconst 0, 1) := by decide +kernel
theorem dL_reads_15 : decode cL_reads 15 = .ok (.ireturn, 1) := by decide +kernel
theorem dL_reads_16 : decode cL_reads 16 = .ok (.iconst 1, 1) := by decide +kernel
theorem dL_reads_17 : decode cL_reads 17 = .ok (.iload_n 1, 1) := by decide +kernel
theorem dL_reads_18 : decode cL_reads 18 = .ok (.bipush 7, 2) := by decide +kernel
theorem dL_reads_20 : decode cL_reads 20 = .ok (.invokestatic 67, 3) := by decide +kernel
theorem dL_reads_23 : decode cL_reads 23 = .ok (.iadd, 1) := by decide +kernel
theorem dL_reads_24 : decode cL_reads 24 = .ok (.istore_n 3, 1) := by decide +kernel
theorem dL_reads_25 : decode cL_reads 25 = .ok (.bipush 64, 2) := by decide +kernel
theorem dL_reads_27 : decode cL_reads 27 = .ok (.newarray .int, 2) := by decide +kernel
theorem dL_reads_29 : decode cL_reads 29 = .ok (.astore 4, 2) := by decide +kernel
theorem dL_reads_31 : decode cL_reads 31 = .ok (.bipush 64, 2) := by decide +kernel
theorem dL_reads_33 : decode cL_reads 33 = .ok (.newarray .int, 2) := by decide +kernel
theorem dL_reads_35 : decode cL_reads 35 = .ok (.astore 5, 2) := by decide +kernel
theorem dL_reads_37 : decode cL_reads 37 = .ok (.iconst 0, 1) := by decide +kernel
theorem dL_reads_38 : decode cL_reads 38 = .ok (.istore 6, 2) := by decide +kernel
theorem dL_reads_40 : decode cL_reads 40 = .ok (.iconst 0, 1) := by decide +kernel
theorem dL_reads_41 : decode cL_reads 41 = .ok (.istore 7, 2) := by decide +kernel
theorem dL_reads_43 : decode cL_reads 43 = .ok (.iconst 0, 1) := by decide +kernel
theorem dL_reads_44 : decode cL_reads 44 = .ok (.istore 8, 2) := by decide +kernel
theorem dL_reads_46 : decode cL_reads 46 = .ok (.iload 8, 2) := by decide +kernel
theorem dL_reads_48 : decode cL_reads 48 = .ok (.iload_n 3, 1) := by decide +kernel
theorem dL_reads_49 : decode cL_reads 49 = .ok (.if_icmp .ge 205, 3) := by decide +kernel
theorem dL_reads_52 : decode cL_reads 52 = .ok (.iload_n 1, 1) := by decide +kernel
theorem dL_reads_53 : decode cL_reads 53 = .ok (.iconst 2, 1) := by decide +kernel
theorem dL_reads_54 : decode cL_reads 54 = .ok (.iload 8, 2) := by decide +kernel
theorem dL_reads_56 : decode cL_reads 56 = .ok (.iadd, 1) := by decide +kernel
theorem dL_reads_57 : decode cL_reads 57 = .ok (.ishr, 1) := by decide +kernel
theorem dL_reads_58 : decode cL_reads 58 = .ok (.iconst 3, 1) := by decide +kernel
theorem dL_reads_59 : decode cL_reads 59 = .ok (.invokestatic 67, 3) := by decide +kernel
theorem dL_reads_62 : decode cL_reads 62 = .ok (.istore 9, 2) := by decide +kernel
theorem dL_reads_64 : decode cL_reads 64 = .ok (.iload_n 2, 1) := by decide +kernel
theorem dL_reads_65 : decode cL_reads 65 = .ok (.iload 8, 2) := by decide +kernel
theorem dL_reads_67 : decode cL_reads 67 = .ok (.ishr, 1) := by decide +kernel
theorem dL_reads_68 : decode cL_reads 68 = .ok (.bipush 6, 2) := by decide +kernel
theorem dL_reads_70 : decode cL_reads 70 = .ok (.invokestatic 67, 3) := by decide +kernel
theorem dL_reads_73 : decode cL_reads 73 = .ok (.istore 10, 2) := by decide +kernel
theorem dL_reads_75 : decode cL_reads 75 = .ok (.iload_n 2, 1) := by decide +kernel
theorem dL_reads_76 : decode cL_reads 76 = .ok (.iconst 3, 1) := by decide +kernel
theorem dL_reads_77 : decode cL_reads 77 = .ok (.iload 8, 2) := by decide +kernel
theorem dL_reads_79 : decode cL_reads 79 = .ok (.iadd, 1) := by decide +kernel
theorem dL_reads_80 : decode cL_reads 80 = .ok (.ishr, 1) := by decide +kernel
theorem dL_reads_81 : decode cL_reads 81 = .ok (.iconst 4, 1) := by decide +kernel
theorem dL_reads_82 : decode cL_reads 82 = .ok (.invokestatic 67, 3) := by decide +kernel
theorem dL_reads_85 : decode cL_reads 85 = .ok (.ifCond .ne 19, 3) := by decide +kernel
theorem dL_reads_88 : decode cL_reads 88 = .ok (.iconst 2, 1) := by decide +kernel
theorem dL_reads_89 : decode cL_reads 89 = .ok (.iload_n 1, 1) := by decide +kernel
theorem dL_reads_90 : decode cL_reads 90 = .ok (.iconst 4, 1) := by decide +kernel
theorem dL_reads_91 : decode cL_reads 91 = .ok (.iload 8, 2) := by decide +kernel
theorem dL_reads_93 : decode cL_reads 93 = .ok (.iadd, 1) := by decide +kernel
theorem dL_reads_94 : decode cL_reads 94 = .ok (.ishr, 1) := by decide +kernel
theorem dL_reads_95 : decode cL_reads 95 = .ok (.bipush 8, 2) := by decide +kernel
theorem dL_reads_97 : decode cL_reads 97 = .ok (.invokestatic 67, 3) := by decide +kernel
theorem dL_reads_100 : decode cL_reads 100 = .ok (.iadd, 1) := by decide +kernel
theorem dL_reads_101 : decode cL_reads 101 = .ok (.goto 4, 3) := by decide +kernel
theorem dL_reads_104 : decode cL_reads 104 = .ok (.iconst 1, 1) := by decide +kernel
theorem dL_reads_105 : decode cL_reads 105 = .ok (.istore 11, 2) := by decide +kernel
theorem dL_reads_107 : decode cL_reads 107 = .ok (.aload_n 0, 1) := by decide +kernel
theorem dL_reads_108 : decode cL_reads 108 = .ok (.iload 9, 2) := by decide +kernel
theorem dL_reads_110 : decode cL_reads 110 = .ok (.ifCond .ne 8, 3) := by decide +kernel
theorem dL_reads_113 : decode cL_reads 113 = .ok (.bipush 46, 2) := by decide +kernel
theorem dL_reads_115 : decode cL_reads 115 = .ok (.goto 16, 3) := by decide +kernel
theorem dL_reads_118 : decode cL_reads 118 = .ok (.iload 9, 2) := by decide +kernel
theorem dL_reads_120 : decode cL_reads 120 = .ok (.iconst 1, 1) := by decide +kernel
theorem dL_reads_121 : decode cL_reads 121 = .ok (.if_icmp .ne 8, 3) := by decide +kernel
theorem dL_reads_124 : decode cL_reads 124 = .ok (.bipush 45, 2) := by decide +kernel
theorem dL_reads_126 : decode cL_reads 126 = .ok (.goto 5, 3) := by decide +kernel
theorem dL_reads_129 : decode cL_reads 129 = .ok (.bipush 111, 2) := by decide +kernel
theorem dL_reads_131 : decode cL_reads 131 = .ok (.invokevirtual 57, 3) := by decide +kernel
theorem dL_reads_134 : decode cL_reads 134 = .ok (.istore 7, 2) := by decide +kernel
theorem dL_reads_136 : decode cL_reads 136 = .ok (.iload 9, 2) := by decide +kernel
theorem dL_reads_138 : decode cL_reads 138 = .ok (.ifCond .le 20, 3) := by decide +kernel
theorem dL_reads_141 : decode cL_reads 141 = .ok (.iload 10, 2) := by decide +kernel
theorem dL_reads_143 : decode cL_reads 143 = .ok (.ifCond .le 15, 3) := by decide +kernel
theorem dL_reads_146 : decode cL_reads 146 = .ok (.aload_n 0, 1) := by decide +kernel
theorem dL_reads_147 : decode cL_reads 147 = .ok (.bipush 48, 2) := by decide +kernel
theorem dL_reads_149 : decode cL_reads 149 = .ok (.iload 10, 2) := by decide +kernel
theorem dL_reads_151 : decode cL_reads 151 = .ok (.iadd, 1) := by decide +kernel
theorem dL_reads_152 : decode cL_reads 152 = .ok (.i2c, 1) := by decide +kernel
theorem dL_reads_153 : decode cL_reads 153 = .ok (.invokevirtual 57, 3) := by decide +kernel
theorem dL_reads_156 : decode cL_reads 156 = .ok (.istore 7, 2) := by decide +kernel
theorem dL_reads_158 : decode cL_reads 158 = .ok (.iload 11, 2) := by decide +kernel
theorem dL_reads_160 : decode cL_reads 160 = .ok (.iconst 1, 1) := by decide +kernel
theorem dL_reads_161 : decode cL_reads 161 = .ok (.if_icmp .le 33, 3) := by decide +kernel
theorem dL_reads_164 : decode cL_reads 164 = .ok (.aload_n 0, 1) := by decide +kernel
theorem dL_reads_165 : decode cL_reads 165 = .ok (.bipush 120, 2) := by decide +kernel
theorem dL_reads_167 : decode cL_reads 167 = .ok (.invokevirtual 57, 3) := by decide +kernel
theorem dL_reads_170 : decode cL_reads 170 = .ok (.istore 7, 2) := by decide +kernel
theorem dL_reads_172 : decode cL_reads 172 = .ok (.aload_n 0, 1) := by decide +kernel
theorem dL_reads_173 : decode cL_reads 173 = .ok (.invokevirtual 64, 3) := by decide +kernel
theorem dL_reads_176 : decode cL_reads 176 = .ok (.bipush (-100), 2) := by decide +kernel
theorem dL_reads_178 : decode cL_reads 178 = .ok (.iload 7, 2) := by decide +kernel
theorem dL_reads_180 : decode cL_reads 180 = .ok (.isub, 1) := by decide +kernel
theorem dL_reads_181 : decode cL_reads 181 = .ok (.if_icmp .eq 5, 3) := by decide +kernel
theorem dL_reads_184 : decode cL_reads 184 = .ok (.iconst 0, 1) := by decide +kernel
theorem dL_reads_185 : decode cL_reads 185 = .ok (.ireturn, 1) := by decide +kernel
theorem dL_reads_186 : decode cL_reads 186 = .ok (.aload_n 0, 1) := by decide +kernel
theorem dL_reads_187 : decode cL_reads 187 = .ok (.iload 11, 2) := by decide +kernel
theorem dL_reads_189 : decode cL_reads 189 = .ok (.invokestatic 70, 3) := by decide +kernel
theorem dL_reads_192 : decode cL_reads 192 = .ok (.istore 7, 2) := by decide +kernel
theorem dL_reads_194 : decode cL_reads 194 = .ok (.iconst 0, 1) := by decide +kernel
theorem dL_reads_195 : decode cL_reads 195 = .ok (.istore 12, 2) := by decide +kernel
theorem dL_reads_197 : decode cL_reads 197 = .ok (.iload 12, 2) := by decide +kernel
theorem dL_reads_199 : decode cL_reads 199 = .ok (.iload 11, 2) := by decide +kernel
theorem dL_reads_201 : decode cL_reads 201 = .ok (.if_icmp .ge 47, 3) := by decide +kernel
theorem dL_reads_204 : decode cL_reads 204 = .ok (.iload 6, 2) := by decide +kernel
theorem dL_reads_206 : decode cL_reads 206 = .ok (.bipush 64, 2) := by decide +kernel
theorem dL_reads_208 : decode cL_reads 208 = .ok (.if_icmp .ge 40, 3) := by decide +kernel
theorem dL_reads_211 : decode cL_reads 211 = .ok (.aload 4, 2) := by decide +kernel
theorem dL_reads_213 : decode cL_reads 213 = .ok (.iload 6, 2) := by decide +kernel
theorem dL_reads_215 : decode cL_reads 215 = .ok (.iload 9, 2) := by decide +kernel
theorem dL_reads_217 : decode cL_reads 217 = .ok (.iastore, 1) := by decide +kernel
theorem dL_reads_218 : decode cL_reads 218 = .ok (.aload 5, 2) := by decide +kernel
theorem dL_reads_220 : decode cL_reads 220 = .ok (.iload 6, 2) := by decide +kernel
theorem dL_reads_222 : decode cL_reads 222 = .ok (.iload 9, 2) := by decide +kernel
theorem dL_reads_224 : decode cL_reads 224 = .ok (.ifCond .le 13, 3) := by decide +kernel
theorem dL_reads_227 : decode cL_reads 227 = .ok (.iload 10, 2) := by decide +kernel
theorem dL_reads_229 : decode cL_reads 229 = .ok (.ifCond .le 8, 3) := by decide +kernel
theorem dL_reads_232 : decode cL_reads 232 = .ok (.iload 10, 2) := by decide +kernel
theorem dL_reads_234 : decode cL_reads 234 = .ok (.goto 4, 3) := by decide +kernel
theorem dL_reads_237 : decode cL_reads 237 = .ok (.iconst 2, 1) := by decide +kernel
theorem dL_reads_238 : decode cL_reads 238 = .ok (.iastore, 1) := by decide +kernel
theorem dL_reads_239 : decode cL_reads 239 = .ok (.iinc 6 1, 3) := by decide +kernel
theorem dL_reads_242 : decode cL_reads 242 = .ok (.iinc 12 1, 3) := by decide +kernel
theorem dL_reads_245 : decode cL_reads 245 = .ok (.goto (-48), 3) := by decide +kernel
theorem dL_reads_248 : decode cL_reads 248 = .ok (.iinc 8 1, 3) := by decide +kernel
theorem dL_reads_251 : decode cL_reads 251 = .ok (.goto (-205), 3) := by decide +kernel
theorem dL_reads_254 : decode cL_reads 254 = .ok (.iload 6, 2) := by decide +kernel
theorem dL_reads_256 : decode cL_reads 256 = .ok (.bipush 64, 2) := by decide +kernel
theorem dL_reads_258 : decode cL_reads 258 = .ok (.if_icmp .ne 5, 3) := by decide +kernel
theorem dL_reads_261 : decode cL_reads 261 = .ok (.iconst 1, 1) := by decide +kernel
theorem dL_reads_262 : decode cL_reads 262 = .ok (.ireturn, 1) := by decide +kernel
theorem dL_reads_263 : decode cL_reads 263 = .ok (.aload_n 0, 1) := by decide +kernel
theorem dL_reads_264 : decode cL_reads 264 = .ok (.invokevirtual 64, 3) := by decide +kernel
theorem dL_reads_267 : decode cL_reads 267 = .ok (.iload 6, 2) := by decide +kernel
theorem dL_reads_269 : decode cL_reads 269 = .ok (.if_icmp .ne 30, 3) := by decide +kernel
theorem dL_reads_272 : decode cL_reads 272 = .ok (.aload_n 0, 1) := by decide +kernel
theorem dL_reads_273 : decode cL_reads 273 = .ok (.iconst 0, 1) := by decide +kernel
theorem dL_reads_274 : decode cL_reads 274 = .ok (.invokevirtual 9, 3) := by decide +kernel
theorem dL_reads_277 : decode cL_reads 277 = .ok (.iload 6, 2) := by decide +kernel
theorem dL_reads_279 : decode cL_reads 279 = .ok (.if_icmp .ne 20, 3) := by decide +kernel
theorem dL_reads_282 : decode cL_reads 282 = .ok (.aload_n 0, 1) := by decide +kernel
theorem dL_reads_283 : decode cL_reads 283 = .ok (.iconst 5, 1) := by decide +kernel
theorem dL_reads_284 : decode cL_reads 284 = .ok (.invokevirtual 9, 3) := by decide +kernel
theorem dL_reads_287 : decode cL_reads 287 = .ok (.ifCond .ne 12, 3) := by decide +kernel
theorem dL_reads_290 : decode cL_reads 290 = .ok (.aload_n 0, 1) := by decide +kernel
theorem dL_reads_291 : decode cL_reads 291 = .ok (.bipush 6, 2) := by decide +kernel
theorem dL_reads_293 : decode cL_reads 293 = .ok (.invokevirtual 9, 3) := by decide +kernel
theorem dL_reads_296 : decode cL_reads 296 = .ok (.ifCond .eq 5, 3) := by decide +kernel
theorem dL_reads_299 : decode cL_reads 299 = .ok (.iconst 0, 1) := by decide +kernel
theorem dL_reads_300 : decode cL_reads 300 = .ok (.ireturn, 1) := by decide +kernel
theorem dL_reads_301 : decode cL_reads 301 = .ok (.iconst 0, 1) := by decide +kernel
theorem dL_reads_302 : decode cL_reads 302 = .ok (.istore 8, 2) := by decide +kernel
theorem dL_reads_304 : decode cL_reads 304 = .ok (.iload 8, 2) := by decide +kernel
theorem dL_reads_306 : decode cL_reads 306 = .ok (.iload 6, 2) := by decide +kernel
theorem dL_reads_308 : decode cL_reads 308 = .ok (.if_icmp .ge 41, 3) := by decide +kernel
theorem dL_reads_311 : decode cL_reads 311 = .ok (.aload_n 0, 1) := by decide +kernel
theorem dL_reads_312 : decode cL_reads 312 = .ok (.iload 8, 2) := by decide +kernel
theorem dL_reads_314 : decode cL_reads 314 = .ok (.iconst 0, 1) := by decide +kernel
theorem dL_reads_315 : decode cL_reads 315 = .ok (.invokevirtual 19, 3) := by decide +kernel
theorem dL_reads_318 : decode cL_reads 318 = .ok (.aload 4, 2) := by decide +kernel
theorem dL_reads_320 : decode cL_reads 320 = .ok (.iload 8, 2) := by decide +kernel
theorem dL_reads_322 : decode cL_reads 322 = .ok (.iaload, 1) := by decide +kernel
theorem dL_reads_323 : decode cL_reads 323 = .ok (.if_icmp .ne 18, 3) := by decide +kernel
theorem dL_reads_326 : decode cL_reads 326 = .ok (.aload_n 0, 1) := by decide +kernel
theorem dL_reads_327 : decode cL_reads 327 = .ok (.iload 8, 2) := by decide +kernel
theorem dL_reads_329 : decode cL_reads 329 = .ok (.iconst 1, 1) := by decide +kernel
theorem dL_reads_330 : decode cL_reads 330 = .ok (.invokevirtual 19, 3) := by decide +kernel
theorem dL_reads_333 : decode cL_reads 333 = .ok (.aload 5, 2) := by decide +kernel
theorem dL_reads_335 : decode cL_reads 335 = .ok (.iload 8, 2) := by decide +kernel
theorem dL_reads_337 : decode cL_reads 337 = .ok (.iaload, 1) := by decide +kernel
theorem dL_reads_338 : decode cL_reads 338 = .ok (.if_icmp .eq 5, 3) := by decide +kernel
theorem dL_reads_341 : decode cL_reads 341 = .ok (.iconst 0, 1) := by decide +kernel
theorem dL_reads_342 : decode cL_reads 342 = .ok (.ireturn, 1) := by decide +kernel
theorem dL_reads_343 : decode cL_reads 343 = .ok (.iinc 8 1, 3) := by decide +kernel
theorem dL_reads_346 : decode cL_reads 346 = .ok (.goto (-42), 3) := by decide +kernel
theorem dL_reads_349 : decode cL_reads 349 = .ok (.aload_n 0, 1) := by decide +kernel
theorem dL_reads_350 : decode cL_reads 350 = .ok (.bipush 120, 2) := by decide +kernel
theorem dL_reads_352 : decode cL_reads 352 = .ok (.invokevirtual 57, 3) := by decide +kernel
theorem dL_reads_355 : decode cL_reads 355 = .ok (.istore 7, 2) := by decide +kernel
theorem dL_reads_357 : decode cL_reads 357 = .ok (.aload_n 0, 1) := by decide +kernel
theorem dL_reads_358 : decode cL_reads 358 = .ok (.bipush 120, 2) := by decide +kernel
theorem dL_reads_360 : decode cL_reads 360 = .ok (.invokevirtual 57, 3) := by decide +kernel
theorem dL_reads_363 : decode cL_reads 363 = .ok (.istore 7, 2) := by decide +kernel
theorem dL_reads_365 : decode cL_reads 365 = .ok (.aload_n 0, 1) := by decide +kernel
theorem dL_reads_366 : decode cL_reads 366 = .ok (.invokevirtual 64, 3) := by decide +kernel
theorem dL_reads_369 : decode cL_reads 369 = .ok (.bipush (-99), 2) := by decide +kernel
theorem dL_reads_371 : decode cL_reads 371 = .ok (.iload 7, 2) := by decide +kernel
theorem dL_reads_373 : decode cL_reads 373 = .ok (.isub, 1) := by decide +kernel
theorem dL_reads_374 : decode cL_reads 374 = .ok (.iconst 1, 1) := by decide +kernel
theorem dL_reads_375 : decode cL_reads 375 = .ok (.iadd, 1) := by decide +kernel
theorem dL_reads_376 : decode cL_reads 376 = .ok (.if_icmp .gt 17, 3) := by decide +kernel
theorem dL_reads_379 : decode cL_reads 379 = .ok (.aload_n 0, 1) := by decide +kernel
theorem dL_reads_380 : decode cL_reads 380 = .ok (.iconst 0, 1) := by decide +kernel
theorem dL_reads_381 : decode cL_reads 381 = .ok (.invokevirtual 9, 3) := by decide +kernel
theorem dL_reads_384 : decode cL_reads 384 = .ok (.iload 6, 2) := by decide +kernel
theorem dL_reads_386 : decode cL_reads 386 = .ok (.if_icmp .ne 7, 3) := by decide +kernel
theorem dL_reads_389 : decode cL_reads 389 = .ok (.iconst 1, 1) := by decide +kernel
theorem dL_reads_390 : decode cL_reads 390 = .ok (.goto 4, 3) := by decide +kernel
theorem dL_reads_393 : decode cL_reads 393 = .ok (.iconst 0, 1) := by decide +kernel
theorem dL_reads_394 : decode cL_reads 394 = .ok (.ireturn, 1) := by decide +kernel
