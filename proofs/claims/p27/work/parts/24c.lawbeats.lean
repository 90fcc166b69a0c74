set_option maxRecDepth 20000 in
theorem ggL_beats_X7_count : GoodIn wsL_beats wsX7_count := goodIn_r _ [6, 7, 8, 9, 10, 11, 12, 13, 14, 15, 16, 17, 18, 19, 20, 21, 22, 23, 24, 25, 26, 27, 28, 29, 30, 31, 32, 33, 34, 35, 36, 37, 38, 39, 40, 41, 42, 43, 44, 45, 46, 47, 48, 49, 50, 51, 52, 53, 54, 55, 56, 57, 58, 59, 60, 61, 62, 63, 64, 65, 66, 67, 68, 69, 70, 71, 72, 73, 74, 75, 76, 77, 78, 79, 80, 81, 82, 83, 84, 85, 86, 87, 88, 89, 90, 91, 92, 93, 94, 95, 96, 97, 98, 99, 100, 101, 102, 103, 104, 105, 106, 107, 108, 5, 109, 110, 111, 112, 113, 114, 115, 116, 117, 118, 119, 120, 121, 122, 123, 124, 125, 126, 127, 128, 129, 130, 131, 132, 133, 134, 135, 136, 137, 138, 139, 140, 141, 142, 143, 144, 145, 146, 147, 148, 149, 150, 151, 152, 153, 154, 188, 189, 190, 191, 192, 193, 194, 195, 196, 197, 198, 199, 200, 201, 202, 203, 204, 205, 206, 207, 208, 209, 210, 211, 212, 213, 214, 215, 216, 217, 218, 219, 220, 221, 222, 223] (by decide +kernel) (by decide +kernel)
set_option maxRecDepth 20000 in
theorem gL_beats_X7_count : GoodIn wsL_beats (wsV RL 9 RX7 yX7_count wsX7_count) := goodIn_app (goodIn_of _ (by decide +kernel)) ggL_beats_X7_count
set_option maxRecDepth 20000 in
theorem ggL_beats_X7_beat : GoodIn wsL_beats wsX7_beat := goodIn_r _ [158, 7, 159, 160, 11, 12, 161, 162, 163, 21, 164, 23, 165, 30, 31, 32, 33, 34, 166, 40, 41, 42, 28, 24, 25, 26, 27, 29, 167, 111, 112, 113, 114, 115, 116, 60, 61, 62, 63, 64, 65, 66, 67, 68, 69, 70, 71, 72, 73, 74, 75, 76, 77, 78, 79, 80, 81, 82, 83, 84, 85, 86, 87, 88, 89, 90, 91, 92, 93, 94, 95, 96, 97, 98, 99, 100, 101, 102, 103, 104, 105, 106, 107, 47, 108, 5, 109, 110, 117, 118, 119, 120, 59, 121, 122, 123, 124, 125, 126, 127, 128, 129, 130, 131, 168, 169, 170, 171, 172, 173, 174, 175, 49, 50, 51, 52, 53, 54, 188, 189, 190, 191, 192, 193, 194, 195, 196, 197, 198, 199, 200, 201, 202, 203, 204, 205, 206, 207, 216, 217, 218, 219, 220, 221, 222, 223] (by decide +kernel) (by decide +kernel)
set_option maxRecDepth 20000 in
theorem gL_beats_X7_beat : GoodIn wsL_beats (wsV RL 19 RX7 yX7_beat wsX7_beat) := goodIn_app (goodIn_of _ (by decide +kernel)) ggL_beats_X7_beat
set_option maxRecDepth 20000 in
theorem ggL_beats_X7_does : GoodIn wsL_beats wsX7_does := goodIn_r _ [179, 7, 12, 180, 181, 182, 183, 184, 21, 185, 186, 161, 162, 163, 164, 23, 165, 30, 31, 32, 33, 34, 187, 78, 79, 80, 81, 82, 83, 84, 85, 86, 87, 88, 89, 90, 91, 92, 93, 94, 95, 96, 97, 98, 99, 100, 101, 102, 103, 24, 25, 26, 27, 28, 29, 104, 105, 106, 107, 47, 108, 5, 109, 110, 111, 112, 113, 114, 115, 116, 117, 118, 119, 120, 59, 121, 122, 123, 124, 188, 189, 190, 191, 192, 193, 194, 195, 196, 197, 198, 199, 200, 201, 202, 203, 204, 205, 206, 207, 220, 221, 222, 223, 216] (by decide +kernel) (by decide +kernel)
set_option maxRecDepth 20000 in
theorem gL_beats_X7_does : GoodIn wsL_beats (wsV RL 25 RX7 yX7_does wsX7_does) := goodIn_app (goodIn_of _ (by decide +kernel)) ggL_beats_X7_does
theorem dL_beats_0 : decode cL_beats 0 = .ok (.iconst 0, 1) := by decide +kernel
theorem dL_beats_1 : decode cL_beats 1 = .ok (.istore_n 1, 1) := by decide +kernel
theorem dL_beats_2 : decode cL_beats 2 = .ok (.iconst 0, 1) := by decide +kernel
theorem dL_beats_3 : decode cL_beats 3 = .ok (.istore_n 2, 1) := by decide +kernel
theorem dL_beats_4 : decode cL_beats 4 = .ok (.bipush (-5), 2) := by decide +kernel
theorem dL_beats_6 : decode cL_beats 6 = .ok (.istore_n 3, 1) := by decide +kernel
theorem dL_beats_7 : decode cL_beats 7 = .ok (.iconst 0, 1) := by decide +kernel
theorem dL_beats_8 : decode cL_beats 8 = .ok (.istore 4, 2) := by decide +kernel
theorem dL_beats_10 : decode cL_beats 10 = .ok (.iconst 0, 1) := by decide +kernel
theorem dL_beats_11 : decode cL_beats 11 = .ok (.istore 5, 2) := by decide +kernel
theorem dL_beats_13 : decode cL_beats 13 = .ok (.iload 5, 2) := by decide +kernel
theorem dL_beats_15 : decode cL_beats 15 = .ok (.aload_n 0, 1) := by decide +kernel
theorem dL_beats_16 : decode cL_beats 16 = .ok (.iconst 0, 1) := by decide +kernel
theorem dL_beats_17 : decode cL_beats 17 = .ok (.invokevirtual 9, 3) := by decide +kernel
theorem dL_beats_20 : decode cL_beats 20 = .ok (.if_icmp .ge 231, 3) := by decide +kernel
theorem dL_beats_23 : decode cL_beats 23 = .ok (.aload_n 0, 1) := by decide +kernel
theorem dL_beats_24 : decode cL_beats 24 = .ok (.iload 5, 2) := by decide +kernel
theorem dL_beats_26 : decode cL_beats 26 = .ok (.iconst 0, 1) := by decide +kernel
theorem dL_beats_27 : decode cL_beats 27 = .ok (.invokevirtual 19, 3) := by decide +kernel
theorem dL_beats_30 : decode cL_beats 30 = .ok (.istore 6, 2) := by decide +kernel
theorem dL_beats_32 : decode cL_beats 32 = .ok (.iconst 4, 1) := by decide +kernel
theorem dL_beats_33 : decode cL_beats 33 = .ok (.newarray .int, 2) := by decide +kernel
theorem dL_beats_35 : decode cL_beats 35 = .ok (.astore 7, 2) := by decide +kernel
theorem dL_beats_37 : decode cL_beats 37 = .ok (.iconst 0, 1) := by decide +kernel
theorem dL_beats_38 : decode cL_beats 38 = .ok (.istore 8, 2) := by decide +kernel
theorem dL_beats_40 : decode cL_beats 40 = .ok (.iload 8, 2) := by decide +kernel
theorem dL_beats_42 : decode cL_beats 42 = .ok (.aload_n 0, 1) := by decide +kernel
theorem dL_beats_43 : decode cL_beats 43 = .ok (.iconst 3, 1) := by decide +kernel
theorem dL_beats_44 : decode cL_beats 44 = .ok (.invokevirtual 9, 3) := by decide +kernel
theorem dL_beats_47 : decode cL_beats 47 = .ok (.if_icmp .ge 24, 3) := by decide +kernel
theorem dL_beats_50 : decode cL_beats 50 = .ok (.aload 7, 2) := by decide +kernel
theorem dL_beats_52 : decode cL_beats 52 = .ok (.aload_n 0, 1) := by decide +kernel
theorem dL_beats_53 : decode cL_beats 53 = .ok (.iload 8, 2) := by decide +kernel
theorem dL_beats_55 : decode cL_beats 55 = .ok (.iload 5, 2) := by decide +kernel
theorem dL_beats_57 : decode cL_beats 57 = .ok (.invokevirtual 25, 3) := by decide +kernel
theorem dL_beats_60 : decode cL_beats 60 = .ok (.dup2, 1) := by decide +kernel
theorem dL_beats_61 : decode cL_beats 61 = .ok (.iaload, 1) := by decide +kernel
theorem dL_beats_62 : decode cL_beats 62 = .ok (.iconst 1, 1) := by decide +kernel
theorem dL_beats_63 : decode cL_beats 63 = .ok (.iadd, 1) := by decide +kernel
theorem dL_beats_64 : decode cL_beats 64 = .ok (.iastore, 1) := by decide +kernel
theorem dL_beats_65 : decode cL_beats 65 = .ok (.iinc 8 1, 3) := by decide +kernel
theorem dL_beats_68 : decode cL_beats 68 = .ok (.goto (-28), 3) := by decide +kernel
theorem dL_beats_71 : decode cL_beats 71 = .ok (.iload 6, 2) := by decide +kernel
theorem dL_beats_73 : decode cL_beats 73 = .ok (.ifCond .ne 8, 3) := by decide +kernel
theorem dL_beats_76 : decode cL_beats 76 = .ok (.bipush (-5), 2) := by decide +kernel
theorem dL_beats_78 : decode cL_beats 78 = .ok (.goto 19, 3) := by decide +kernel
theorem dL_beats_81 : decode cL_beats 81 = .ok (.iload 6, 2) := by decide +kernel
theorem dL_beats_83 : decode cL_beats 83 = .ok (.iconst 2, 1) := by decide +kernel
theorem dL_beats_84 : decode cL_beats 84 = .ok (.if_icmp .eq 7, 3) := by decide +kernel
theorem dL_beats_87 : decode cL_beats 87 = .ok (.iload_n 3, 1) := by decide +kernel
theorem dL_beats_88 : decode cL_beats 88 = .ok (.ifCond .ge 8, 3) := by decide +kernel
theorem dL_beats_91 : decode cL_beats 91 = .ok (.iload 5, 2) := by decide +kernel
theorem dL_beats_93 : decode cL_beats 93 = .ok (.goto 4, 3) := by decide +kernel
theorem dL_beats_96 : decode cL_beats 96 = .ok (.iload_n 3, 1) := by decide +kernel
theorem dL_beats_97 : decode cL_beats 97 = .ok (.istore_n 3, 1) := by decide +kernel
theorem dL_beats_98 : decode cL_beats 98 = .ok (.iload_n 1, 1) := by decide +kernel
theorem dL_beats_99 : decode cL_beats 99 = .ok (.iload 6, 2) := by decide +kernel
theorem dL_beats_101 : decode cL_beats 101 = .ok (.ifCond .ne 7, 3) := by decide +kernel
theorem dL_beats_104 : decode cL_beats 104 = .ok (.iconst 1, 1) := by decide +kernel
theorem dL_beats_105 : decode cL_beats 105 = .ok (.goto 4, 3) := by decide +kernel
theorem dL_beats_108 : decode cL_beats 108 = .ok (.iconst 0, 1) := by decide +kernel
theorem dL_beats_109 : decode cL_beats 109 = .ok (.iadd, 1) := by decide +kernel
theorem dL_beats_110 : decode cL_beats 110 = .ok (.istore_n 1, 1) := by decide +kernel
theorem dL_beats_111 : decode cL_beats 111 = .ok (.iload_n 2, 1) := by decide +kernel
theorem dL_beats_112 : decode cL_beats 112 = .ok (.iload_n 3, 1) := by decide +kernel
theorem dL_beats_113 : decode cL_beats 113 = .ok (.iload 5, 2) := by decide +kernel
theorem dL_beats_115 : decode cL_beats 115 = .ok (.if_icmp .ne 7, 3) := by decide +kernel
theorem dL_beats_118 : decode cL_beats 118 = .ok (.iconst 1, 1) := by decide +kernel
theorem dL_beats_119 : decode cL_beats 119 = .ok (.goto 4, 3) := by decide +kernel
theorem dL_beats_122 : decode cL_beats 122 = .ok (.iconst 0, 1) := by decide +kernel
theorem dL_beats_123 : decode cL_beats 123 = .ok (.iadd, 1) := by decide +kernel
theorem dL_beats_124 : decode cL_beats 124 = .ok (.istore_n 2, 1) := by decide +kernel
theorem dL_beats_125 : decode cL_beats 125 = .ok (.iload_n 3, 1) := by decide +kernel
theorem dL_beats_126 : decode cL_beats 126 = .ok (.ifCond .lt 23, 3) := by decide +kernel
theorem dL_beats_129 : decode cL_beats 129 = .ok (.iload 5, 2) := by decide +kernel
theorem dL_beats_131 : decode cL_beats 131 = .ok (.iload_n 3, 1) := by decide +kernel
theorem dL_beats_132 : decode cL_beats 132 = .ok (.isub, 1) := by decide +kernel
theorem dL_beats_133 : decode cL_beats 133 = .ok (.iconst 1, 1) := by decide +kernel
theorem dL_beats_134 : decode cL_beats 134 = .ok (.iadd, 1) := by decide +kernel
theorem dL_beats_135 : decode cL_beats 135 = .ok (.iload 4, 2) := by decide +kernel
theorem dL_beats_137 : decode cL_beats 137 = .ok (.if_icmp .le 12, 3) := by decide +kernel
theorem dL_beats_140 : decode cL_beats 140 = .ok (.iload 5, 2) := by decide +kernel
theorem dL_beats_142 : decode cL_beats 142 = .ok (.iload_n 3, 1) := by decide +kernel
theorem dL_beats_143 : decode cL_beats 143 = .ok (.isub, 1) := by decide +kernel
theorem dL_beats_144 : decode cL_beats 144 = .ok (.iconst 1, 1) := by decide +kernel
theorem dL_beats_145 : decode cL_beats 145 = .ok (.iadd, 1) := by decide +kernel
theorem dL_beats_146 : decode cL_beats 146 = .ok (.goto 5, 3) := by decide +kernel
theorem dL_beats_149 : decode cL_beats 149 = .ok (.iload 4, 2) := by decide +kernel
theorem dL_beats_151 : decode cL_beats 151 = .ok (.istore 4, 2) := by decide +kernel
theorem dL_beats_153 : decode cL_beats 153 = .ok (.aload_n 0, 1) := by decide +kernel
theorem dL_beats_154 : decode cL_beats 154 = .ok (.iload 5, 2) := by decide +kernel
theorem dL_beats_156 : decode cL_beats 156 = .ok (.iconst 2, 1) := by decide +kernel
theorem dL_beats_157 : decode cL_beats 157 = .ok (.invokevirtual 19, 3) := by decide +kernel
theorem dL_beats_160 : decode cL_beats 160 = .ok (.iload_n 3, 1) := by decide +kernel
theorem dL_beats_161 : decode cL_beats 161 = .ok (.if_icmp .ne 82, 3) := by decide +kernel
theorem dL_beats_164 : decode cL_beats 164 = .ok (.aload_n 0, 1) := by decide +kernel
theorem dL_beats_165 : decode cL_beats 165 = .ok (.iload 5, 2) := by decide +kernel
theorem dL_beats_167 : decode cL_beats 167 = .ok (.iconst 3, 1) := by decide +kernel
theorem dL_beats_168 : decode cL_beats 168 = .ok (.invokevirtual 19, 3) := by decide +kernel
theorem dL_beats_171 : decode cL_beats 171 = .ok (.aload 7, 2) := by decide +kernel
theorem dL_beats_173 : decode cL_beats 173 = .ok (.iconst 0, 1) := by decide +kernel
theorem dL_beats_174 : decode cL_beats 174 = .ok (.iaload, 1) := by decide +kernel
theorem dL_beats_175 : decode cL_beats 175 = .ok (.if_icmp .ne 68, 3) := by decide +kernel
theorem dL_beats_178 : decode cL_beats 178 = .ok (.aload_n 0, 1) := by decide +kernel
theorem dL_beats_179 : decode cL_beats 179 = .ok (.iload 5, 2) := by decide +kernel
theorem dL_beats_181 : decode cL_beats 181 = .ok (.iconst 5, 1) := by decide +kernel
theorem dL_beats_182 : decode cL_beats 182 = .ok (.invokevirtual 19, 3) := by decide +kernel
theorem dL_beats_185 : decode cL_beats 185 = .ok (.aload 7, 2) := by decide +kernel
theorem dL_beats_187 : decode cL_beats 187 = .ok (.iconst 1, 1) := by decide +kernel
theorem dL_beats_188 : decode cL_beats 188 = .ok (.iaload, 1) := by decide +kernel
theorem dL_beats_189 : decode cL_beats 189 = .ok (.if_icmp .ne 54, 3) := by decide +kernel
theorem dL_beats_192 : decode cL_beats 192 = .ok (.aload_n 0, 1) := by decide +kernel
theorem dL_beats_193 : decode cL_beats 193 = .ok (.iload 5, 2) := by decide +kernel
theorem dL_beats_195 : decode cL_beats 195 = .ok (.bipush 6, 2) := by decide +kernel
theorem dL_beats_197 : decode cL_beats 197 = .ok (.invokevirtual 19, 3) := by decide +kernel
theorem dL_beats_200 : decode cL_beats 200 = .ok (.aload 7, 2) := by decide +kernel
theorem dL_beats_202 : decode cL_beats 202 = .ok (.iconst 2, 1) := by decide +kernel
theorem dL_beats_203 : decode cL_beats 203 = .ok (.iaload, 1) := by decide +kernel
theorem dL_beats_204 : decode cL_beats 204 = .ok (.if_icmp .ne 39, 3) := by decide +kernel
theorem dL_beats_207 : decode cL_beats 207 = .ok (.aload_n 0, 1) := by decide +kernel
theorem dL_beats_208 : decode cL_beats 208 = .ok (.iload 5, 2) := by decide +kernel
theorem dL_beats_210 : decode cL_beats 210 = .ok (.bipush 7, 2) := by decide +kernel
theorem dL_beats_212 : decode cL_beats 212 = .ok (.invokevirtual 19, 3) := by decide +kernel
theorem dL_beats_215 : decode cL_beats 215 = .ok (.aload 7, 2) := by decide +kernel
theorem dL_beats_217 : decode cL_beats 217 = .ok (.iconst 0, 1) := by decide +kernel
theorem dL_beats_218 : decode cL_beats 218 = .ok (.iaload, 1) := by decide +kernel
theorem dL_beats_219 : decode cL_beats 219 = .ok (.aload_n 0, 1) := by decide +kernel
theorem dL_beats_220 : decode cL_beats 220 = .ok (.iload 5, 2) := by decide +kernel
theorem dL_beats_222 : decode cL_beats 222 = .ok (.iconst 1, 1) := by decide +kernel
theorem dL_beats_223 : decode cL_beats 223 = .ok (.invokevirtual 19, 3) := by decide +kernel
theorem dL_beats_226 : decode cL_beats 226 = .ok (.imul, 1) := by decide +kernel
theorem dL_beats_227 : decode cL_beats 227 = .ok (.if_icmp .ne 16, 3) := by decide +kernel
theorem dL_beats_230 : decode cL_beats 230 = .ok (.aload_n 0, 1) := by decide +kernel
theorem dL_beats_231 : decode cL_beats 231 = .ok (.iload 5, 2) := by decide +kernel
theorem dL_beats_233 : decode cL_beats 233 = .ok (.bipush 8, 2) := by decide +kernel
theorem dL_beats_235 : decode cL_beats 235 = .ok (.invokevirtual 19, 3) := by decide +kernel
theorem dL_beats_238 : decode cL_beats 238 = .ok (.bipush (-2), 2) := by decide +kernel
theorem dL_beats_240 : decode cL_beats 240 = .ok (.if_icmp .eq 5, 3) := by decide +kernel
theorem dL_beats_243 : decode cL_beats 243 = .ok (.iconst 0, 1) := by decide +kernel
theorem dL_beats_244 : decode cL_beats 244 = .ok (.ireturn, 1) := by decide +kernel
theorem dL_beats_245 : decode cL_beats 245 = .ok (.iinc 5 1, 3) := by decide +kernel
theorem dL_beats_248 : decode cL_beats 248 = .ok (.goto (-235), 3) := by decide +kernel
theorem dL_beats_251 : decode cL_beats 251 = .ok (.aload_n 0, 1) := by decide +kernel
theorem dL_beats_252 : decode cL_beats 252 = .ok (.iconst 1, 1) := by decide +kernel
theorem dL_beats_253 : decode cL_beats 253 = .ok (.invokevirtual 9, 3) := by decide +kernel
theorem dL_beats_256 : decode cL_beats 256 = .ok (.iload_n 1, 1) := by decide +kernel
theorem dL_beats_257 : decode cL_beats 257 = .ok (.if_icmp .ne 41, 3) := by decide +kernel
theorem dL_beats_260 : decode cL_beats 260 = .ok (.aload_n 0, 1) := by decide +kernel
theorem dL_beats_261 : decode cL_beats 261 = .ok (.iconst 2, 1) := by decide +kernel
theorem dL_beats_262 : decode cL_beats 262 = .ok (.invokevirtual 9, 3) := by decide +kernel
theorem dL_beats_265 : decode cL_beats 265 = .ok (.iload_n 2, 1) := by decide +kernel
theorem dL_beats_266 : decode cL_beats 266 = .ok (.if_icmp .ne 32, 3) := by decide +kernel
theorem dL_beats_269 : decode cL_beats 269 = .ok (.aload_n 0, 1) := by decide +kernel
theorem dL_beats_270 : decode cL_beats 270 = .ok (.bipush 13, 2) := by decide +kernel
theorem dL_beats_272 : decode cL_beats 272 = .ok (.invokevirtual 9, 3) := by decide +kernel
theorem dL_beats_275 : decode cL_beats 275 = .ok (.iload 4, 2) := by decide +kernel
theorem dL_beats_277 : decode cL_beats 277 = .ok (.if_icmp .ne 21, 3) := by decide +kernel
theorem dL_beats_280 : decode cL_beats 280 = .ok (.aload_n 0, 1) := by decide +kernel
theorem dL_beats_281 : decode cL_beats 281 = .ok (.aload_n 0, 1) := by decide +kernel
theorem dL_beats_282 : decode cL_beats 282 = .ok (.iconst 0, 1) := by decide +kernel
theorem dL_beats_283 : decode cL_beats 283 = .ok (.invokevirtual 9, 3) := by decide +kernel
theorem dL_beats_286 : decode cL_beats 286 = .ok (.iconst 0, 1) := by decide +kernel
theorem dL_beats_287 : decode cL_beats 287 = .ok (.invokevirtual 19, 3) := by decide +kernel
theorem dL_beats_290 : decode cL_beats 290 = .ok (.iconst (-1), 1) := by decide +kernel
theorem dL_beats_291 : decode cL_beats 291 = .ok (.if_icmp .ne 7, 3) := by decide +kernel
theorem dL_beats_294 : decode cL_beats 294 = .ok (.iconst 1, 1) := by decide +kernel
theorem dL_beats_295 : decode cL_beats 295 = .ok (.goto 4, 3) := by decide +kernel
theorem dL_beats_298 : decode cL_beats 298 = .ok (.iconst 0, 1) := by decide +kernel
theorem dL_beats_299 : decode cL_beats 299 = .ok (.ireturn, 1) := by decide +kernel
