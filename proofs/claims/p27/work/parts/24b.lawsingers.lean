set_option maxRecDepth 20000 in
theorem ggL_singers_X7_count : GoodIn wsL_singers wsX7_count := goodIn_r _ [5, 6, 7, 8, 9, 10, 11, 12, 13, 14, 15, 16, 17, 18, 19, 20, 21, 22, 23, 24, 25, 26, 27, 28, 29, 30, 31, 32, 33, 34, 35, 36, 37, 38, 39, 40, 41, 42, 43, 44, 45, 46, 47, 48, 49, 50, 51, 52, 53, 54, 55, 56, 57, 58, 59, 60, 61, 62, 63, 64, 65, 66, 67, 68, 69, 70, 71, 72, 73, 74, 75, 76, 77, 78, 79, 80, 81, 82, 83, 84, 85, 86, 87, 88, 89, 90, 91, 92, 93, 94, 95, 96, 97, 98, 99, 100, 101, 102, 103, 104, 105, 106, 107, 4, 108, 109, 110, 111, 112, 113, 114, 115, 116, 117, 118, 119, 120, 121, 122, 123, 124, 125, 126, 127, 128, 129, 130, 131, 132, 133, 134, 135, 136, 137, 138, 139, 140, 141, 142, 143, 144, 145, 146, 147, 148, 149, 150, 151, 152, 153, 230, 231, 232, 233, 234, 235, 236, 237, 238, 239, 240, 241, 242, 243, 244, 245, 246, 247, 248, 249, 250, 251, 252, 253, 254, 255, 256, 257, 258, 259, 260, 261, 262, 263, 264, 265] (by decide +kernel) (by decide +kernel)
set_option maxRecDepth 20000 in
theorem gL_singers_X7_count : GoodIn wsL_singers (wsV RL 9 RX7 yX7_count wsX7_count) := goodIn_app (goodIn_of _ (by decide +kernel)) ggL_singers_X7_count
set_option maxRecDepth 20000 in
theorem ggL_singers_X7_singer : GoodIn wsL_singers wsX7_singer := goodIn_r _ [157, 6, 158, 159, 11, 160, 161, 162, 20, 163, 164, 165, 29, 30, 31, 32, 33, 166, 104, 105, 106, 46, 107, 4, 108, 167, 168, 169, 170, 22, 116, 117, 118, 119, 58, 28, 171, 77, 78, 79, 80, 81, 82, 83, 84, 85, 86, 87, 88, 89, 90, 91, 92, 93, 94, 95, 96, 97, 98, 99, 100, 101, 102, 23, 24, 25, 26, 27, 103, 109, 110, 111, 112, 113, 114, 115, 120, 121, 122, 123, 172, 173, 174, 175, 176, 177, 178, 179, 180, 181, 182, 183, 184, 185, 186, 187, 188, 152, 153, 230, 231, 232, 233, 234, 235, 236, 237, 238, 239, 240, 241, 242, 243, 244, 245, 246, 247, 248, 249, 258, 262, 263, 264, 265] (by decide +kernel) (by decide +kernel)
set_option maxRecDepth 20000 in
theorem gL_singers_X7_singer : GoodIn wsL_singers (wsV RL 15 RX7 yX7_singer wsX7_singer) := goodIn_app (goodIn_of _ (by decide +kernel)) ggL_singers_X7_singer
set_option maxRecDepth 20000 in
theorem ggL_singers_X7_beat : GoodIn wsL_singers wsX7_beat := goodIn_r _ [192, 6, 193, 194, 10, 11, 195, 196, 197, 20, 198, 22, 165, 29, 30, 31, 32, 33, 199, 39, 40, 41, 27, 23, 24, 25, 26, 28, 200, 110, 111, 112, 113, 114, 115, 59, 60, 61, 62, 63, 64, 65, 66, 67, 68, 69, 70, 71, 72, 73, 74, 75, 76, 77, 78, 79, 80, 81, 82, 83, 84, 85, 86, 87, 88, 89, 90, 91, 92, 93, 94, 95, 96, 97, 98, 99, 100, 101, 102, 103, 104, 105, 106, 46, 107, 4, 108, 109, 116, 117, 118, 119, 58, 120, 121, 122, 123, 124, 125, 126, 127, 128, 129, 130, 201, 202, 203, 204, 205, 206, 207, 208, 48, 49, 50, 51, 52, 53, 230, 231, 232, 233, 234, 235, 236, 237, 238, 239, 240, 241, 242, 243, 244, 245, 246, 247, 248, 249, 258, 259, 260, 261, 262, 263, 264, 265] (by decide +kernel) (by decide +kernel)
set_option maxRecDepth 20000 in
theorem gL_singers_X7_beat : GoodIn wsL_singers (wsV RL 19 RX7 yX7_beat wsX7_beat) := goodIn_app (goodIn_of _ (by decide +kernel)) ggL_singers_X7_beat
set_option maxRecDepth 20000 in
theorem ggL_singers_X7_solo : GoodIn wsL_singers wsX7_solo := goodIn_r _ [212, 6, 213, 214, 215, 216, 217, 218, 20, 219, 113, 165, 29, 30, 31, 32, 33, 230, 231, 232, 233, 234, 235, 236, 237, 238, 239, 240, 241, 242, 243, 244, 245, 246, 247, 248, 249, 258] (by decide +kernel) (by decide +kernel)
set_option maxRecDepth 20000 in
theorem gL_singers_X7_solo : GoodIn wsL_singers (wsV RL 22 RX7 yX7_solo wsX7_solo) := goodIn_app (goodIn_of _ (by decide +kernel)) ggL_singers_X7_solo
set_option maxRecDepth 20000 in
theorem ggL_singers_X7_does : GoodIn wsL_singers wsX7_does := goodIn_r _ [223, 6, 11, 158, 224, 160, 161, 162, 20, 163, 164, 195, 196, 197, 198, 22, 165, 29, 30, 31, 32, 33, 171, 77, 78, 79, 80, 81, 82, 83, 84, 85, 86, 87, 88, 89, 90, 91, 92, 93, 94, 95, 96, 97, 98, 99, 100, 101, 102, 23, 24, 25, 26, 27, 28, 103, 104, 105, 106, 46, 107, 4, 108, 109, 110, 111, 112, 113, 114, 115, 116, 117, 118, 119, 58, 120, 121, 122, 123, 230, 231, 232, 233, 234, 235, 236, 237, 238, 239, 240, 241, 242, 243, 244, 245, 246, 247, 248, 249, 262, 263, 264, 265, 258] (by decide +kernel) (by decide +kernel)
set_option maxRecDepth 20000 in
theorem gL_singers_X7_does : GoodIn wsL_singers (wsV RL 25 RX7 yX7_does wsX7_does) := goodIn_app (goodIn_of _ (by decide +kernel)) ggL_singers_X7_does
set_option maxRecDepth 20000 in
theorem ggL_singers_X7_left : GoodIn wsL_singers wsX7_left := goodIn_r _ [228, 6, 11, 158, 229, 160, 161, 162, 20, 163, 164, 195, 196, 197, 198, 22, 165, 29, 30, 31, 32, 33, 171, 77, 78, 79, 80, 81, 82, 83, 84, 85, 86, 87, 88, 89, 90, 91, 92, 93, 94, 95, 96, 97, 98, 99, 100, 101, 102, 23, 24, 25, 26, 27, 28, 103, 104, 105, 106, 46, 107, 4, 108, 109, 110, 111, 112, 113, 114, 115, 116, 117, 118, 119, 58, 120, 121, 122, 123, 230, 231, 232, 233, 234, 235, 236, 237, 238, 239, 240, 241, 242, 243, 244, 245, 246, 247, 248, 249, 262, 263, 264, 265, 258] (by decide +kernel) (by decide +kernel)
set_option maxRecDepth 20000 in
theorem gL_singers_X7_left : GoodIn wsL_singers (wsV RL 28 RX7 yX7_left wsX7_left) := goodIn_app (goodIn_of _ (by decide +kernel)) ggL_singers_X7_left
theorem dL_singers_0 : decode cL_singers 0 = .ok (.iconst 0, 1) := by decide +kernel
theorem dL_singers_1 : decode cL_singers 1 = .ok (.istore_n 1, 1) := by decide +kernel
theorem dL_singers_2 : decode cL_singers 2 = .ok (.iconst 0, 1) := by decide +kernel
theorem dL_singers_3 : decode cL_singers 3 = .ok (.istore_n 2, 1) := by decide +kernel
theorem dL_singers_4 : decode cL_singers 4 = .ok (.iconst 0, 1) := by decide +kernel
theorem dL_singers_5 : decode cL_singers 5 = .ok (.istore_n 3, 1) := by decide +kernel
theorem dL_singers_6 : decode cL_singers 6 = .ok (.iload_n 3, 1) := by decide +kernel
theorem dL_singers_7 : decode cL_singers 7 = .ok (.aload_n 0, 1) := by decide +kernel
theorem dL_singers_8 : decode cL_singers 8 = .ok (.iconst 3, 1) := by decide +kernel
theorem dL_singers_9 : decode cL_singers 9 = .ok (.invokevirtual 9, 3) := by decide +kernel
theorem dL_singers_12 : decode cL_singers 12 = .ok (.if_icmp .ge 420, 3) := by decide +kernel
theorem dL_singers_15 : decode cL_singers 15 = .ok (.aload_n 0, 1) := by decide +kernel
theorem dL_singers_16 : decode cL_singers 16 = .ok (.iload_n 3, 1) := by decide +kernel
theorem dL_singers_17 : decode cL_singers 17 = .ok (.iconst 0, 1) := by decide +kernel
theorem dL_singers_18 : decode cL_singers 18 = .ok (.invokevirtual 15, 3) := by decide +kernel
theorem dL_singers_21 : decode cL_singers 21 = .ok (.istore 4, 2) := by decide +kernel
theorem dL_singers_23 : decode cL_singers 23 = .ok (.iload 4, 2) := by decide +kernel
theorem dL_singers_25 : decode cL_singers 25 = .ok (.istore 5, 2) := by decide +kernel
theorem dL_singers_27 : decode cL_singers 27 = .ok (.iload 4, 2) := by decide +kernel
theorem dL_singers_29 : decode cL_singers 29 = .ok (.istore 6, 2) := by decide +kernel
theorem dL_singers_31 : decode cL_singers 31 = .ok (.iconst 0, 1) := by decide +kernel
theorem dL_singers_32 : decode cL_singers 32 = .ok (.istore 7, 2) := by decide +kernel
theorem dL_singers_34 : decode cL_singers 34 = .ok (.iconst 0, 1) := by decide +kernel
theorem dL_singers_35 : decode cL_singers 35 = .ok (.istore 8, 2) := by decide +kernel
theorem dL_singers_37 : decode cL_singers 37 = .ok (.iconst 0, 1) := by decide +kernel
theorem dL_singers_38 : decode cL_singers 38 = .ok (.istore 9, 2) := by decide +kernel
theorem dL_singers_40 : decode cL_singers 40 = .ok (.iconst 0, 1) := by decide +kernel
theorem dL_singers_41 : decode cL_singers 41 = .ok (.istore 10, 2) := by decide +kernel
theorem dL_singers_43 : decode cL_singers 43 = .ok (.iconst 0, 1) := by decide +kernel
theorem dL_singers_44 : decode cL_singers 44 = .ok (.istore 11, 2) := by decide +kernel
theorem dL_singers_46 : decode cL_singers 46 = .ok (.iconst 0, 1) := by decide +kernel
theorem dL_singers_47 : decode cL_singers 47 = .ok (.istore 12, 2) := by decide +kernel
theorem dL_singers_49 : decode cL_singers 49 = .ok (.iload 12, 2) := by decide +kernel
theorem dL_singers_51 : decode cL_singers 51 = .ok (.aload_n 0, 1) := by decide +kernel
theorem dL_singers_52 : decode cL_singers 52 = .ok (.iconst 0, 1) := by decide +kernel
theorem dL_singers_53 : decode cL_singers 53 = .ok (.invokevirtual 9, 3) := by decide +kernel
theorem dL_singers_56 : decode cL_singers 56 = .ok (.if_icmp .ge 281, 3) := by decide +kernel
theorem dL_singers_59 : decode cL_singers 59 = .ok (.aload_n 0, 1) := by decide +kernel
theorem dL_singers_60 : decode cL_singers 60 = .ok (.iload 12, 2) := by decide +kernel
theorem dL_singers_62 : decode cL_singers 62 = .ok (.iconst 4, 1) := by decide +kernel
theorem dL_singers_63 : decode cL_singers 63 = .ok (.invokevirtual 19, 3) := by decide +kernel
theorem dL_singers_66 : decode cL_singers 66 = .ok (.istore 13, 2) := by decide +kernel
theorem dL_singers_68 : decode cL_singers 68 = .ok (.aload_n 0, 1) := by decide +kernel
theorem dL_singers_69 : decode cL_singers 69 = .ok (.iload 12, 2) := by decide +kernel
theorem dL_singers_71 : decode cL_singers 71 = .ok (.iconst 0, 1) := by decide +kernel
theorem dL_singers_72 : decode cL_singers 72 = .ok (.invokevirtual 19, 3) := by decide +kernel
theorem dL_singers_75 : decode cL_singers 75 = .ok (.ifCond .le 33, 3) := by decide +kernel
theorem dL_singers_78 : decode cL_singers 78 = .ok (.aload_n 0, 1) := by decide +kernel
theorem dL_singers_79 : decode cL_singers 79 = .ok (.iload_n 3, 1) := by decide +kernel
theorem dL_singers_80 : decode cL_singers 80 = .ok (.iconst 2, 1) := by decide +kernel
theorem dL_singers_81 : decode cL_singers 81 = .ok (.invokevirtual 15, 3) := by decide +kernel
theorem dL_singers_84 : decode cL_singers 84 = .ok (.iconst 1, 1) := by decide +kernel
theorem dL_singers_85 : decode cL_singers 85 = .ok (.if_icmp .ne 23, 3) := by decide +kernel
theorem dL_singers_88 : decode cL_singers 88 = .ok (.iload 13, 2) := by decide +kernel
theorem dL_singers_90 : decode cL_singers 90 = .ok (.ifCond .lt 14, 3) := by decide +kernel
theorem dL_singers_93 : decode cL_singers 93 = .ok (.aload_n 0, 1) := by decide +kernel
theorem dL_singers_94 : decode cL_singers 94 = .ok (.iload 13, 2) := by decide +kernel
theorem dL_singers_96 : decode cL_singers 96 = .ok (.iconst 0, 1) := by decide +kernel
theorem dL_singers_97 : decode cL_singers 97 = .ok (.invokevirtual 22, 3) := by decide +kernel
theorem dL_singers_100 : decode cL_singers 100 = .ok (.iload_n 3, 1) := by decide +kernel
theorem dL_singers_101 : decode cL_singers 101 = .ok (.if_icmp .ne 7, 3) := by decide +kernel
theorem dL_singers_104 : decode cL_singers 104 = .ok (.iconst 1, 1) := by decide +kernel
theorem dL_singers_105 : decode cL_singers 105 = .ok (.goto 4, 3) := by decide +kernel
theorem dL_singers_108 : decode cL_singers 108 = .ok (.iconst 0, 1) := by decide +kernel
theorem dL_singers_109 : decode cL_singers 109 = .ok (.istore 14, 2) := by decide +kernel
theorem dL_singers_111 : decode cL_singers 111 = .ok (.aload_n 0, 1) := by decide +kernel
theorem dL_singers_112 : decode cL_singers 112 = .ok (.iload_n 3, 1) := by decide +kernel
theorem dL_singers_113 : decode cL_singers 113 = .ok (.iload 12, 2) := by decide +kernel
theorem dL_singers_115 : decode cL_singers 115 = .ok (.invokevirtual 25, 3) := by decide +kernel
theorem dL_singers_118 : decode cL_singers 118 = .ok (.istore 15, 2) := by decide +kernel
theorem dL_singers_120 : decode cL_singers 120 = .ok (.aload_n 0, 1) := by decide +kernel
theorem dL_singers_121 : decode cL_singers 121 = .ok (.iload 12, 2) := by decide +kernel
theorem dL_singers_123 : decode cL_singers 123 = .ok (.iconst 1, 1) := by decide +kernel
theorem dL_singers_124 : decode cL_singers 124 = .ok (.invokevirtual 19, 3) := by decide +kernel
theorem dL_singers_127 : decode cL_singers 127 = .ok (.istore 16, 2) := by decide +kernel
theorem dL_singers_129 : decode cL_singers 129 = .ok (.iload 14, 2) := by decide +kernel
theorem dL_singers_131 : decode cL_singers 131 = .ok (.iload 15, 2) := by decide +kernel
theorem dL_singers_133 : decode cL_singers 133 = .ok (.iconst 3, 1) := by decide +kernel
theorem dL_singers_134 : decode cL_singers 134 = .ok (.if_icmp .ge 7, 3) := by decide +kernel
theorem dL_singers_137 : decode cL_singers 137 = .ok (.iconst 1, 1) := by decide +kernel
theorem dL_singers_138 : decode cL_singers 138 = .ok (.goto 4, 3) := by decide +kernel
theorem dL_singers_141 : decode cL_singers 141 = .ok (.iconst 0, 1) := by decide +kernel
theorem dL_singers_142 : decode cL_singers 142 = .ok (.if_icmp .ne 39, 3) := by decide +kernel
theorem dL_singers_145 : decode cL_singers 145 = .ok (.iload 15, 2) := by decide +kernel
theorem dL_singers_147 : decode cL_singers 147 = .ok (.ifCond .ne 10, 3) := by decide +kernel
theorem dL_singers_150 : decode cL_singers 150 = .ok (.iload 5, 2) := by decide +kernel
theorem dL_singers_152 : decode cL_singers 152 = .ok (.iload 16, 2) := by decide +kernel
theorem dL_singers_154 : decode cL_singers 154 = .ok (.if_icmp .lt 27, 3) := by decide +kernel
theorem dL_singers_157 : decode cL_singers 157 = .ok (.iload 15, 2) := by decide +kernel
theorem dL_singers_159 : decode cL_singers 159 = .ok (.iconst 2, 1) := by decide +kernel
theorem dL_singers_160 : decode cL_singers 160 = .ok (.if_icmp .ne 10, 3) := by decide +kernel
theorem dL_singers_163 : decode cL_singers 163 = .ok (.iload 5, 2) := by decide +kernel
theorem dL_singers_165 : decode cL_singers 165 = .ok (.iload 16, 2) := by decide +kernel
theorem dL_singers_167 : decode cL_singers 167 = .ok (.if_icmp .ge 14, 3) := by decide +kernel
theorem dL_singers_170 : decode cL_singers 170 = .ok (.iload 15, 2) := by decide +kernel
theorem dL_singers_172 : decode cL_singers 172 = .ok (.ifCond .lt 9, 3) := by decide +kernel
theorem dL_singers_175 : decode cL_singers 175 = .ok (.iload 15, 2) := by decide +kernel
theorem dL_singers_177 : decode cL_singers 177 = .ok (.iconst 3, 1) := by decide +kernel
theorem dL_singers_178 : decode cL_singers 178 = .ok (.if_icmp .le 5, 3) := by decide +kernel
theorem dL_singers_181 : decode cL_singers 181 = .ok (.iconst 0, 1) := by decide +kernel
theorem dL_singers_182 : decode cL_singers 182 = .ok (.ireturn, 1) := by decide +kernel
theorem dL_singers_183 : decode cL_singers 183 = .ok (.iload 5, 2) := by decide +kernel
theorem dL_singers_185 : decode cL_singers 185 = .ok (.aload_n 0, 1) := by decide +kernel
theorem dL_singers_186 : decode cL_singers 186 = .ok (.iload_n 3, 1) := by decide +kernel
theorem dL_singers_187 : decode cL_singers 187 = .ok (.iconst 1, 1) := by decide +kernel
theorem dL_singers_188 : decode cL_singers 188 = .ok (.invokevirtual 15, 3) := by decide +kernel
theorem dL_singers_191 : decode cL_singers 191 = .ok (.iadd, 1) := by decide +kernel
theorem dL_singers_192 : decode cL_singers 192 = .ok (.istore 17, 2) := by decide +kernel
theorem dL_singers_194 : decode cL_singers 194 = .ok (.iload 15, 2) := by decide +kernel
theorem dL_singers_196 : decode cL_singers 196 = .ok (.ifCond .ne 11, 3) := by decide +kernel
theorem dL_singers_199 : decode cL_singers 199 = .ok (.iload 5, 2) := by decide +kernel
theorem dL_singers_201 : decode cL_singers 201 = .ok (.iload 16, 2) := by decide +kernel
theorem dL_singers_203 : decode cL_singers 203 = .ok (.isub, 1) := by decide +kernel
theorem dL_singers_204 : decode cL_singers 204 = .ok (.goto 17, 3) := by decide +kernel
theorem dL_singers_207 : decode cL_singers 207 = .ok (.iload 17, 2) := by decide +kernel
theorem dL_singers_209 : decode cL_singers 209 = .ok (.iload 4, 2) := by decide +kernel
theorem dL_singers_211 : decode cL_singers 211 = .ok (.if_icmp .le 8, 3) := by decide +kernel
theorem dL_singers_214 : decode cL_singers 214 = .ok (.iload 4, 2) := by decide +kernel
theorem dL_singers_216 : decode cL_singers 216 = .ok (.goto 5, 3) := by decide +kernel
theorem dL_singers_219 : decode cL_singers 219 = .ok (.iload 17, 2) := by decide +kernel
theorem dL_singers_221 : decode cL_singers 221 = .ok (.istore 5, 2) := by decide +kernel
theorem dL_singers_223 : decode cL_singers 223 = .ok (.iload 5, 2) := by decide +kernel
theorem dL_singers_225 : decode cL_singers 225 = .ok (.iload 6, 2) := by decide +kernel
theorem dL_singers_227 : decode cL_singers 227 = .ok (.if_icmp .ge 8, 3) := by decide +kernel
theorem dL_singers_230 : decode cL_singers 230 = .ok (.iload 5, 2) := by decide +kernel
theorem dL_singers_232 : decode cL_singers 232 = .ok (.goto 5, 3) := by decide +kernel
theorem dL_singers_235 : decode cL_singers 235 = .ok (.iload 6, 2) := by decide +kernel
theorem dL_singers_237 : decode cL_singers 237 = .ok (.istore 6, 2) := by decide +kernel
theorem dL_singers_239 : decode cL_singers 239 = .ok (.iload 7, 2) := by decide +kernel
theorem dL_singers_241 : decode cL_singers 241 = .ok (.iload 15, 2) := by decide +kernel
theorem dL_singers_243 : decode cL_singers 243 = .ok (.ifCond .ne 7, 3) := by decide +kernel
theorem dL_singers_246 : decode cL_singers 246 = .ok (.iconst 1, 1) := by decide +kernel
theorem dL_singers_247 : decode cL_singers 247 = .ok (.goto 4, 3) := by decide +kernel
theorem dL_singers_250 : decode cL_singers 250 = .ok (.iconst 0, 1) := by decide +kernel
theorem dL_singers_251 : decode cL_singers 251 = .ok (.iadd, 1) := by decide +kernel
theorem dL_singers_252 : decode cL_singers 252 = .ok (.istore 7, 2) := by decide +kernel
theorem dL_singers_254 : decode cL_singers 254 = .ok (.iload 9, 2) := by decide +kernel
theorem dL_singers_256 : decode cL_singers 256 = .ok (.iload 15, 2) := by decide +kernel
theorem dL_singers_258 : decode cL_singers 258 = .ok (.iconst 1, 1) := by decide +kernel
theorem dL_singers_259 : decode cL_singers 259 = .ok (.if_icmp .ne 7, 3) := by decide +kernel
theorem dL_singers_262 : decode cL_singers 262 = .ok (.iconst 1, 1) := by decide +kernel
theorem dL_singers_263 : decode cL_singers 263 = .ok (.goto 4, 3) := by decide +kernel
theorem dL_singers_266 : decode cL_singers 266 = .ok (.iconst 0, 1) := by decide +kernel
theorem dL_singers_267 : decode cL_singers 267 = .ok (.iadd, 1) := by decide +kernel
theorem dL_singers_268 : decode cL_singers 268 = .ok (.istore 9, 2) := by decide +kernel
theorem dL_singers_270 : decode cL_singers 270 = .ok (.iload 8, 2) := by decide +kernel
theorem dL_singers_272 : decode cL_singers 272 = .ok (.iload 15, 2) := by decide +kernel
theorem dL_singers_274 : decode cL_singers 274 = .ok (.iconst 2, 1) := by decide +kernel
theorem dL_singers_275 : decode cL_singers 275 = .ok (.if_icmp .ne 7, 3) := by decide +kernel
theorem dL_singers_278 : decode cL_singers 278 = .ok (.iconst 1, 1) := by decide +kernel
theorem dL_singers_279 : decode cL_singers 279 = .ok (.goto 4, 3) := by decide +kernel
theorem dL_singers_282 : decode cL_singers 282 = .ok (.iconst 0, 1) := by decide +kernel
theorem dL_singers_283 : decode cL_singers 283 = .ok (.iadd, 1) := by decide +kernel
theorem dL_singers_284 : decode cL_singers 284 = .ok (.istore 8, 2) := by decide +kernel
theorem dL_singers_286 : decode cL_singers 286 = .ok (.iload 15, 2) := by decide +kernel
theorem dL_singers_288 : decode cL_singers 288 = .ok (.ifCond .ne 10, 3) := by decide +kernel
theorem dL_singers_291 : decode cL_singers 291 = .ok (.iload 10, 2) := by decide +kernel
theorem dL_singers_293 : decode cL_singers 293 = .ok (.iconst 1, 1) := by decide +kernel
theorem dL_singers_294 : decode cL_singers 294 = .ok (.iadd, 1) := by decide +kernel
theorem dL_singers_295 : decode cL_singers 295 = .ok (.goto 4, 3) := by decide +kernel
theorem dL_singers_298 : decode cL_singers 298 = .ok (.iconst 0, 1) := by decide +kernel
theorem dL_singers_299 : decode cL_singers 299 = .ok (.istore 10, 2) := by decide +kernel
theorem dL_singers_301 : decode cL_singers 301 = .ok (.iload 10, 2) := by decide +kernel
theorem dL_singers_303 : decode cL_singers 303 = .ok (.iload 11, 2) := by decide +kernel
theorem dL_singers_305 : decode cL_singers 305 = .ok (.if_icmp .le 8, 3) := by decide +kernel
theorem dL_singers_308 : decode cL_singers 308 = .ok (.iload 10, 2) := by decide +kernel
theorem dL_singers_310 : decode cL_singers 310 = .ok (.goto 5, 3) := by decide +kernel
theorem dL_singers_313 : decode cL_singers 313 = .ok (.iload 11, 2) := by decide +kernel
theorem dL_singers_315 : decode cL_singers 315 = .ok (.istore 11, 2) := by decide +kernel
theorem dL_singers_317 : decode cL_singers 317 = .ok (.aload_n 0, 1) := by decide +kernel
theorem dL_singers_318 : decode cL_singers 318 = .ok (.iload_n 3, 1) := by decide +kernel
theorem dL_singers_319 : decode cL_singers 319 = .ok (.iload 12, 2) := by decide +kernel
theorem dL_singers_321 : decode cL_singers 321 = .ok (.invokevirtual 28, 3) := by decide +kernel
theorem dL_singers_324 : decode cL_singers 324 = .ok (.iload 5, 2) := by decide +kernel
theorem dL_singers_326 : decode cL_singers 326 = .ok (.if_icmp .eq 5, 3) := by decide +kernel
theorem dL_singers_329 : decode cL_singers 329 = .ok (.iconst 0, 1) := by decide +kernel
theorem dL_singers_330 : decode cL_singers 330 = .ok (.ireturn, 1) := by decide +kernel
theorem dL_singers_331 : decode cL_singers 331 = .ok (.iinc 12 1, 3) := by decide +kernel
theorem dL_singers_334 : decode cL_singers 334 = .ok (.goto (-285), 3) := by decide +kernel
theorem dL_singers_337 : decode cL_singers 337 = .ok (.iload_n 1, 1) := by decide +kernel
theorem dL_singers_338 : decode cL_singers 338 = .ok (.aload_n 0, 1) := by decide +kernel
theorem dL_singers_339 : decode cL_singers 339 = .ok (.iload_n 3, 1) := by decide +kernel
theorem dL_singers_340 : decode cL_singers 340 = .ok (.iconst 2, 1) := by decide +kernel
theorem dL_singers_341 : decode cL_singers 341 = .ok (.invokevirtual 15, 3) := by decide +kernel
theorem dL_singers_344 : decode cL_singers 344 = .ok (.iadd, 1) := by decide +kernel
theorem dL_singers_345 : decode cL_singers 345 = .ok (.istore_n 1, 1) := by decide +kernel
theorem dL_singers_346 : decode cL_singers 346 = .ok (.iload_n 2, 1) := by decide +kernel
theorem dL_singers_347 : decode cL_singers 347 = .ok (.aload_n 0, 1) := by decide +kernel
theorem dL_singers_348 : decode cL_singers 348 = .ok (.iload_n 3, 1) := by decide +kernel
theorem dL_singers_349 : decode cL_singers 349 = .ok (.iconst 3, 1) := by decide +kernel
theorem dL_singers_350 : decode cL_singers 350 = .ok (.invokevirtual 15, 3) := by decide +kernel
theorem dL_singers_353 : decode cL_singers 353 = .ok (.iadd, 1) := by decide +kernel
theorem dL_singers_354 : decode cL_singers 354 = .ok (.istore_n 2, 1) := by decide +kernel
theorem dL_singers_355 : decode cL_singers 355 = .ok (.aload_n 0, 1) := by decide +kernel
theorem dL_singers_356 : decode cL_singers 356 = .ok (.iload_n 3, 1) := by decide +kernel
theorem dL_singers_357 : decode cL_singers 357 = .ok (.iconst 4, 1) := by decide +kernel
theorem dL_singers_358 : decode cL_singers 358 = .ok (.invokevirtual 15, 3) := by decide +kernel
theorem dL_singers_361 : decode cL_singers 361 = .ok (.iload 7, 2) := by decide +kernel
theorem dL_singers_363 : decode cL_singers 363 = .ok (.if_icmp .ne 61, 3) := by decide +kernel
theorem dL_singers_366 : decode cL_singers 366 = .ok (.aload_n 0, 1) := by decide +kernel
theorem dL_singers_367 : decode cL_singers 367 = .ok (.iload_n 3, 1) := by decide +kernel
theorem dL_singers_368 : decode cL_singers 368 = .ok (.iconst 5, 1) := by decide +kernel
theorem dL_singers_369 : decode cL_singers 369 = .ok (.invokevirtual 15, 3) := by decide +kernel
theorem dL_singers_372 : decode cL_singers 372 = .ok (.iload 8, 2) := by decide +kernel
theorem dL_singers_374 : decode cL_singers 374 = .ok (.if_icmp .ne 50, 3) := by decide +kernel
theorem dL_singers_377 : decode cL_singers 377 = .ok (.aload_n 0, 1) := by decide +kernel
theorem dL_singers_378 : decode cL_singers 378 = .ok (.iload_n 3, 1) := by decide +kernel
theorem dL_singers_379 : decode cL_singers 379 = .ok (.bipush 6, 2) := by decide +kernel
theorem dL_singers_381 : decode cL_singers 381 = .ok (.invokevirtual 15, 3) := by decide +kernel
theorem dL_singers_384 : decode cL_singers 384 = .ok (.iload 6, 2) := by decide +kernel
theorem dL_singers_386 : decode cL_singers 386 = .ok (.if_icmp .ne 38, 3) := by decide +kernel
theorem dL_singers_389 : decode cL_singers 389 = .ok (.aload_n 0, 1) := by decide +kernel
theorem dL_singers_390 : decode cL_singers 390 = .ok (.iload_n 3, 1) := by decide +kernel
theorem dL_singers_391 : decode cL_singers 391 = .ok (.bipush 7, 2) := by decide +kernel
theorem dL_singers_393 : decode cL_singers 393 = .ok (.invokevirtual 15, 3) := by decide +kernel
theorem dL_singers_396 : decode cL_singers 396 = .ok (.iload 11, 2) := by decide +kernel
theorem dL_singers_398 : decode cL_singers 398 = .ok (.if_icmp .ne 26, 3) := by decide +kernel
theorem dL_singers_401 : decode cL_singers 401 = .ok (.aload_n 0, 1) := by decide +kernel
theorem dL_singers_402 : decode cL_singers 402 = .ok (.iload_n 3, 1) := by decide +kernel
theorem dL_singers_403 : decode cL_singers 403 = .ok (.iconst 3, 1) := by decide +kernel
theorem dL_singers_404 : decode cL_singers 404 = .ok (.invokevirtual 15, 3) := by decide +kernel
theorem dL_singers_407 : decode cL_singers 407 = .ok (.iload 9, 2) := by decide +kernel
theorem dL_singers_409 : decode cL_singers 409 = .ok (.if_icmp .lt 15, 3) := by decide +kernel
theorem dL_singers_412 : decode cL_singers 412 = .ok (.aload_n 0, 1) := by decide +kernel
theorem dL_singers_413 : decode cL_singers 413 = .ok (.iload_n 3, 1) := by decide +kernel
theorem dL_singers_414 : decode cL_singers 414 = .ok (.bipush 8, 2) := by decide +kernel
theorem dL_singers_416 : decode cL_singers 416 = .ok (.invokevirtual 15, 3) := by decide +kernel
theorem dL_singers_419 : decode cL_singers 419 = .ok (.bipush (-2), 2) := by decide +kernel
theorem dL_singers_421 : decode cL_singers 421 = .ok (.if_icmp .eq 5, 3) := by decide +kernel
theorem dL_singers_424 : decode cL_singers 424 = .ok (.iconst 0, 1) := by decide +kernel
theorem dL_singers_425 : decode cL_singers 425 = .ok (.ireturn, 1) := by decide +kernel
theorem dL_singers_426 : decode cL_singers 426 = .ok (.iinc 3 1, 3) := by decide +kernel
theorem dL_singers_429 : decode cL_singers 429 = .ok (.goto (-423), 3) := by decide +kernel
theorem dL_singers_432 : decode cL_singers 432 = .ok (.aload_n 0, 1) := by decide +kernel
theorem dL_singers_433 : decode cL_singers 433 = .ok (.iconst 4, 1) := by decide +kernel
theorem dL_singers_434 : decode cL_singers 434 = .ok (.invokevirtual 9, 3) := by decide +kernel
theorem dL_singers_437 : decode cL_singers 437 = .ok (.iload_n 1, 1) := by decide +kernel
theorem dL_singers_438 : decode cL_singers 438 = .ok (.if_icmp .ne 31, 3) := by decide +kernel
theorem dL_singers_441 : decode cL_singers 441 = .ok (.aload_n 0, 1) := by decide +kernel
theorem dL_singers_442 : decode cL_singers 442 = .ok (.bipush 6, 2) := by decide +kernel
theorem dL_singers_444 : decode cL_singers 444 = .ok (.invokevirtual 9, 3) := by decide +kernel
theorem dL_singers_447 : decode cL_singers 447 = .ok (.iload_n 2, 1) := by decide +kernel
theorem dL_singers_448 : decode cL_singers 448 = .ok (.if_icmp .ne 21, 3) := by decide +kernel
theorem dL_singers_451 : decode cL_singers 451 = .ok (.aload_n 0, 1) := by decide +kernel
theorem dL_singers_452 : decode cL_singers 452 = .ok (.aload_n 0, 1) := by decide +kernel
theorem dL_singers_453 : decode cL_singers 453 = .ok (.iconst 3, 1) := by decide +kernel
theorem dL_singers_454 : decode cL_singers 454 = .ok (.invokevirtual 9, 3) := by decide +kernel
theorem dL_singers_457 : decode cL_singers 457 = .ok (.iconst 0, 1) := by decide +kernel
theorem dL_singers_458 : decode cL_singers 458 = .ok (.invokevirtual 15, 3) := by decide +kernel
theorem dL_singers_461 : decode cL_singers 461 = .ok (.iconst (-1), 1) := by decide +kernel
theorem dL_singers_462 : decode cL_singers 462 = .ok (.if_icmp .ne 7, 3) := by decide +kernel
theorem dL_singers_465 : decode cL_singers 465 = .ok (.iconst 1, 1) := by decide +kernel
theorem dL_singers_466 : decode cL_singers 466 = .ok (.goto 4, 3) := by decide +kernel
theorem dL_singers_469 : decode cL_singers 469 = .ok (.iconst 0, 1) := by decide +kernel
theorem dL_singers_470 : decode cL_singers 470 = .ok (.ireturn, 1) := by decide +kernel
