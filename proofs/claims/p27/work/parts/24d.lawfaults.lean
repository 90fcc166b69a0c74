set_option maxRecDepth 20000 in
theorem ggL_faults_X7_count : GoodIn wsL_faults wsX7_count := goodIn_r _ [6, 7, 8, 9, 10, 11, 12, 13, 14, 15, 16, 17, 18, 19, 20, 21, 22, 23, 24, 25, 26, 27, 28, 29, 30, 31, 32, 33, 34, 35, 36, 37, 38, 39, 40, 41, 42, 43, 44, 45, 46, 47, 48, 49, 50, 51, 52, 53, 54, 55, 56, 57, 58, 59, 60, 61, 62, 63, 64, 65, 66, 67, 68, 69, 70, 71, 72, 73, 74, 75, 76, 77, 78, 79, 80, 81, 82, 83, 84, 85, 86, 87, 88, 89, 90, 91, 92, 93, 94, 95, 96, 97, 98, 99, 100, 101, 102, 103, 104, 105, 106, 107, 108, 5, 109, 110, 111, 112, 113, 114, 115, 116, 117, 118, 119, 120, 121, 122, 123, 124, 125, 126, 127, 128, 129, 130, 131, 132, 133, 134, 135, 136, 137, 138, 139, 140, 141, 142, 143, 144, 145, 146, 147, 148, 149, 150, 151, 152, 153, 154, 209, 210, 211, 212, 213, 214, 215, 216, 217, 218, 219, 220, 221, 222, 223, 224, 225, 226, 227, 228, 229, 230, 231, 232, 233, 234, 235, 236, 237, 238, 239, 240, 241, 242, 243, 244] (by decide +kernel) (by decide +kernel)
set_option maxRecDepth 20000 in
theorem gL_faults_X7_count : GoodIn wsL_faults (wsV RL 9 RX7 yX7_count wsX7_count) := goodIn_app (goodIn_of _ (by decide +kernel)) ggL_faults_X7_count
set_option maxRecDepth 20000 in
theorem ggL_faults_X7_beat : GoodIn wsL_faults wsX7_beat := goodIn_r _ [158, 7, 159, 160, 11, 12, 161, 162, 163, 21, 164, 23, 165, 30, 31, 32, 33, 34, 166, 40, 41, 42, 28, 24, 25, 26, 27, 29, 167, 111, 112, 113, 114, 115, 116, 60, 61, 62, 63, 64, 65, 66, 67, 68, 69, 70, 71, 72, 73, 74, 75, 76, 77, 78, 79, 80, 81, 82, 83, 84, 85, 86, 87, 88, 89, 90, 91, 92, 93, 94, 95, 96, 97, 98, 99, 100, 101, 102, 103, 104, 105, 106, 107, 47, 108, 5, 109, 110, 117, 118, 119, 120, 59, 121, 122, 123, 124, 125, 126, 127, 128, 129, 130, 131, 168, 169, 170, 171, 172, 173, 174, 175, 49, 50, 51, 52, 53, 54, 209, 210, 211, 212, 213, 214, 215, 216, 217, 218, 219, 220, 221, 222, 223, 224, 225, 226, 227, 228, 237, 238, 239, 240, 241, 242, 243, 244] (by decide +kernel) (by decide +kernel)
set_option maxRecDepth 20000 in
theorem gL_faults_X7_beat : GoodIn wsL_faults (wsV RL 19 RX7 yX7_beat wsX7_beat) := goodIn_app (goodIn_of _ (by decide +kernel)) ggL_faults_X7_beat
set_option maxRecDepth 20000 in
theorem ggL_faults_L_told : GoodIn wsL_faults wsL_told := goodIn_r _ [179, 180, 181, 182, 5, 183, 11, 7, 12, 184, 185, 186, 60, 61, 62, 63, 64, 65, 66, 67, 68, 69, 70, 71, 72, 73, 74, 32, 75, 34, 76, 30, 31, 33, 77, 78, 79, 80, 81, 82, 83, 84, 85, 86, 87, 88, 89, 90, 91, 92, 93, 94, 95, 96, 21, 97, 98, 99, 100, 101, 102, 103, 24, 25, 26, 27, 28, 29, 104, 105, 106, 107, 47, 108, 109, 110, 111, 112, 113, 114, 115, 116, 117, 118, 119, 120, 59, 121, 122, 123, 124, 125, 126, 127, 128, 129, 130, 131, 187, 188, 189, 190, 136, 137, 138, 139, 140, 141, 142, 143, 144, 145, 146, 40, 41, 42, 147, 49, 50, 51, 52, 53, 54, 191, 192, 193, 194, 195, 196, 209, 210, 211, 212, 213, 214, 215, 238, 239, 240, 216, 217, 218, 219, 220, 221, 222, 223, 224, 225, 226, 227, 228, 241, 242, 243, 244, 237] (by decide +kernel) (by decide +kernel)
set_option maxRecDepth 20000 in
theorem gL_faults_L_told : GoodIn wsL_faults (va_wsS RL 34 yL_told wsL_told) := goodIn_app (goodIn_of _ (by decide +kernel)) ggL_faults_L_told
set_option maxRecDepth 20000 in
theorem ggL_faults_X7_does : GoodIn wsL_faults wsX7_does := goodIn_r _ [200, 7, 12, 201, 202, 203, 204, 205, 21, 206, 207, 161, 162, 163, 164, 23, 165, 30, 31, 32, 33, 34, 208, 78, 79, 80, 81, 82, 83, 84, 85, 86, 87, 88, 89, 90, 91, 92, 93, 94, 95, 96, 97, 98, 99, 100, 101, 102, 103, 24, 25, 26, 27, 28, 29, 104, 105, 106, 107, 47, 108, 5, 109, 110, 111, 112, 113, 114, 115, 116, 117, 118, 119, 120, 59, 121, 122, 123, 124, 209, 210, 211, 212, 213, 214, 215, 216, 217, 218, 219, 220, 221, 222, 223, 224, 225, 226, 227, 228, 241, 242, 243, 244, 237] (by decide +kernel) (by decide +kernel)
set_option maxRecDepth 20000 in
theorem gL_faults_X7_does : GoodIn wsL_faults (wsV RL 25 RX7 yX7_does wsX7_does) := goodIn_app (goodIn_of _ (by decide +kernel)) ggL_faults_X7_does
set_option maxRecDepth 20000 in
theorem ggL_faults_X7_fault : GoodIn wsL_faults wsX7_fault := goodIn_r _ [183, 11, 7, 12, 184, 185, 5, 186, 60, 61, 62, 63, 64, 65, 66, 67, 68, 69, 70, 71, 72, 73, 74, 32, 75, 34, 76, 30, 31, 33, 77, 78, 79, 80, 81, 82, 83, 84, 85, 86, 87, 88, 89, 90, 91, 92, 93, 94, 95, 96, 21, 97, 98, 99, 100, 101, 102, 103, 24, 25, 26, 27, 28, 29, 104, 105, 106, 107, 47, 108, 109, 110, 111, 112, 113, 114, 115, 116, 117, 118, 119, 120, 59, 121, 122, 123, 124, 125, 126, 127, 128, 129, 130, 131, 187, 188, 189, 190, 136, 137, 138, 139, 140, 141, 142, 143, 144, 145, 146, 40, 41, 42, 147, 49, 50, 51, 52, 53, 54, 191, 192, 193, 194, 195, 196, 209, 210, 211, 212, 213, 214, 215, 238, 239, 240, 216, 217, 218, 219, 220, 221, 222, 223, 224, 225, 226, 227, 228, 241, 242, 243, 244, 237] (by decide +kernel) (by decide +kernel)
set_option maxRecDepth 20000 in
theorem gL_faults_X7_fault : GoodIn wsL_faults (wsV RL 31 RX7 yX7_fault wsX7_fault) := goodIn_app (goodIn_of _ (by decide +kernel)) ggL_faults_X7_fault
theorem dL_faults_0 : decode cL_faults 0 = .ok (.iconst 0, 1) := by decide +kernel
theorem dL_faults_1 : decode cL_faults 1 = .ok (.istore_n 1, 1) := by decide +kernel
theorem dL_faults_2 : decode cL_faults 2 = .ok (.iconst 4, 1) := by decide +kernel
theorem dL_faults_3 : decode cL_faults 3 = .ok (.newarray .int, 2) := by decide +kernel
theorem dL_faults_5 : decode cL_faults 5 = .ok (.astore_n 2, 1) := by decide +kernel
theorem dL_faults_6 : decode cL_faults 6 = .ok (.iconst 0, 1) := by decide +kernel
theorem dL_faults_7 : decode cL_faults 7 = .ok (.istore_n 3, 1) := by decide +kernel
theorem dL_faults_8 : decode cL_faults 8 = .ok (.iload_n 3, 1) := by decide +kernel
theorem dL_faults_9 : decode cL_faults 9 = .ok (.aload_n 0, 1) := by decide +kernel
theorem dL_faults_10 : decode cL_faults 10 = .ok (.iconst 0, 1) := by decide +kernel
theorem dL_faults_11 : decode cL_faults 11 = .ok (.invokevirtual 9, 3) := by decide +kernel
theorem dL_faults_14 : decode cL_faults 14 = .ok (.if_icmp .ge 213, 3) := by decide +kernel
theorem dL_faults_17 : decode cL_faults 17 = .ok (.aload_n 0, 1) := by decide +kernel
theorem dL_faults_18 : decode cL_faults 18 = .ok (.iload_n 3, 1) := by decide +kernel
theorem dL_faults_19 : decode cL_faults 19 = .ok (.iconst 0, 1) := by decide +kernel
theorem dL_faults_20 : decode cL_faults 20 = .ok (.invokevirtual 19, 3) := by decide +kernel
theorem dL_faults_23 : decode cL_faults 23 = .ok (.ifCond .le 36, 3) := by decide +kernel
theorem dL_faults_26 : decode cL_faults 26 = .ok (.aload_n 0, 1) := by decide +kernel
theorem dL_faults_27 : decode cL_faults 27 = .ok (.iload_n 3, 1) := by decide +kernel
theorem dL_faults_28 : decode cL_faults 28 = .ok (.iconst 3, 1) := by decide +kernel
theorem dL_faults_29 : decode cL_faults 29 = .ok (.invokevirtual 19, 3) := by decide +kernel
theorem dL_faults_32 : decode cL_faults 32 = .ok (.ifCond .ne 27, 3) := by decide +kernel
theorem dL_faults_35 : decode cL_faults 35 = .ok (.aload_n 0, 1) := by decide +kernel
theorem dL_faults_36 : decode cL_faults 36 = .ok (.iload_n 1, 1) := by decide +kernel
theorem dL_faults_37 : decode cL_faults 37 = .ok (.iconst 0, 1) := by decide +kernel
theorem dL_faults_38 : decode cL_faults 38 = .ok (.iload_n 3, 1) := by decide +kernel
theorem dL_faults_39 : decode cL_faults 39 = .ok (.bipush (-5), 2) := by decide +kernel
theorem dL_faults_41 : decode cL_faults 41 = .ok (.invokestatic 34, 3) := by decide +kernel
theorem dL_faults_44 : decode cL_faults 44 = .ok (.ifCond .ne 5, 3) := by decide +kernel
theorem dL_faults_47 : decode cL_faults 47 = .ok (.iconst 0, 1) := by decide +kernel
theorem dL_faults_48 : decode cL_faults 48 = .ok (.ireturn, 1) := by decide +kernel
theorem dL_faults_49 : decode cL_faults 49 = .ok (.aload_n 2, 1) := by decide +kernel
theorem dL_faults_50 : decode cL_faults 50 = .ok (.iconst 0, 1) := by decide +kernel
theorem dL_faults_51 : decode cL_faults 51 = .ok (.dup2, 1) := by decide +kernel
theorem dL_faults_52 : decode cL_faults 52 = .ok (.iaload, 1) := by decide +kernel
theorem dL_faults_53 : decode cL_faults 53 = .ok (.iconst 1, 1) := by decide +kernel
theorem dL_faults_54 : decode cL_faults 54 = .ok (.iadd, 1) := by decide +kernel
theorem dL_faults_55 : decode cL_faults 55 = .ok (.iastore, 1) := by decide +kernel
theorem dL_faults_56 : decode cL_faults 56 = .ok (.iinc 1 1, 3) := by decide +kernel
theorem dL_faults_59 : decode cL_faults 59 = .ok (.iconst 1, 1) := by decide +kernel
theorem dL_faults_60 : decode cL_faults 60 = .ok (.istore 4, 2) := by decide +kernel
theorem dL_faults_62 : decode cL_faults 62 = .ok (.iload 4, 2) := by decide +kernel
theorem dL_faults_64 : decode cL_faults 64 = .ok (.iconst 4, 1) := by decide +kernel
theorem dL_faults_65 : decode cL_faults 65 = .ok (.if_icmp .ge 156, 3) := by decide +kernel
theorem dL_faults_68 : decode cL_faults 68 = .ok (.iconst 0, 1) := by decide +kernel
theorem dL_faults_69 : decode cL_faults 69 = .ok (.istore 5, 2) := by decide +kernel
theorem dL_faults_71 : decode cL_faults 71 = .ok (.iload 5, 2) := by decide +kernel
theorem dL_faults_73 : decode cL_faults 73 = .ok (.aload_n 0, 1) := by decide +kernel
theorem dL_faults_74 : decode cL_faults 74 = .ok (.iconst 3, 1) := by decide +kernel
theorem dL_faults_75 : decode cL_faults 75 = .ok (.invokevirtual 9, 3) := by decide +kernel
theorem dL_faults_78 : decode cL_faults 78 = .ok (.if_icmp .ge 137, 3) := by decide +kernel
theorem dL_faults_81 : decode cL_faults 81 = .ok (.aload_n 0, 1) := by decide +kernel
theorem dL_faults_82 : decode cL_faults 82 = .ok (.iload 5, 2) := by decide +kernel
theorem dL_faults_84 : decode cL_faults 84 = .ok (.iload_n 3, 1) := by decide +kernel
theorem dL_faults_85 : decode cL_faults 85 = .ok (.invokevirtual 25, 3) := by decide +kernel
theorem dL_faults_88 : decode cL_faults 88 = .ok (.istore 6, 2) := by decide +kernel
theorem dL_faults_90 : decode cL_faults 90 = .ok (.aload_n 0, 1) := by decide +kernel
theorem dL_faults_91 : decode cL_faults 91 = .ok (.iload_n 3, 1) := by decide +kernel
theorem dL_faults_92 : decode cL_faults 92 = .ok (.iconst 4, 1) := by decide +kernel
theorem dL_faults_93 : decode cL_faults 93 = .ok (.invokevirtual 19, 3) := by decide +kernel
theorem dL_faults_96 : decode cL_faults 96 = .ok (.ifCond .lt 7, 3) := by decide +kernel
theorem dL_faults_99 : decode cL_faults 99 = .ok (.iconst 1, 1) := by decide +kernel
theorem dL_faults_100 : decode cL_faults 100 = .ok (.goto 4, 3) := by decide +kernel
theorem dL_faults_103 : decode cL_faults 103 = .ok (.iconst 0, 1) := by decide +kernel
theorem dL_faults_104 : decode cL_faults 104 = .ok (.istore 7, 2) := by decide +kernel
theorem dL_faults_106 : decode cL_faults 106 = .ok (.iload 4, 2) := by decide +kernel
theorem dL_faults_108 : decode cL_faults 108 = .ok (.iconst 1, 1) := by decide +kernel
theorem dL_faults_109 : decode cL_faults 109 = .ok (.if_icmp .ne 17, 3) := by decide +kernel
theorem dL_faults_112 : decode cL_faults 112 = .ok (.iload 6, 2) := by decide +kernel
theorem dL_faults_114 : decode cL_faults 114 = .ok (.iconst 2, 1) := by decide +kernel
theorem dL_faults_115 : decode cL_faults 115 = .ok (.if_icmp .ne 7, 3) := by decide +kernel
theorem dL_faults_118 : decode cL_faults 118 = .ok (.iconst 1, 1) := by decide +kernel
theorem dL_faults_119 : decode cL_faults 119 = .ok (.goto 57, 3) := by decide +kernel
theorem dL_faults_122 : decode cL_faults 122 = .ok (.iconst 0, 1) := by decide +kernel
theorem dL_faults_123 : decode cL_faults 123 = .ok (.goto 53, 3) := by decide +kernel
theorem dL_faults_126 : decode cL_faults 126 = .ok (.iload 6, 2) := by decide +kernel
theorem dL_faults_128 : decode cL_faults 128 = .ok (.iconst 1, 1) := by decide +kernel
theorem dL_faults_129 : decode cL_faults 129 = .ok (.if_icmp .ne 46, 3) := by decide +kernel
theorem dL_faults_132 : decode cL_faults 132 = .ok (.iload 4, 2) := by decide +kernel
theorem dL_faults_134 : decode cL_faults 134 = .ok (.iconst 3, 1) := by decide +kernel
theorem dL_faults_135 : decode cL_faults 135 = .ok (.if_icmp .ne 11, 3) := by decide +kernel
theorem dL_faults_138 : decode cL_faults 138 = .ok (.iload 7, 2) := by decide +kernel
theorem dL_faults_140 : decode cL_faults 140 = .ok (.ifCond .eq 35, 3) := by decide +kernel
theorem dL_faults_143 : decode cL_faults 143 = .ok (.goto 28, 3) := by decide +kernel
theorem dL_faults_146 : decode cL_faults 146 = .ok (.iload 7, 2) := by decide +kernel
theorem dL_faults_148 : decode cL_faults 148 = .ok (.ifCond .ne 27, 3) := by decide +kernel
theorem dL_faults_151 : decode cL_faults 151 = .ok (.aload_n 0, 1) := by decide +kernel
theorem dL_faults_152 : decode cL_faults 152 = .ok (.iload_n 3, 1) := by decide +kernel
theorem dL_faults_153 : decode cL_faults 153 = .ok (.iconst 2, 1) := by decide +kernel
theorem dL_faults_154 : decode cL_faults 154 = .ok (.invokevirtual 19, 3) := by decide +kernel
theorem dL_faults_157 : decode cL_faults 157 = .ok (.iload_n 3, 1) := by decide +kernel
theorem dL_faults_158 : decode cL_faults 158 = .ok (.if_icmp .eq 17, 3) := by decide +kernel
theorem dL_faults_161 : decode cL_faults 161 = .ok (.aload_n 0, 1) := by decide +kernel
theorem dL_faults_162 : decode cL_faults 162 = .ok (.iload_n 3, 1) := by decide +kernel
theorem dL_faults_163 : decode cL_faults 163 = .ok (.iconst 3, 1) := by decide +kernel
theorem dL_faults_164 : decode cL_faults 164 = .ok (.invokevirtual 19, 3) := by decide +kernel
theorem dL_faults_167 : decode cL_faults 167 = .ok (.iconst 2, 1) := by decide +kernel
theorem dL_faults_168 : decode cL_faults 168 = .ok (.if_icmp .ge 7, 3) := by decide +kernel
theorem dL_faults_171 : decode cL_faults 171 = .ok (.iconst 1, 1) := by decide +kernel
theorem dL_faults_172 : decode cL_faults 172 = .ok (.goto 4, 3) := by decide +kernel
theorem dL_faults_175 : decode cL_faults 175 = .ok (.iconst 0, 1) := by decide +kernel
theorem dL_faults_176 : decode cL_faults 176 = .ok (.istore 8, 2) := by decide +kernel
theorem dL_faults_178 : decode cL_faults 178 = .ok (.iload 8, 2) := by decide +kernel
theorem dL_faults_180 : decode cL_faults 180 = .ok (.ifCond .eq 29, 3) := by decide +kernel
theorem dL_faults_183 : decode cL_faults 183 = .ok (.aload_n 0, 1) := by decide +kernel
theorem dL_faults_184 : decode cL_faults 184 = .ok (.iload_n 1, 1) := by decide +kernel
theorem dL_faults_185 : decode cL_faults 185 = .ok (.iload 4, 2) := by decide +kernel
theorem dL_faults_187 : decode cL_faults 187 = .ok (.iload_n 3, 1) := by decide +kernel
theorem dL_faults_188 : decode cL_faults 188 = .ok (.iload 5, 2) := by decide +kernel
theorem dL_faults_190 : decode cL_faults 190 = .ok (.invokestatic 34, 3) := by decide +kernel
theorem dL_faults_193 : decode cL_faults 193 = .ok (.ifCond .ne 5, 3) := by decide +kernel
theorem dL_faults_196 : decode cL_faults 196 = .ok (.iconst 0, 1) := by decide +kernel
theorem dL_faults_197 : decode cL_faults 197 = .ok (.ireturn, 1) := by decide +kernel
theorem dL_faults_198 : decode cL_faults 198 = .ok (.aload_n 2, 1) := by decide +kernel
theorem dL_faults_199 : decode cL_faults 199 = .ok (.iload 4, 2) := by decide +kernel
theorem dL_faults_201 : decode cL_faults 201 = .ok (.dup2, 1) := by decide +kernel
theorem dL_faults_202 : decode cL_faults 202 = .ok (.iaload, 1) := by decide +kernel
theorem dL_faults_203 : decode cL_faults 203 = .ok (.iconst 1, 1) := by decide +kernel
theorem dL_faults_204 : decode cL_faults 204 = .ok (.iadd, 1) := by decide +kernel
theorem dL_faults_205 : decode cL_faults 205 = .ok (.iastore, 1) := by decide +kernel
theorem dL_faults_206 : decode cL_faults 206 = .ok (.iinc 1 1, 3) := by decide +kernel
theorem dL_faults_209 : decode cL_faults 209 = .ok (.iinc 5 1, 3) := by decide +kernel
theorem dL_faults_212 : decode cL_faults 212 = .ok (.goto (-141), 3) := by decide +kernel
theorem dL_faults_215 : decode cL_faults 215 = .ok (.iinc 4 1, 3) := by decide +kernel
theorem dL_faults_218 : decode cL_faults 218 = .ok (.goto (-156), 3) := by decide +kernel
theorem dL_faults_221 : decode cL_faults 221 = .ok (.iinc 3 1, 3) := by decide +kernel
theorem dL_faults_224 : decode cL_faults 224 = .ok (.goto (-216), 3) := by decide +kernel
theorem dL_faults_227 : decode cL_faults 227 = .ok (.aload_n 0, 1) := by decide +kernel
theorem dL_faults_228 : decode cL_faults 228 = .ok (.bipush 7, 2) := by decide +kernel
theorem dL_faults_230 : decode cL_faults 230 = .ok (.invokevirtual 9, 3) := by decide +kernel
theorem dL_faults_233 : decode cL_faults 233 = .ok (.iload_n 1, 1) := by decide +kernel
theorem dL_faults_234 : decode cL_faults 234 = .ok (.if_icmp .ne 7, 3) := by decide +kernel
theorem dL_faults_237 : decode cL_faults 237 = .ok (.iconst 1, 1) := by decide +kernel
theorem dL_faults_238 : decode cL_faults 238 = .ok (.goto 4, 3) := by decide +kernel
theorem dL_faults_241 : decode cL_faults 241 = .ok (.iconst 0, 1) := by decide +kernel
theorem dL_faults_242 : decode cL_faults 242 = .ok (.istore_n 3, 1) := by decide +kernel
theorem dL_faults_243 : decode cL_faults 243 = .ok (.iconst 0, 1) := by decide +kernel
theorem dL_faults_244 : decode cL_faults 244 = .ok (.istore 4, 2) := by decide +kernel
theorem dL_faults_246 : decode cL_faults 246 = .ok (.iload 4, 2) := by decide +kernel
theorem dL_faults_248 : decode cL_faults 248 = .ok (.iconst 4, 1) := by decide +kernel
theorem dL_faults_249 : decode cL_faults 249 = .ok (.if_icmp .ge 35, 3) := by decide +kernel
theorem dL_faults_252 : decode cL_faults 252 = .ok (.iload_n 3, 1) := by decide +kernel
theorem dL_faults_253 : decode cL_faults 253 = .ok (.ifCond .eq 23, 3) := by decide +kernel
theorem dL_faults_256 : decode cL_faults 256 = .ok (.aload_n 0, 1) := by decide +kernel
theorem dL_faults_257 : decode cL_faults 257 = .ok (.bipush 8, 2) := by decide +kernel
theorem dL_faults_259 : decode cL_faults 259 = .ok (.iload 4, 2) := by decide +kernel
theorem dL_faults_261 : decode cL_faults 261 = .ok (.iadd, 1) := by decide +kernel
theorem dL_faults_262 : decode cL_faults 262 = .ok (.invokevirtual 9, 3) := by decide +kernel
theorem dL_faults_265 : decode cL_faults 265 = .ok (.aload_n 2, 1) := by decide +kernel
theorem dL_faults_266 : decode cL_faults 266 = .ok (.iload 4, 2) := by decide +kernel
theorem dL_faults_268 : decode cL_faults 268 = .ok (.iaload, 1) := by decide +kernel
theorem dL_faults_269 : decode cL_faults 269 = .ok (.if_icmp .ne 7, 3) := by decide +kernel
theorem dL_faults_272 : decode cL_faults 272 = .ok (.iconst 1, 1) := by decide +kernel
theorem dL_faults_273 : decode cL_faults 273 = .ok (.goto 4, 3) := by decide +kernel
theorem dL_faults_276 : decode cL_faults 276 = .ok (.iconst 0, 1) := by decide +kernel
theorem dL_faults_277 : decode cL_faults 277 = .ok (.istore_n 3, 1) := by decide +kernel
theorem dL_faults_278 : decode cL_faults 278 = .ok (.iinc 4 1, 3) := by decide +kernel
theorem dL_faults_281 : decode cL_faults 281 = .ok (.goto (-35), 3) := by decide +kernel
theorem dL_faults_284 : decode cL_faults 284 = .ok (.iload_n 3, 1) := by decide +kernel
theorem dL_faults_285 : decode cL_faults 285 = .ok (.ifCond .eq 51, 3) := by decide +kernel
theorem dL_faults_288 : decode cL_faults 288 = .ok (.aload_n 0, 1) := by decide +kernel
theorem dL_faults_289 : decode cL_faults 289 = .ok (.iload_n 1, 1) := by decide +kernel
theorem dL_faults_290 : decode cL_faults 290 = .ok (.iconst 0, 1) := by decide +kernel
theorem dL_faults_291 : decode cL_faults 291 = .ok (.invokevirtual 31, 3) := by decide +kernel
theorem dL_faults_294 : decode cL_faults 294 = .ok (.bipush (-5), 2) := by decide +kernel
theorem dL_faults_296 : decode cL_faults 296 = .ok (.if_icmp .ne 40, 3) := by decide +kernel
theorem dL_faults_299 : decode cL_faults 299 = .ok (.aload_n 0, 1) := by decide +kernel
theorem dL_faults_300 : decode cL_faults 300 = .ok (.iconst (-1), 1) := by decide +kernel
theorem dL_faults_301 : decode cL_faults 301 = .ok (.iconst 0, 1) := by decide +kernel
theorem dL_faults_302 : decode cL_faults 302 = .ok (.invokevirtual 31, 3) := by decide +kernel
theorem dL_faults_305 : decode cL_faults 305 = .ok (.bipush (-2), 2) := by decide +kernel
theorem dL_faults_307 : decode cL_faults 307 = .ok (.if_icmp .ne 29, 3) := by decide +kernel
theorem dL_faults_310 : decode cL_faults 310 = .ok (.aload_n 0, 1) := by decide +kernel
theorem dL_faults_311 : decode cL_faults 311 = .ok (.iconst 0, 1) := by decide +kernel
theorem dL_faults_312 : decode cL_faults 312 = .ok (.iconst 3, 1) := by decide +kernel
theorem dL_faults_313 : decode cL_faults 313 = .ok (.invokevirtual 31, 3) := by decide +kernel
theorem dL_faults_316 : decode cL_faults 316 = .ok (.bipush (-2), 2) := by decide +kernel
theorem dL_faults_318 : decode cL_faults 318 = .ok (.if_icmp .ne 18, 3) := by decide +kernel
theorem dL_faults_321 : decode cL_faults 321 = .ok (.aload_n 0, 1) := by decide +kernel
theorem dL_faults_322 : decode cL_faults 322 = .ok (.bipush 16, 2) := by decide +kernel
theorem dL_faults_324 : decode cL_faults 324 = .ok (.invokevirtual 9, 3) := by decide +kernel
theorem dL_faults_327 : decode cL_faults 327 = .ok (.bipush (-2), 2) := by decide +kernel
theorem dL_faults_329 : decode cL_faults 329 = .ok (.if_icmp .ne 7, 3) := by decide +kernel
theorem dL_faults_332 : decode cL_faults 332 = .ok (.iconst 1, 1) := by decide +kernel
theorem dL_faults_333 : decode cL_faults 333 = .ok (.goto 4, 3) := by decide +kernel
theorem dL_faults_336 : decode cL_faults 336 = .ok (.iconst 0, 1) := by decide +kernel
theorem dL_faults_337 : decode cL_faults 337 = .ok (.ireturn, 1) := by decide +kernel
set_option maxRecDepth 20000 in
theorem ggL_solos_X7_count : GoodIn wsL_solos wsX7_count := goodIn_r _ [5, 6, 7, 8, 9, 10, 11, 12, 13, 14, 15, 16, 17, 18, 19, 20, 21, 22, 23, 24, 25, 26, 27, 28, 29, 30, 31, 32, 33, 34, 35, 36, 37, 38, 39, 40, 41, 42, 43, 44, 45, 46, 47, 48, 49, 50, 51, 52, 53, 54, 55, 56, 57, 58, 59, 60, 61, 62, 63, 64, 65, 66, 67, 68, 69, 70, 71, 72, 73, 74, 75, 76, 77, 78, 79, 80, 81, 82, 83, 84, 85, 86, 87, 88, 89, 90, 91, 92, 93, 94, 95, 96, 97, 98, 99, 100, 101, 102, 103, 104, 105, 106, 107, 4, 108, 109, 110, 111, 112, 113, 114, 115, 116, 117, 118, 119, 120, 121, 122, 123, 124, 125, 126, 127, 128, 129, 130, 131, 132, 133, 134, 135, 136, 137, 138, 139, 140, 141, 142, 143, 144, 145, 146, 147, 148, 149, 150, 151, 152, 153, 186, 187, 188, 189, 190, 191, 192, 193, 194, 195, 196, 197, 198, 199, 200, 201, 202, 203, 204, 205, 206, 207, 208, 209, 210, 211, 212, 213, 214, 215, 216, 217, 218, 219, 220, 221] (by decide +kernel) (by decide +kernel)
set_option maxRecDepth 20000 in
theorem gL_solos_X7_count : GoodIn wsL_solos (wsV RL 9 RX7 yX7_count wsX7_count) := goodIn_app (goodIn_of _ (by decide +kernel)) ggL_solos_X7_count
set_option maxRecDepth 20000 in
theorem ggL_solos_X7_solo : GoodIn wsL_solos wsX7_solo := goodIn_r _ [157, 6, 158, 159, 160, 161, 162, 163, 20, 164, 113, 165, 29, 30, 31, 32, 33, 186, 187, 188, 189, 190, 191, 192, 193, 194, 195, 196, 197, 198, 199, 200, 201, 202, 203, 204, 205, 214] (by decide +kernel) (by decide +kernel)
set_option maxRecDepth 20000 in
theorem gL_solos_X7_solo : GoodIn wsL_solos (wsV RL 22 RX7 yX7_solo wsX7_solo) := goodIn_app (goodIn_of _ (by decide +kernel)) ggL_solos_X7_solo
set_option maxRecDepth 20000 in
theorem ggL_solos_X7_beat : GoodIn wsL_solos wsX7_beat := goodIn_r _ [169, 6, 170, 171, 10, 11, 172, 173, 174, 20, 175, 22, 165, 29, 30, 31, 32, 33, 176, 39, 40, 41, 27, 23, 24, 25, 26, 28, 177, 110, 111, 112, 113, 114, 115, 59, 60, 61, 62, 63, 64, 65, 66, 67, 68, 69, 70, 71, 72, 73, 74, 75, 76, 77, 78, 79, 80, 81, 82, 83, 84, 85, 86, 87, 88, 89, 90, 91, 92, 93, 94, 95, 96, 97, 98, 99, 100, 101, 102, 103, 104, 105, 106, 46, 107, 4, 108, 109, 116, 117, 118, 119, 58, 120, 121, 122, 123, 124, 125, 126, 127, 128, 129, 130, 178, 179, 180, 181, 182, 183, 184, 185, 48, 49, 50, 51, 52, 53, 186, 187, 188, 189, 190, 191, 192, 193, 194, 195, 196, 197, 198, 199, 200, 201, 202, 203, 204, 205, 214, 215, 216, 217, 218, 219, 220, 221] (by decide +kernel) (by decide +kernel)
set_option maxRecDepth 20000 in
theorem gL_solos_X7_beat : GoodIn wsL_solos (wsV RL 19 RX7 yX7_beat wsX7_beat) := goodIn_app (goodIn_of _ (by decide +kernel)) ggL_solos_X7_beat
theorem dL_solos_0 : decode cL_solos 0 = .ok (.iconst (-1), 1) := by decide +kernel
theorem dL_solos_1 : decode cL_solos 1 = .ok (.istore_n 1, 1) := by decide +kernel
theorem dL_solos_2 : decode cL_solos 2 = .ok (.iconst 0, 1) := by decide +kernel
theorem dL_solos_3 : decode cL_solos 3 = .ok (.istore_n 2, 1) := by decide +kernel
theorem dL_solos_4 : decode cL_solos 4 = .ok (.iload_n 2, 1) := by decide +kernel
theorem dL_solos_5 : decode cL_solos 5 = .ok (.aload_n 0, 1) := by decide +kernel
theorem dL_solos_6 : decode cL_solos 6 = .ok (.iconst 5, 1) := by decide +kernel
theorem dL_solos_7 : decode cL_solos 7 = .ok (.invokevirtual 9, 3) := by decide +kernel
theorem dL_solos_10 : decode cL_solos 10 = .ok (.if_icmp .ge 63, 3) := by decide +kernel
theorem dL_solos_13 : decode cL_solos 13 = .ok (.aload_n 0, 1) := by decide +kernel
theorem dL_solos_14 : decode cL_solos 14 = .ok (.iload_n 2, 1) := by decide +kernel
theorem dL_solos_15 : decode cL_solos 15 = .ok (.iconst 1, 1) := by decide +kernel
theorem dL_solos_16 : decode cL_solos 16 = .ok (.invokevirtual 22, 3) := by decide +kernel
theorem dL_solos_19 : decode cL_solos 19 = .ok (.iload_n 1, 1) := by decide +kernel
theorem dL_solos_20 : decode cL_solos 20 = .ok (.if_icmp .le 38, 3) := by decide +kernel
theorem dL_solos_23 : decode cL_solos 23 = .ok (.aload_n 0, 1) := by decide +kernel
theorem dL_solos_24 : decode cL_solos 24 = .ok (.iload_n 2, 1) := by decide +kernel
theorem dL_solos_25 : decode cL_solos 25 = .ok (.iconst 2, 1) := by decide +kernel
theorem dL_solos_26 : decode cL_solos 26 = .ok (.invokevirtual 22, 3) := by decide +kernel
theorem dL_solos_29 : decode cL_solos 29 = .ok (.aload_n 0, 1) := by decide +kernel
theorem dL_solos_30 : decode cL_solos 30 = .ok (.iload_n 2, 1) := by decide +kernel
theorem dL_solos_31 : decode cL_solos 31 = .ok (.iconst 1, 1) := by decide +kernel
theorem dL_solos_32 : decode cL_solos 32 = .ok (.invokevirtual 22, 3) := by decide +kernel
theorem dL_solos_35 : decode cL_solos 35 = .ok (.if_icmp .lt 23, 3) := by decide +kernel
theorem dL_solos_38 : decode cL_solos 38 = .ok (.aload_n 0, 1) := by decide +kernel
theorem dL_solos_39 : decode cL_solos 39 = .ok (.iload_n 2, 1) := by decide +kernel
theorem dL_solos_40 : decode cL_solos 40 = .ok (.iconst 0, 1) := by decide +kernel
theorem dL_solos_41 : decode cL_solos 41 = .ok (.invokevirtual 22, 3) := by decide +kernel
theorem dL_solos_44 : decode cL_solos 44 = .ok (.ifCond .lt 14, 3) := by decide +kernel
theorem dL_solos_47 : decode cL_solos 47 = .ok (.aload_n 0, 1) := by decide +kernel
theorem dL_solos_48 : decode cL_solos 48 = .ok (.iload_n 2, 1) := by decide +kernel
theorem dL_solos_49 : decode cL_solos 49 = .ok (.iconst 3, 1) := by decide +kernel
theorem dL_solos_50 : decode cL_solos 50 = .ok (.invokevirtual 22, 3) := by decide +kernel
theorem dL_solos_53 : decode cL_solos 53 = .ok (.bipush (-2), 2) := by decide +kernel
theorem dL_solos_55 : decode cL_solos 55 = .ok (.if_icmp .eq 5, 3) := by decide +kernel
theorem dL_solos_58 : decode cL_solos 58 = .ok (.iconst 0, 1) := by decide +kernel
theorem dL_solos_59 : decode cL_solos 59 = .ok (.ireturn, 1) := by decide +kernel
theorem dL_solos_60 : decode cL_solos 60 = .ok (.aload_n 0, 1) := by decide +kernel
theorem dL_solos_61 : decode cL_solos 61 = .ok (.iload_n 2, 1) := by decide +kernel
theorem dL_solos_62 : decode cL_solos 62 = .ok (.iconst 2, 1) := by decide +kernel
theorem dL_solos_63 : decode cL_solos 63 = .ok (.invokevirtual 22, 3) := by decide +kernel
theorem dL_solos_66 : decode cL_solos 66 = .ok (.istore_n 1, 1) := by decide +kernel
theorem dL_solos_67 : decode cL_solos 67 = .ok (.iinc 2 1, 3) := by decide +kernel
theorem dL_solos_70 : decode cL_solos 70 = .ok (.goto (-66), 3) := by decide +kernel
theorem dL_solos_73 : decode cL_solos 73 = .ok (.iconst 0, 1) := by decide +kernel
theorem dL_solos_74 : decode cL_solos 74 = .ok (.istore_n 2, 1) := by decide +kernel
theorem dL_solos_75 : decode cL_solos 75 = .ok (.iload_n 2, 1) := by decide +kernel
theorem dL_solos_76 : decode cL_solos 76 = .ok (.aload_n 0, 1) := by decide +kernel
theorem dL_solos_77 : decode cL_solos 77 = .ok (.iconst 0, 1) := by decide +kernel
theorem dL_solos_78 : decode cL_solos 78 = .ok (.invokevirtual 9, 3) := by decide +kernel
theorem dL_solos_81 : decode cL_solos 81 = .ok (.if_icmp .ge 72, 3) := by decide +kernel
theorem dL_solos_84 : decode cL_solos 84 = .ok (.bipush (-5), 2) := by decide +kernel
theorem dL_solos_86 : decode cL_solos 86 = .ok (.istore_n 3, 1) := by decide +kernel
theorem dL_solos_87 : decode cL_solos 87 = .ok (.iconst 0, 1) := by decide +kernel
theorem dL_solos_88 : decode cL_solos 88 = .ok (.istore 4, 2) := by decide +kernel
theorem dL_solos_90 : decode cL_solos 90 = .ok (.iload 4, 2) := by decide +kernel
theorem dL_solos_92 : decode cL_solos 92 = .ok (.aload_n 0, 1) := by decide +kernel
theorem dL_solos_93 : decode cL_solos 93 = .ok (.iconst 5, 1) := by decide +kernel
theorem dL_solos_94 : decode cL_solos 94 = .ok (.invokevirtual 9, 3) := by decide +kernel
theorem dL_solos_97 : decode cL_solos 97 = .ok (.if_icmp .ge 38, 3) := by decide +kernel
theorem dL_solos_100 : decode cL_solos 100 = .ok (.iload_n 2, 1) := by decide +kernel
theorem dL_solos_101 : decode cL_solos 101 = .ok (.aload_n 0, 1) := by decide +kernel
theorem dL_solos_102 : decode cL_solos 102 = .ok (.iload 4, 2) := by decide +kernel
theorem dL_solos_104 : decode cL_solos 104 = .ok (.iconst 1, 1) := by decide +kernel
theorem dL_solos_105 : decode cL_solos 105 = .ok (.invokevirtual 22, 3) := by decide +kernel
theorem dL_solos_108 : decode cL_solos 108 = .ok (.if_icmp .lt 19, 3) := by decide +kernel
theorem dL_solos_111 : decode cL_solos 111 = .ok (.iload_n 2, 1) := by decide +kernel
theorem dL_solos_112 : decode cL_solos 112 = .ok (.aload_n 0, 1) := by decide +kernel
theorem dL_solos_113 : decode cL_solos 113 = .ok (.iload 4, 2) := by decide +kernel
theorem dL_solos_115 : decode cL_solos 115 = .ok (.iconst 2, 1) := by decide +kernel
theorem dL_solos_116 : decode cL_solos 116 = .ok (.invokevirtual 22, 3) := by decide +kernel
theorem dL_solos_119 : decode cL_solos 119 = .ok (.if_icmp .gt 8, 3) := by decide +kernel
theorem dL_solos_122 : decode cL_solos 122 = .ok (.iload 4, 2) := by decide +kernel
theorem dL_solos_124 : decode cL_solos 124 = .ok (.goto 4, 3) := by decide +kernel
theorem dL_solos_127 : decode cL_solos 127 = .ok (.iload_n 3, 1) := by decide +kernel
theorem dL_solos_128 : decode cL_solos 128 = .ok (.istore_n 3, 1) := by decide +kernel
theorem dL_solos_129 : decode cL_solos 129 = .ok (.iinc 4 1, 3) := by decide +kernel
theorem dL_solos_132 : decode cL_solos 132 = .ok (.goto (-42), 3) := by decide +kernel
theorem dL_solos_135 : decode cL_solos 135 = .ok (.aload_n 0, 1) := by decide +kernel
theorem dL_solos_136 : decode cL_solos 136 = .ok (.iload_n 2, 1) := by decide +kernel
theorem dL_solos_137 : decode cL_solos 137 = .ok (.iconst 4, 1) := by decide +kernel
theorem dL_solos_138 : decode cL_solos 138 = .ok (.invokevirtual 19, 3) := by decide +kernel
theorem dL_solos_141 : decode cL_solos 141 = .ok (.iload_n 3, 1) := by decide +kernel
theorem dL_solos_142 : decode cL_solos 142 = .ok (.if_icmp .eq 5, 3) := by decide +kernel
theorem dL_solos_145 : decode cL_solos 145 = .ok (.iconst 0, 1) := by decide +kernel
theorem dL_solos_146 : decode cL_solos 146 = .ok (.ireturn, 1) := by decide +kernel
theorem dL_solos_147 : decode cL_solos 147 = .ok (.iinc 2 1, 3) := by decide +kernel
theorem dL_solos_150 : decode cL_solos 150 = .ok (.goto (-75), 3) := by decide +kernel
theorem dL_solos_153 : decode cL_solos 153 = .ok (.aload_n 0, 1) := by decide +kernel
theorem dL_solos_154 : decode cL_solos 154 = .ok (.aload_n 0, 1) := by decide +kernel
theorem dL_solos_155 : decode cL_solos 155 = .ok (.iconst 5, 1) := by decide +kernel
theorem dL_solos_156 : decode cL_solos 156 = .ok (.invokevirtual 9, 3) := by decide +kernel
theorem dL_solos_159 : decode cL_solos 159 = .ok (.iconst 0, 1) := by decide +kernel
theorem dL_solos_160 : decode cL_solos 160 = .ok (.invokevirtual 22, 3) := by decide +kernel
theorem dL_solos_163 : decode cL_solos 163 = .ok (.iconst (-1), 1) := by decide +kernel
theorem dL_solos_164 : decode cL_solos 164 = .ok (.if_icmp .ne 7, 3) := by decide +kernel
theorem dL_solos_167 : decode cL_solos 167 = .ok (.iconst 1, 1) := by decide +kernel
theorem dL_solos_168 : decode cL_solos 168 = .ok (.goto 4, 3) := by decide +kernel
theorem dL_solos_171 : decode cL_solos 171 = .ok (.iconst 0, 1) := by decide +kernel
theorem dL_solos_172 : decode cL_solos 172 = .ok (.ireturn, 1) := by decide +kernel
