set_option maxRecDepth 20000 in
theorem ggL_shoots_L_low : GoodIn wsL_shoots wsL_low := goodIn_r _ [4, 5] rfl (by decide +kernel)
set_option maxRecDepth 20000 in
theorem gL_shoots_L_low : GoodIn wsL_shoots (va_wsS RL 48 yL_low wsL_low) := goodIn_app (goodIn_of _ (by decide +kernel)) ggL_shoots_L_low
set_option maxRecDepth 20000 in
theorem ggL_shoots_X6_count : GoodIn wsL_shoots wsX6_count := goodIn_r _ [10, 11, 12, 13, 14, 15, 16, 17, 18, 19, 20, 21, 22, 23, 24, 25, 26, 27, 28, 29, 30, 31, 32, 33, 34, 35, 36, 37, 38, 39, 40, 41, 42, 43, 44, 45, 46, 47, 48, 49, 50, 51, 52, 53, 54, 55, 56, 57, 58, 59, 60, 61, 62, 63, 64, 65, 66, 67, 68, 69, 70, 71, 72, 73, 74, 75, 76, 77, 78, 79, 80, 81, 82, 83, 84, 85, 86, 9, 87, 88, 89, 90, 91, 92, 93, 94, 95, 96, 97, 98, 99, 100, 101, 102, 103, 104, 105, 106, 107, 108, 109, 110, 111, 112, 113, 114, 115, 116, 117, 118, 119, 120, 121, 122, 123, 124, 125, 126, 127, 128, 129, 130, 131, 262, 263, 264, 265, 266, 267, 268, 269, 270, 271, 272, 273, 274, 275, 276, 277, 278, 279, 280, 281, 282, 283, 284, 285, 286, 287, 288, 289, 290, 291, 292, 293, 294, 295] rfl (by decide +kernel)
set_option maxRecDepth 20000 in
theorem gL_shoots_X6_count : GoodIn wsL_shoots (wsV RL 13 RX6 yX6_count wsX6_count) := goodIn_app (goodIn_of _ (by decide +kernel)) ggL_shoots_X6_count
set_option maxRecDepth 20000 in
theorem ggL_shoots_X6_ends : GoodIn wsL_shoots wsX6_ends := goodIn_r _ [135, 11, 16, 136, 137, 9, 138, 139, 140, 141, 27, 142, 91, 92, 143, 144, 145, 146, 147, 40, 41, 42, 43, 33, 44, 45, 46, 21, 47, 23, 97, 98, 99, 100, 39, 101, 102, 103, 104, 105, 54, 106, 107, 108, 109, 262, 263, 264, 265, 266, 267, 268, 269, 270, 271, 272, 273, 274, 275, 276, 277, 278, 279, 280, 281, 282, 284, 285, 286, 287, 288, 289, 290, 291, 283] rfl (by decide +kernel)
set_option maxRecDepth 20000 in
theorem gL_shoots_X6_ends : GoodIn wsL_shoots (wsV RL 51 RX6 yX6_ends wsX6_ends) := goodIn_app (goodIn_of _ (by decide +kernel)) ggL_shoots_X6_ends
set_option maxRecDepth 20000 in
theorem ggL_shoots_X6_ifShot : GoodIn wsL_shoots wsX6_ifShot := goodIn_r _ [151, 152, 11, 13, 12, 15, 17, 16, 136, 137, 9, 138, 153, 154, 155, 64, 156, 157, 158, 70, 159, 71, 160, 161, 162, 163, 164, 165, 166, 167, 168, 27, 169, 39, 33, 60, 147, 170, 101, 171, 172, 173, 174, 175, 21, 176, 23, 177, 105, 54, 106, 178, 179, 180, 181, 182, 183, 184, 185, 186, 187, 188, 189, 190, 191, 91, 92, 143, 144, 145, 146, 40, 41, 42, 43, 44, 45, 46, 47, 97, 98, 99, 100, 192, 193, 194, 195, 196, 197, 198, 199, 200, 201, 202, 203, 204, 205, 206, 207, 208, 209, 210, 211, 102, 103, 104, 107, 108, 109, 212, 213, 214, 215, 216, 66, 67, 68, 69, 72, 73, 74, 75, 76, 77, 78, 79, 80, 81, 82, 83, 84, 85, 86, 87, 88, 89, 90, 93, 94, 95, 96, 262, 263, 264, 265, 266, 267, 268, 269, 270, 271, 272, 273, 274, 275, 276, 277, 278, 279, 280, 281, 282, 284, 285, 286, 287, 288, 289, 290, 291, 283] rfl (by decide +kernel)
set_option maxRecDepth 20000 in
theorem gL_shoots_X6_ifShot : GoodIn wsL_shoots (wsV RL 54 RX6 yX6_ifShot wsX6_ifShot) := goodIn_app (goodIn_of _ (by decide +kernel)) ggL_shoots_X6_ifShot
set_option maxRecDepth 20000 in
theorem ggL_shoots_X6_pocket : GoodIn wsL_shoots wsX6_pocket := goodIn_r _ [220, 11, 221, 14, 222, 17, 16, 136, 137, 9, 138, 223, 45, 46, 21, 47, 23, 224, 67, 68, 64, 69, 70, 71, 72, 225, 226, 227, 76, 228, 89, 90, 229, 230, 231, 232, 91, 92, 93, 94, 95, 27, 96, 40, 41, 42, 43, 33, 44, 97, 98, 99, 100, 39, 101, 102, 103, 104, 105, 54, 106, 107, 108, 109, 110, 111, 112, 113, 114, 115, 116, 262, 263, 264, 265, 266, 267, 268, 269, 270, 271, 272, 273, 274, 275, 276, 277, 278, 279, 280, 281, 282, 283, 284, 285, 286, 287, 288, 289, 290, 291] rfl (by decide +kernel)
set_option maxRecDepth 20000 in
theorem gL_shoots_X6_pocket : GoodIn wsL_shoots (wsV RL 23 RX6 yX6_pocket wsX6_pocket) := goodIn_app (goodIn_of _ (by decide +kernel)) ggL_shoots_X6_pocket
set_option maxRecDepth 20000 in
theorem ggL_shoots_X6_shoot : GoodIn wsL_shoots wsX6_shoot := goodIn_r _ [236, 130, 11, 136, 137, 9, 138, 237, 238, 239, 240, 241, 242, 243, 244, 245, 246, 247, 248, 249, 250, 251, 252, 154, 155, 64, 156, 157, 158, 70, 159, 71, 160, 161, 162, 163, 164, 165, 166, 167, 168, 27, 169, 39, 33, 60, 147, 170, 101, 171, 172, 173, 174, 175, 21, 176, 23, 177, 105, 54, 106, 178, 179, 180, 181, 182, 183, 184, 185, 186, 187, 188, 189, 190, 191, 91, 92, 143, 144, 145, 146, 40, 41, 42, 43, 44, 45, 46, 47, 97, 98, 99, 100, 192, 193, 194, 195, 196, 197, 198, 199, 200, 201, 202, 203, 204, 205, 206, 207, 208, 209, 210, 211, 102, 103, 104, 107, 108, 109, 212, 213, 214, 215, 216, 66, 67, 68, 69, 72, 262, 263, 264, 265, 266, 267, 268, 269, 270, 271, 294, 295, 272, 273, 274, 275, 276, 277, 278, 279, 280, 281, 282, 284, 285, 286, 287, 288, 289, 290, 291, 283] rfl (by decide +kernel)
set_option maxRecDepth 20000 in
theorem gL_shoots_X6_shoot : GoodIn wsL_shoots (wsV RL 85 RX6 yX6_shoot wsX6_shoot) := goodIn_app (goodIn_of _ (by decide +kernel)) ggL_shoots_X6_shoot
set_option maxRecDepth 20000 in
theorem ggL_shoots_X6_reach : GoodIn wsL_shoots wsX6_reach := goodIn_r _ [256, 17, 11, 16, 73, 74, 75, 76, 77, 78, 79, 80, 81, 82, 83, 84, 85, 86, 9, 87, 88, 89, 90, 91, 92, 93, 94, 95, 27, 96, 40, 41, 42, 43, 33, 44, 45, 46, 21, 47, 23, 97, 98, 99, 100, 39, 101, 102, 103, 104, 105, 54, 106, 107, 108, 109, 257, 258, 259, 260, 261, 226, 227, 228, 229, 230, 231, 232, 262, 263, 264, 265, 266, 267, 268, 269, 270, 271, 272, 273, 274, 275, 276, 277, 278, 279, 280, 281, 282, 284, 285, 286, 287, 288, 289, 290, 291, 283] rfl (by decide +kernel)
set_option maxRecDepth 20000 in
theorem gL_shoots_X6_reach : GoodIn wsL_shoots (wsV RL 42 RX6 yX6_reach wsX6_reach) := goodIn_app (goodIn_of _ (by decide +kernel)) ggL_shoots_X6_reach
theorem dL_shoots_0 : decode cL_shoots 0 = .ok (.iload_n 1, 1) := by decide +kernel
theorem dL_shoots_1 : decode cL_shoots 1 = .ok (.iload_n 1, 1) := by decide +kernel
theorem dL_shoots_2 : decode cL_shoots 2 = .ok (.bipush 9, 2) := by decide +kernel
theorem dL_shoots_4 : decode cL_shoots 4 = .ok (.ishr, 1) := by decide +kernel
theorem dL_shoots_5 : decode cL_shoots 5 = .ok (.bipush 9, 2) := by decide +kernel
theorem dL_shoots_7 : decode cL_shoots 7 = .ok (.invokestatic 48, 3) := by decide +kernel
theorem dL_shoots_10 : decode cL_shoots 10 = .ok (.ifCond .ne 8, 3) := by decide +kernel
theorem dL_shoots_13 : decode cL_shoots 13 = .ok (.bipush 8, 2) := by decide +kernel
theorem dL_shoots_15 : decode cL_shoots 15 = .ok (.goto 5, 3) := by decide +kernel
theorem dL_shoots_18 : decode cL_shoots 18 = .ok (.bipush 7, 2) := by decide +kernel
theorem dL_shoots_20 : decode cL_shoots 20 = .ok (.invokestatic 48, 3) := by decide +kernel
theorem dL_shoots_23 : decode cL_shoots 23 = .ok (.istore_n 2, 1) := by decide +kernel
theorem dL_shoots_24 : decode cL_shoots 24 = .ok (.iload_n 1, 1) := by decide +kernel
theorem dL_shoots_25 : decode cL_shoots 25 = .ok (.iconst 4, 1) := by decide +kernel
theorem dL_shoots_26 : decode cL_shoots 26 = .ok (.ishr, 1) := by decide +kernel
theorem dL_shoots_27 : decode cL_shoots 27 = .ok (.iconst 3, 1) := by decide +kernel
theorem dL_shoots_28 : decode cL_shoots 28 = .ok (.invokestatic 48, 3) := by decide +kernel
theorem dL_shoots_31 : decode cL_shoots 31 = .ok (.ifCond .le 7, 3) := by decide +kernel
theorem dL_shoots_34 : decode cL_shoots 34 = .ok (.iconst 1, 1) := by decide +kernel
theorem dL_shoots_35 : decode cL_shoots 35 = .ok (.goto 4, 3) := by decide +kernel
theorem dL_shoots_38 : decode cL_shoots 38 = .ok (.iconst 0, 1) := by decide +kernel
theorem dL_shoots_39 : decode cL_shoots 39 = .ok (.istore_n 3, 1) := by decide +kernel
theorem dL_shoots_40 : decode cL_shoots 40 = .ok (.iload_n 2, 1) := by decide +kernel
theorem dL_shoots_41 : decode cL_shoots 41 = .ok (.bipush 7, 2) := by decide +kernel
theorem dL_shoots_43 : decode cL_shoots 43 = .ok (.if_icmp .ne 7, 3) := by decide +kernel
theorem dL_shoots_46 : decode cL_shoots 46 = .ok (.iconst 1, 1) := by decide +kernel
theorem dL_shoots_47 : decode cL_shoots 47 = .ok (.goto 4, 3) := by decide +kernel
theorem dL_shoots_50 : decode cL_shoots 50 = .ok (.iconst 0, 1) := by decide +kernel
theorem dL_shoots_51 : decode cL_shoots 51 = .ok (.istore 4, 2) := by decide +kernel
theorem dL_shoots_53 : decode cL_shoots 53 = .ok (.aload_n 0, 1) := by decide +kernel
theorem dL_shoots_54 : decode cL_shoots 54 = .ok (.iconst 1, 1) := by decide +kernel
theorem dL_shoots_55 : decode cL_shoots 55 = .ok (.invokevirtual 13, 3) := by decide +kernel
theorem dL_shoots_58 : decode cL_shoots 58 = .ok (.istore 5, 2) := by decide +kernel
theorem dL_shoots_60 : decode cL_shoots 60 = .ok (.iload 4, 2) := by decide +kernel
theorem dL_shoots_62 : decode cL_shoots 62 = .ok (.ifCond .eq 7, 3) := by decide +kernel
theorem dL_shoots_65 : decode cL_shoots 65 = .ok (.iconst 0, 1) := by decide +kernel
theorem dL_shoots_66 : decode cL_shoots 66 = .ok (.goto 8, 3) := by decide +kernel
theorem dL_shoots_69 : decode cL_shoots 69 = .ok (.aload_n 0, 1) := by decide +kernel
theorem dL_shoots_70 : decode cL_shoots 70 = .ok (.iload_n 2, 1) := by decide +kernel
theorem dL_shoots_71 : decode cL_shoots 71 = .ok (.invokevirtual 51, 3) := by decide +kernel
theorem dL_shoots_74 : decode cL_shoots 74 = .ok (.istore 6, 2) := by decide +kernel
theorem dL_shoots_76 : decode cL_shoots 76 = .ok (.iload 4, 2) := by decide +kernel
theorem dL_shoots_78 : decode cL_shoots 78 = .ok (.ifCond .eq 7, 3) := by decide +kernel
theorem dL_shoots_81 : decode cL_shoots 81 = .ok (.iconst 0, 1) := by decide +kernel
theorem dL_shoots_82 : decode cL_shoots 82 = .ok (.goto 11, 3) := by decide +kernel
theorem dL_shoots_85 : decode cL_shoots 85 = .ok (.aload_n 0, 1) := by decide +kernel
theorem dL_shoots_86 : decode cL_shoots 86 = .ok (.iload_n 2, 1) := by decide +kernel
theorem dL_shoots_87 : decode cL_shoots 87 = .ok (.iload_n 3, 1) := by decide +kernel
theorem dL_shoots_88 : decode cL_shoots 88 = .ok (.iconst 1, 1) := by decide +kernel
theorem dL_shoots_89 : decode cL_shoots 89 = .ok (.iconst 0, 1) := by decide +kernel
theorem dL_shoots_90 : decode cL_shoots 90 = .ok (.invokevirtual 54, 3) := by decide +kernel
theorem dL_shoots_93 : decode cL_shoots 93 = .ok (.istore 7, 2) := by decide +kernel
theorem dL_shoots_95 : decode cL_shoots 95 = .ok (.iload 4, 2) := by decide +kernel
theorem dL_shoots_97 : decode cL_shoots 97 = .ok (.ifCond .eq 7, 3) := by decide +kernel
theorem dL_shoots_100 : decode cL_shoots 100 = .ok (.iconst 0, 1) := by decide +kernel
theorem dL_shoots_101 : decode cL_shoots 101 = .ok (.goto 11, 3) := by decide +kernel
theorem dL_shoots_104 : decode cL_shoots 104 = .ok (.aload_n 0, 1) := by decide +kernel
theorem dL_shoots_105 : decode cL_shoots 105 = .ok (.iload_n 2, 1) := by decide +kernel
theorem dL_shoots_106 : decode cL_shoots 106 = .ok (.iload_n 3, 1) := by decide +kernel
theorem dL_shoots_107 : decode cL_shoots 107 = .ok (.iconst 1, 1) := by decide +kernel
theorem dL_shoots_108 : decode cL_shoots 108 = .ok (.iconst 1, 1) := by decide +kernel
theorem dL_shoots_109 : decode cL_shoots 109 = .ok (.invokevirtual 54, 3) := by decide +kernel
theorem dL_shoots_112 : decode cL_shoots 112 = .ok (.istore 8, 2) := by decide +kernel
theorem dL_shoots_114 : decode cL_shoots 114 = .ok (.iload 4, 2) := by decide +kernel
theorem dL_shoots_116 : decode cL_shoots 116 = .ok (.ifCond .eq 7, 3) := by decide +kernel
theorem dL_shoots_119 : decode cL_shoots 119 = .ok (.iconst 0, 1) := by decide +kernel
theorem dL_shoots_120 : decode cL_shoots 120 = .ok (.goto 11, 3) := by decide +kernel
theorem dL_shoots_123 : decode cL_shoots 123 = .ok (.aload_n 0, 1) := by decide +kernel
theorem dL_shoots_124 : decode cL_shoots 124 = .ok (.iload_n 2, 1) := by decide +kernel
theorem dL_shoots_125 : decode cL_shoots 125 = .ok (.iload_n 3, 1) := by decide +kernel
theorem dL_shoots_126 : decode cL_shoots 126 = .ok (.iconst 1, 1) := by decide +kernel
theorem dL_shoots_127 : decode cL_shoots 127 = .ok (.iconst 2, 1) := by decide +kernel
theorem dL_shoots_128 : decode cL_shoots 128 = .ok (.invokevirtual 54, 3) := by decide +kernel
theorem dL_shoots_131 : decode cL_shoots 131 = .ok (.istore 9, 2) := by decide +kernel
theorem dL_shoots_133 : decode cL_shoots 133 = .ok (.aload_n 0, 1) := by decide +kernel
theorem dL_shoots_134 : decode cL_shoots 134 = .ok (.iload 6, 2) := by decide +kernel
theorem dL_shoots_136 : decode cL_shoots 136 = .ok (.iconst 3, 1) := by decide +kernel
theorem dL_shoots_137 : decode cL_shoots 137 = .ok (.invokevirtual 23, 3) := by decide +kernel
theorem dL_shoots_140 : decode cL_shoots 140 = .ok (.istore 10, 2) := by decide +kernel
theorem dL_shoots_142 : decode cL_shoots 142 = .ok (.aload_n 0, 1) := by decide +kernel
theorem dL_shoots_143 : decode cL_shoots 143 = .ok (.iconst 0, 1) := by decide +kernel
theorem dL_shoots_144 : decode cL_shoots 144 = .ok (.invokevirtual 13, 3) := by decide +kernel
theorem dL_shoots_147 : decode cL_shoots 147 = .ok (.istore 11, 2) := by decide +kernel
theorem dL_shoots_149 : decode cL_shoots 149 = .ok (.aload_n 0, 1) := by decide +kernel
theorem dL_shoots_150 : decode cL_shoots 150 = .ok (.iconst 3, 1) := by decide +kernel
theorem dL_shoots_151 : decode cL_shoots 151 = .ok (.invokevirtual 13, 3) := by decide +kernel
theorem dL_shoots_154 : decode cL_shoots 154 = .ok (.istore 12, 2) := by decide +kernel
theorem dL_shoots_156 : decode cL_shoots 156 = .ok (.aload_n 0, 1) := by decide +kernel
theorem dL_shoots_157 : decode cL_shoots 157 = .ok (.bipush 6, 2) := by decide +kernel
theorem dL_shoots_159 : decode cL_shoots 159 = .ok (.invokevirtual 13, 3) := by decide +kernel
theorem dL_shoots_162 : decode cL_shoots 162 = .ok (.istore 13, 2) := by decide +kernel
theorem dL_shoots_164 : decode cL_shoots 164 = .ok (.aload_n 0, 1) := by decide +kernel
theorem dL_shoots_165 : decode cL_shoots 165 = .ok (.bipush 12, 2) := by decide +kernel
theorem dL_shoots_167 : decode cL_shoots 167 = .ok (.invokevirtual 13, 3) := by decide +kernel
theorem dL_shoots_170 : decode cL_shoots 170 = .ok (.istore 14, 2) := by decide +kernel
theorem dL_shoots_172 : decode cL_shoots 172 = .ok (.aload_n 0, 1) := by decide +kernel
theorem dL_shoots_173 : decode cL_shoots 173 = .ok (.bipush 14, 2) := by decide +kernel
theorem dL_shoots_175 : decode cL_shoots 175 = .ok (.invokevirtual 13, 3) := by decide +kernel
theorem dL_shoots_178 : decode cL_shoots 178 = .ok (.istore 15, 2) := by decide +kernel
theorem dL_shoots_180 : decode cL_shoots 180 = .ok (.aload_n 0, 1) := by decide +kernel
theorem dL_shoots_181 : decode cL_shoots 181 = .ok (.iload_n 2, 1) := by decide +kernel
theorem dL_shoots_182 : decode cL_shoots 182 = .ok (.iload_n 3, 1) := by decide +kernel
theorem dL_shoots_183 : decode cL_shoots 183 = .ok (.invokevirtual 85, 3) := by decide +kernel
theorem dL_shoots_186 : decode cL_shoots 186 = .ok (.istore 16, 2) := by decide +kernel
theorem dL_shoots_188 : decode cL_shoots 188 = .ok (.iload 4, 2) := by decide +kernel
theorem dL_shoots_190 : decode cL_shoots 190 = .ok (.ifCond .ne 8, 3) := by decide +kernel
theorem dL_shoots_193 : decode cL_shoots 193 = .ok (.iload 5, 2) := by decide +kernel
theorem dL_shoots_195 : decode cL_shoots 195 = .ok (.ifCond .ne 56, 3) := by decide +kernel
theorem dL_shoots_198 : decode cL_shoots 198 = .ok (.iload 16, 2) := by decide +kernel
theorem dL_shoots_200 : decode cL_shoots 200 = .ok (.iload 4, 2) := by decide +kernel
theorem dL_shoots_202 : decode cL_shoots 202 = .ok (.ifCond .eq 7, 3) := by decide +kernel
theorem dL_shoots_205 : decode cL_shoots 205 = .ok (.iconst (-1), 1) := by decide +kernel
theorem dL_shoots_206 : decode cL_shoots 206 = .ok (.goto 4, 3) := by decide +kernel
theorem dL_shoots_209 : decode cL_shoots 209 = .ok (.iconst 1, 1) := by decide +kernel
theorem dL_shoots_210 : decode cL_shoots 210 = .ok (.if_icmp .ne 39, 3) := by decide +kernel
theorem dL_shoots_213 : decode cL_shoots 213 = .ok (.aload_n 0, 1) := by decide +kernel
theorem dL_shoots_214 : decode cL_shoots 214 = .ok (.bipush 14, 2) := by decide +kernel
theorem dL_shoots_216 : decode cL_shoots 216 = .ok (.invokevirtual 13, 3) := by decide +kernel
theorem dL_shoots_219 : decode cL_shoots 219 = .ok (.iload 15, 2) := by decide +kernel
theorem dL_shoots_221 : decode cL_shoots 221 = .ok (.iload 4, 2) := by decide +kernel
theorem dL_shoots_223 : decode cL_shoots 223 = .ok (.ifCond .eq 7, 3) := by decide +kernel
theorem dL_shoots_226 : decode cL_shoots 226 = .ok (.iconst 0, 1) := by decide +kernel
theorem dL_shoots_227 : decode cL_shoots 227 = .ok (.goto 4, 3) := by decide +kernel
theorem dL_shoots_230 : decode cL_shoots 230 = .ok (.iconst 1, 1) := by decide +kernel
theorem dL_shoots_231 : decode cL_shoots 231 = .ok (.iadd, 1) := by decide +kernel
theorem dL_shoots_232 : decode cL_shoots 232 = .ok (.if_icmp .ne 17, 3) := by decide +kernel
theorem dL_shoots_235 : decode cL_shoots 235 = .ok (.aload_n 0, 1) := by decide +kernel
theorem dL_shoots_236 : decode cL_shoots 236 = .ok (.iconst 0, 1) := by decide +kernel
theorem dL_shoots_237 : decode cL_shoots 237 = .ok (.invokevirtual 13, 3) := by decide +kernel
theorem dL_shoots_240 : decode cL_shoots 240 = .ok (.iload 11, 2) := by decide +kernel
theorem dL_shoots_242 : decode cL_shoots 242 = .ok (.if_icmp .ne 7, 3) := by decide +kernel
theorem dL_shoots_245 : decode cL_shoots 245 = .ok (.iconst 1, 1) := by decide +kernel
theorem dL_shoots_246 : decode cL_shoots 246 = .ok (.goto 4, 3) := by decide +kernel
theorem dL_shoots_249 : decode cL_shoots 249 = .ok (.iconst 0, 1) := by decide +kernel
theorem dL_shoots_250 : decode cL_shoots 250 = .ok (.ireturn, 1) := by decide +kernel
theorem dL_shoots_251 : decode cL_shoots 251 = .ok (.iload 16, 2) := by decide +kernel
theorem dL_shoots_253 : decode cL_shoots 253 = .ok (.bipush 10, 2) := by decide +kernel
theorem dL_shoots_255 : decode cL_shoots 255 = .ok (.iload 7, 2) := by decide +kernel
theorem dL_shoots_257 : decode cL_shoots 257 = .ok (.iadd, 1) := by decide +kernel
theorem dL_shoots_258 : decode cL_shoots 258 = .ok (.if_icmp .ne 140, 3) := by decide +kernel
theorem dL_shoots_261 : decode cL_shoots 261 = .ok (.aload_n 0, 1) := by decide +kernel
theorem dL_shoots_262 : decode cL_shoots 262 = .ok (.iconst 1, 1) := by decide +kernel
theorem dL_shoots_263 : decode cL_shoots 263 = .ok (.invokevirtual 13, 3) := by decide +kernel
theorem dL_shoots_266 : decode cL_shoots 266 = .ok (.iload 5, 2) := by decide +kernel
theorem dL_shoots_268 : decode cL_shoots 268 = .ok (.iconst 1, 1) := by decide +kernel
theorem dL_shoots_269 : decode cL_shoots 269 = .ok (.isub, 1) := by decide +kernel
theorem dL_shoots_270 : decode cL_shoots 270 = .ok (.if_icmp .ne 128, 3) := by decide +kernel
theorem dL_shoots_273 : decode cL_shoots 273 = .ok (.aload_n 0, 1) := by decide +kernel
theorem dL_shoots_274 : decode cL_shoots 274 = .ok (.iconst 0, 1) := by decide +kernel
theorem dL_shoots_275 : decode cL_shoots 275 = .ok (.invokevirtual 13, 3) := by decide +kernel
theorem dL_shoots_278 : decode cL_shoots 278 = .ok (.iload 11, 2) := by decide +kernel
theorem dL_shoots_280 : decode cL_shoots 280 = .ok (.iload 7, 2) := by decide +kernel
theorem dL_shoots_282 : decode cL_shoots 282 = .ok (.iadd, 1) := by decide +kernel
theorem dL_shoots_283 : decode cL_shoots 283 = .ok (.if_icmp .ne 115, 3) := by decide +kernel
theorem dL_shoots_286 : decode cL_shoots 286 = .ok (.aload_n 0, 1) := by decide +kernel
theorem dL_shoots_287 : decode cL_shoots 287 = .ok (.iconst 3, 1) := by decide +kernel
theorem dL_shoots_288 : decode cL_shoots 288 = .ok (.invokevirtual 13, 3) := by decide +kernel
theorem dL_shoots_291 : decode cL_shoots 291 = .ok (.iload 12, 2) := by decide +kernel
theorem dL_shoots_293 : decode cL_shoots 293 = .ok (.iload 8, 2) := by decide +kernel
theorem dL_shoots_295 : decode cL_shoots 295 = .ok (.iadd, 1) := by decide +kernel
theorem dL_shoots_296 : decode cL_shoots 296 = .ok (.if_icmp .ne 102, 3) := by decide +kernel
theorem dL_shoots_299 : decode cL_shoots 299 = .ok (.aload_n 0, 1) := by decide +kernel
theorem dL_shoots_300 : decode cL_shoots 300 = .ok (.iconst 0, 1) := by decide +kernel
theorem dL_shoots_301 : decode cL_shoots 301 = .ok (.invokevirtual 42, 3) := by decide +kernel
theorem dL_shoots_304 : decode cL_shoots 304 = .ok (.iload 9, 2) := by decide +kernel
theorem dL_shoots_306 : decode cL_shoots 306 = .ok (.if_icmp .ne 92, 3) := by decide +kernel
theorem dL_shoots_309 : decode cL_shoots 309 = .ok (.aload_n 0, 1) := by decide +kernel
theorem dL_shoots_310 : decode cL_shoots 310 = .ok (.iload 6, 2) := by decide +kernel
theorem dL_shoots_312 : decode cL_shoots 312 = .ok (.iconst 3, 1) := by decide +kernel
theorem dL_shoots_313 : decode cL_shoots 313 = .ok (.invokevirtual 23, 3) := by decide +kernel
theorem dL_shoots_316 : decode cL_shoots 316 = .ok (.iload 10, 2) := by decide +kernel
theorem dL_shoots_318 : decode cL_shoots 318 = .ok (.iconst 1, 1) := by decide +kernel
theorem dL_shoots_319 : decode cL_shoots 319 = .ok (.iadd, 1) := by decide +kernel
theorem dL_shoots_320 : decode cL_shoots 320 = .ok (.if_icmp .ne 78, 3) := by decide +kernel
theorem dL_shoots_323 : decode cL_shoots 323 = .ok (.iload_n 3, 1) := by decide +kernel
theorem dL_shoots_324 : decode cL_shoots 324 = .ok (.ifCond .ne 14, 3) := by decide +kernel
theorem dL_shoots_327 : decode cL_shoots 327 = .ok (.aload_n 0, 1) := by decide +kernel
theorem dL_shoots_328 : decode cL_shoots 328 = .ok (.bipush 6, 2) := by decide +kernel
theorem dL_shoots_330 : decode cL_shoots 330 = .ok (.invokevirtual 13, 3) := by decide +kernel
theorem dL_shoots_333 : decode cL_shoots 333 = .ok (.iload 13, 2) := by decide +kernel
theorem dL_shoots_335 : decode cL_shoots 335 = .ok (.if_icmp .ne 63, 3) := by decide +kernel
theorem dL_shoots_338 : decode cL_shoots 338 = .ok (.aload_n 0, 1) := by decide +kernel
theorem dL_shoots_339 : decode cL_shoots 339 = .ok (.bipush 6, 2) := by decide +kernel
theorem dL_shoots_341 : decode cL_shoots 341 = .ok (.invokevirtual 13, 3) := by decide +kernel
theorem dL_shoots_344 : decode cL_shoots 344 = .ok (.iload 13, 2) := by decide +kernel
theorem dL_shoots_346 : decode cL_shoots 346 = .ok (.iconst 5, 1) := by decide +kernel
theorem dL_shoots_347 : decode cL_shoots 347 = .ok (.iadd, 1) := by decide +kernel
theorem dL_shoots_348 : decode cL_shoots 348 = .ok (.if_icmp .gt 50, 3) := by decide +kernel
theorem dL_shoots_351 : decode cL_shoots 351 = .ok (.aload_n 0, 1) := by decide +kernel
theorem dL_shoots_352 : decode cL_shoots 352 = .ok (.bipush 12, 2) := by decide +kernel
theorem dL_shoots_354 : decode cL_shoots 354 = .ok (.invokevirtual 13, 3) := by decide +kernel
theorem dL_shoots_357 : decode cL_shoots 357 = .ok (.iload 14, 2) := by decide +kernel
theorem dL_shoots_359 : decode cL_shoots 359 = .ok (.isub, 1) := by decide +kernel
theorem dL_shoots_360 : decode cL_shoots 360 = .ok (.iload 7, 2) := by decide +kernel
theorem dL_shoots_362 : decode cL_shoots 362 = .ok (.iload 8, 2) := by decide +kernel
theorem dL_shoots_364 : decode cL_shoots 364 = .ok (.iconst 1, 1) := by decide +kernel
theorem dL_shoots_365 : decode cL_shoots 365 = .ok (.if_icmp .ne 7, 3) := by decide +kernel
theorem dL_shoots_368 : decode cL_shoots 368 = .ok (.iconst 0, 1) := by decide +kernel
theorem dL_shoots_369 : decode cL_shoots 369 = .ok (.goto 10, 3) := by decide +kernel
theorem dL_shoots_372 : decode cL_shoots 372 = .ok (.aload_n 0, 1) := by decide +kernel
theorem dL_shoots_373 : decode cL_shoots 373 = .ok (.iload 6, 2) := by decide +kernel
theorem dL_shoots_375 : decode cL_shoots 375 = .ok (.iconst 0, 1) := by decide +kernel
theorem dL_shoots_376 : decode cL_shoots 376 = .ok (.invokevirtual 23, 3) := by decide +kernel
theorem dL_shoots_379 : decode cL_shoots 379 = .ok (.isub, 1) := by decide +kernel
theorem dL_shoots_380 : decode cL_shoots 380 = .ok (.if_icmp .ne 18, 3) := by decide +kernel
theorem dL_shoots_383 : decode cL_shoots 383 = .ok (.aload_n 0, 1) := by decide +kernel
theorem dL_shoots_384 : decode cL_shoots 384 = .ok (.bipush 14, 2) := by decide +kernel
theorem dL_shoots_386 : decode cL_shoots 386 = .ok (.invokevirtual 13, 3) := by decide +kernel
theorem dL_shoots_389 : decode cL_shoots 389 = .ok (.iload 15, 2) := by decide +kernel
theorem dL_shoots_391 : decode cL_shoots 391 = .ok (.if_icmp .ne 7, 3) := by decide +kernel
theorem dL_shoots_394 : decode cL_shoots 394 = .ok (.iconst 1, 1) := by decide +kernel
theorem dL_shoots_395 : decode cL_shoots 395 = .ok (.goto 4, 3) := by decide +kernel
theorem dL_shoots_398 : decode cL_shoots 398 = .ok (.iconst 0, 1) := by decide +kernel
theorem dL_shoots_399 : decode cL_shoots 399 = .ok (.ireturn, 1) := by decide +kernel
