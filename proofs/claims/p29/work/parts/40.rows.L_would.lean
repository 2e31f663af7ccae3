set_option maxRecDepth 20000 in
theorem ggL_would_L_low : GoodIn wsL_would wsL_low := goodIn_r _ [4, 5] rfl (by decide +kernel)
set_option maxRecDepth 20000 in
theorem gL_would_L_low : GoodIn wsL_would (va_wsS RL 48 yL_low wsL_low) := goodIn_app (goodIn_of _ (by decide +kernel)) ggL_would_L_low
set_option maxRecDepth 20000 in
theorem ggL_would_X6_ends : GoodIn wsL_would wsX6_ends := goodIn_r _ [10, 11, 12, 13, 14, 9, 15, 16, 17, 18, 19, 20, 21, 22, 23, 24, 25, 26, 27, 28, 29, 30, 31, 32, 33, 34, 35, 36, 37, 38, 39, 40, 41, 42, 43, 44, 45, 46, 47, 48, 49, 50, 51, 52, 53, 237, 238, 239, 240, 241, 242, 243, 244, 245, 246, 247, 248, 249, 250, 251, 252, 253, 254, 255, 256, 257, 258, 259, 260, 261, 262, 263, 264, 265, 266] rfl (by decide +kernel)
set_option maxRecDepth 20000 in
theorem gL_would_X6_ends : GoodIn wsL_would (wsV RL 51 RX6 yX6_ends wsX6_ends) := goodIn_app (goodIn_of _ (by decide +kernel)) ggL_would_X6_ends
set_option maxRecDepth 20000 in
theorem ggL_would_X6_ifShot : GoodIn wsL_would wsX6_ifShot := goodIn_r _ [57, 58, 11, 59, 60, 61, 62, 12, 13, 14, 9, 15, 63, 64, 65, 66, 67, 68, 69, 70, 71, 72, 73, 74, 75, 76, 77, 78, 79, 80, 81, 19, 82, 43, 32, 83, 27, 84, 44, 85, 86, 87, 88, 89, 36, 90, 38, 91, 48, 49, 50, 92, 93, 94, 95, 96, 97, 98, 99, 100, 101, 102, 103, 104, 105, 21, 22, 23, 24, 25, 26, 28, 29, 30, 31, 33, 34, 35, 37, 39, 40, 41, 42, 106, 107, 108, 109, 110, 111, 112, 113, 114, 115, 116, 117, 118, 119, 120, 121, 122, 123, 124, 125, 45, 46, 47, 51, 52, 53, 126, 127, 128, 129, 130, 131, 132, 133, 134, 135, 136, 137, 138, 139, 140, 141, 142, 143, 144, 145, 146, 147, 148, 149, 150, 151, 152, 153, 154, 155, 156, 157, 237, 238, 239, 240, 241, 242, 243, 244, 245, 246, 247, 248, 249, 250, 251, 252, 253, 254, 255, 256, 257, 258, 259, 260, 261, 262, 263, 264, 265, 266] rfl (by decide +kernel)
set_option maxRecDepth 20000 in
theorem gL_would_X6_ifShot : GoodIn wsL_would (wsV RL 54 RX6 yX6_ifShot wsX6_ifShot) := goodIn_app (goodIn_of _ (by decide +kernel)) ggL_would_X6_ifShot
set_option maxRecDepth 20000 in
theorem ggL_would_X6_best : GoodIn wsL_would wsX6_best := goodIn_r _ [161, 11, 59, 58, 60, 62, 12, 63, 64, 65, 66, 67, 68, 69, 70, 71, 72, 73, 74, 75, 76, 77, 78, 79, 80, 81, 19, 82, 43, 32, 83, 27, 84, 44, 85, 86, 87, 88, 89, 36, 90, 38, 91, 48, 49, 50, 92, 93, 94, 95, 96, 97, 98, 99, 100, 101, 102, 103, 104, 105, 21, 9, 22, 23, 24, 25, 26, 28, 29, 30, 31, 33, 34, 35, 37, 39, 40, 41, 42, 106, 107, 108, 109, 110, 111, 112, 113, 114, 115, 116, 117, 118, 119, 120, 121, 14, 15, 122, 123, 124, 125, 45, 46, 47, 51, 52, 53, 126, 127, 128, 129, 130, 131, 132, 133, 134, 135, 136, 137, 138, 139, 140, 141, 142, 143, 144, 145, 146, 147, 148, 149, 150, 151, 152, 153, 154, 155, 156, 157, 162, 163, 164, 165, 166, 167, 168, 237, 238, 239, 240, 241, 242, 243, 244, 245, 246, 247, 248, 249, 250, 251, 252, 253, 254, 255, 256, 257, 258, 259, 260, 261, 262, 263, 264, 265, 266] rfl (by decide +kernel)
set_option maxRecDepth 20000 in
theorem gL_would_X6_best : GoodIn wsL_would (wsV RL 58 RX6 yX6_best wsX6_best) := goodIn_app (goodIn_of _ (by decide +kernel)) ggL_would_X6_best
set_option maxRecDepth 20000 in
theorem ggL_would_X6_count : GoodIn wsL_would wsX6_count := goodIn_r _ [172, 11, 60, 59, 173, 61, 12, 62, 174, 175, 176, 36, 177, 38, 178, 179, 180, 19, 181, 182, 183, 184, 185, 32, 186, 187, 188, 189, 190, 43, 28, 29, 30, 31, 33, 34, 35, 37, 191, 192, 193, 194, 195, 196, 49, 197, 198, 199, 200, 201, 83, 202, 203, 204, 66, 205, 131, 132, 133, 134, 70, 72, 135, 136, 137, 138, 139, 140, 141, 142, 143, 144, 145, 146, 147, 148, 149, 9, 150, 151, 152, 153, 21, 22, 154, 155, 156, 157, 39, 40, 41, 42, 44, 45, 46, 47, 48, 50, 51, 52, 53, 162, 163, 164, 165, 166, 167, 168, 206, 207, 208, 209, 210, 211, 212, 213, 214, 215, 216, 217, 218, 219, 220, 237, 238, 239, 240, 241, 242, 243, 244, 245, 246, 247, 248, 249, 250, 251, 252, 253, 254, 255, 256, 257, 266, 258, 259, 260, 261, 262, 263, 264, 265, 267, 268, 269, 270] rfl (by decide +kernel)
set_option maxRecDepth 20000 in
theorem gL_would_X6_count : GoodIn wsL_would (wsV RL 13 RX6 yX6_count wsX6_count) := goodIn_app (goodIn_of _ (by decide +kernel)) ggL_would_X6_count
set_option maxRecDepth 20000 in
theorem ggL_would_X6_reach : GoodIn wsL_would wsX6_reach := goodIn_r _ [224, 62, 11, 12, 136, 137, 138, 139, 140, 141, 142, 143, 144, 145, 146, 147, 148, 149, 9, 150, 151, 152, 153, 21, 22, 154, 155, 156, 19, 157, 28, 29, 30, 31, 32, 33, 34, 35, 36, 37, 38, 39, 40, 41, 42, 43, 44, 45, 46, 47, 48, 49, 50, 51, 52, 53, 225, 226, 227, 228, 229, 230, 231, 232, 233, 234, 235, 236, 237, 238, 239, 240, 241, 242, 243, 244, 245, 246, 247, 248, 249, 250, 251, 252, 253, 254, 255, 256, 257, 258, 259, 260, 261, 262, 263, 264, 265, 266] rfl (by decide +kernel)
set_option maxRecDepth 20000 in
theorem gL_would_X6_reach : GoodIn wsL_would (wsV RL 42 RX6 yX6_reach wsX6_reach) := goodIn_app (goodIn_of _ (by decide +kernel)) ggL_would_X6_reach
theorem dL_would_0 : decode cL_would 0 = .ok (.iload_n 1, 1) := by decide +kernel
theorem dL_would_1 : decode cL_would 1 = .ok (.bipush 9, 2) := by decide +kernel
theorem dL_would_3 : decode cL_would 3 = .ok (.invokestatic 48, 3) := by decide +kernel
theorem dL_would_6 : decode cL_would 6 = .ok (.iconst 1, 1) := by decide +kernel
theorem dL_would_7 : decode cL_would 7 = .ok (.isub, 1) := by decide +kernel
theorem dL_would_8 : decode cL_would 8 = .ok (.istore_n 2, 1) := by decide +kernel
theorem dL_would_9 : decode cL_would 9 = .ok (.iload_n 1, 1) := by decide +kernel
theorem dL_would_10 : decode cL_would 10 = .ok (.iconst 4, 1) := by decide +kernel
theorem dL_would_11 : decode cL_would 11 = .ok (.ishr, 1) := by decide +kernel
theorem dL_would_12 : decode cL_would 12 = .ok (.iconst 2, 1) := by decide +kernel
theorem dL_would_13 : decode cL_would 13 = .ok (.invokestatic 48, 3) := by decide +kernel
theorem dL_would_16 : decode cL_would 16 = .ok (.ifCond .ne 7, 3) := by decide +kernel
theorem dL_would_19 : decode cL_would 19 = .ok (.iconst 1, 1) := by decide +kernel
theorem dL_would_20 : decode cL_would 20 = .ok (.goto 4, 3) := by decide +kernel
theorem dL_would_23 : decode cL_would 23 = .ok (.iconst 0, 1) := by decide +kernel
theorem dL_would_24 : decode cL_would 24 = .ok (.istore_n 3, 1) := by decide +kernel
theorem dL_would_25 : decode cL_would 25 = .ok (.iload_n 1, 1) := by decide +kernel
theorem dL_would_26 : decode cL_would 26 = .ok (.iconst 5, 1) := by decide +kernel
theorem dL_would_27 : decode cL_would 27 = .ok (.ishr, 1) := by decide +kernel
theorem dL_would_28 : decode cL_would 28 = .ok (.bipush 22, 2) := by decide +kernel
theorem dL_would_30 : decode cL_would 30 = .ok (.invokestatic 48, 3) := by decide +kernel
theorem dL_would_33 : decode cL_would 33 = .ok (.istore 4, 2) := by decide +kernel
theorem dL_would_35 : decode cL_would 35 = .ok (.iload_n 1, 1) := by decide +kernel
theorem dL_would_36 : decode cL_would 36 = .ok (.bipush 9, 2) := by decide +kernel
theorem dL_would_38 : decode cL_would 38 = .ok (.ishr, 1) := by decide +kernel
theorem dL_would_39 : decode cL_would 39 = .ok (.iconst 5, 1) := by decide +kernel
theorem dL_would_40 : decode cL_would 40 = .ok (.invokestatic 48, 3) := by decide +kernel
theorem dL_would_43 : decode cL_would 43 = .ok (.iconst 1, 1) := by decide +kernel
theorem dL_would_44 : decode cL_would 44 = .ok (.isub, 1) := by decide +kernel
theorem dL_would_45 : decode cL_would 45 = .ok (.istore 5, 2) := by decide +kernel
theorem dL_would_47 : decode cL_would 47 = .ok (.aload_n 0, 1) := by decide +kernel
theorem dL_would_48 : decode cL_would 48 = .ok (.iload_n 2, 1) := by decide +kernel
theorem dL_would_49 : decode cL_would 49 = .ok (.invokevirtual 51, 3) := by decide +kernel
theorem dL_would_52 : decode cL_would 52 = .ok (.istore 6, 2) := by decide +kernel
theorem dL_would_54 : decode cL_would 54 = .ok (.aload_n 0, 1) := by decide +kernel
theorem dL_would_55 : decode cL_would 55 = .ok (.iload_n 2, 1) := by decide +kernel
theorem dL_would_56 : decode cL_would 56 = .ok (.iload_n 3, 1) := by decide +kernel
theorem dL_would_57 : decode cL_would 57 = .ok (.iload 4, 2) := by decide +kernel
theorem dL_would_59 : decode cL_would 59 = .ok (.iload 5, 2) := by decide +kernel
theorem dL_would_61 : decode cL_would 61 = .ok (.invokevirtual 54, 3) := by decide +kernel
theorem dL_would_64 : decode cL_would 64 = .ok (.istore 7, 2) := by decide +kernel
theorem dL_would_66 : decode cL_would 66 = .ok (.aload_n 0, 1) := by decide +kernel
theorem dL_would_67 : decode cL_would 67 = .ok (.iload_n 3, 1) := by decide +kernel
theorem dL_would_68 : decode cL_would 68 = .ok (.invokevirtual 58, 3) := by decide +kernel
theorem dL_would_71 : decode cL_would 71 = .ok (.istore 8, 2) := by decide +kernel
theorem dL_would_73 : decode cL_would 73 = .ok (.aload_n 0, 1) := by decide +kernel
theorem dL_would_74 : decode cL_would 74 = .ok (.iconst 1, 1) := by decide +kernel
theorem dL_would_75 : decode cL_would 75 = .ok (.invokevirtual 13, 3) := by decide +kernel
theorem dL_would_78 : decode cL_would 78 = .ok (.istore 9, 2) := by decide +kernel
theorem dL_would_80 : decode cL_would 80 = .ok (.iload_n 2, 1) := by decide +kernel
theorem dL_would_81 : decode cL_would 81 = .ok (.ifCond .lt 9, 3) := by decide +kernel
theorem dL_would_84 : decode cL_would 84 = .ok (.iload_n 2, 1) := by decide +kernel
theorem dL_would_85 : decode cL_would 85 = .ok (.bipush 6, 2) := by decide +kernel
theorem dL_would_87 : decode cL_would 87 = .ok (.if_icmp .le 7, 3) := by decide +kernel
theorem dL_would_90 : decode cL_would 90 = .ok (.iconst 1, 1) := by decide +kernel
theorem dL_would_91 : decode cL_would 91 = .ok (.goto 4, 3) := by decide +kernel
theorem dL_would_94 : decode cL_would 94 = .ok (.iconst 0, 1) := by decide +kernel
theorem dL_would_95 : decode cL_would 95 = .ok (.istore 10, 2) := by decide +kernel
theorem dL_would_97 : decode cL_would 97 = .ok (.iload 10, 2) := by decide +kernel
theorem dL_would_99 : decode cL_would 99 = .ok (.ifCond .ne 26, 3) := by decide +kernel
theorem dL_would_102 : decode cL_would 102 = .ok (.iload 4, 2) := by decide +kernel
theorem dL_would_104 : decode cL_would 104 = .ok (.ifCond .eq 21, 3) := by decide +kernel
theorem dL_would_107 : decode cL_would 107 = .ok (.iload 4, 2) := by decide +kernel
theorem dL_would_109 : decode cL_would 109 = .ok (.bipush 21, 2) := by decide +kernel
theorem dL_would_111 : decode cL_would 111 = .ok (.if_icmp .eq 14, 3) := by decide +kernel
theorem dL_would_114 : decode cL_would 114 = .ok (.iload 5, 2) := by decide +kernel
theorem dL_would_116 : decode cL_would 116 = .ok (.ifCond .lt 9, 3) := by decide +kernel
theorem dL_would_119 : decode cL_would 119 = .ok (.iload 5, 2) := by decide +kernel
theorem dL_would_121 : decode cL_would 121 = .ok (.iconst 2, 1) := by decide +kernel
theorem dL_would_122 : decode cL_would 122 = .ok (.if_icmp .le 7, 3) := by decide +kernel
theorem dL_would_125 : decode cL_would 125 = .ok (.iconst 1, 1) := by decide +kernel
theorem dL_would_126 : decode cL_would 126 = .ok (.goto 4, 3) := by decide +kernel
theorem dL_would_129 : decode cL_would 129 = .ok (.iconst 0, 1) := by decide +kernel
theorem dL_would_130 : decode cL_would 130 = .ok (.istore 11, 2) := by decide +kernel
theorem dL_would_132 : decode cL_would 132 = .ok (.iload 10, 2) := by decide +kernel
theorem dL_would_134 : decode cL_would 134 = .ok (.ifCond .eq 12, 3) := by decide +kernel
theorem dL_would_137 : decode cL_would 137 = .ok (.iload 6, 2) := by decide +kernel
theorem dL_would_139 : decode cL_would 139 = .ok (.iconst (-1), 1) := by decide +kernel
theorem dL_would_140 : decode cL_would 140 = .ok (.if_icmp .ne 126, 3) := by decide +kernel
theorem dL_would_143 : decode cL_would 143 = .ok (.goto 29, 3) := by decide +kernel
theorem dL_would_146 : decode cL_would 146 = .ok (.iload 6, 2) := by decide +kernel
theorem dL_would_148 : decode cL_would 148 = .ok (.ifCond .lt 118, 3) := by decide +kernel
theorem dL_would_151 : decode cL_would 151 = .ok (.iload 6, 2) := by decide +kernel
theorem dL_would_153 : decode cL_would 153 = .ok (.bipush 7, 2) := by decide +kernel
theorem dL_would_155 : decode cL_would 155 = .ok (.if_icmp .ge 111, 3) := by decide +kernel
theorem dL_would_158 : decode cL_would 158 = .ok (.aload_n 0, 1) := by decide +kernel
theorem dL_would_159 : decode cL_would 159 = .ok (.iconst 0, 1) := by decide +kernel
theorem dL_would_160 : decode cL_would 160 = .ok (.invokevirtual 42, 3) := by decide +kernel
theorem dL_would_163 : decode cL_would 163 = .ok (.iload 6, 2) := by decide +kernel
theorem dL_would_165 : decode cL_would 165 = .ok (.ishr, 1) := by decide +kernel
theorem dL_would_166 : decode cL_would 166 = .ok (.iconst 1, 1) := by decide +kernel
theorem dL_would_167 : decode cL_would 167 = .ok (.iand, 1) := by decide +kernel
theorem dL_would_168 : decode cL_would 168 = .ok (.iconst 1, 1) := by decide +kernel
theorem dL_would_169 : decode cL_would 169 = .ok (.if_icmp .ne 97, 3) := by decide +kernel
theorem dL_would_172 : decode cL_would 172 = .ok (.iload 11, 2) := by decide +kernel
theorem dL_would_174 : decode cL_would 174 = .ok (.ifCond .eq 12, 3) := by decide +kernel
theorem dL_would_177 : decode cL_would 177 = .ok (.iload 7, 2) := by decide +kernel
theorem dL_would_179 : decode cL_would 179 = .ok (.iconst (-1), 1) := by decide +kernel
theorem dL_would_180 : decode cL_would 180 = .ok (.if_icmp .ne 86, 3) := by decide +kernel
theorem dL_would_183 : decode cL_would 183 = .ok (.goto 79, 3) := by decide +kernel
theorem dL_would_186 : decode cL_would 186 = .ok (.iload 5, 2) := by decide +kernel
theorem dL_would_188 : decode cL_would 188 = .ok (.ifCond .ne 33, 3) := by decide +kernel
theorem dL_would_191 : decode cL_would 191 = .ok (.iload 7, 2) := by decide +kernel
theorem dL_would_193 : decode cL_would 193 = .ok (.ifCond .lt 73, 3) := by decide +kernel
theorem dL_would_196 : decode cL_would 196 = .ok (.iload 7, 2) := by decide +kernel
theorem dL_would_198 : decode cL_would 198 = .ok (.bipush 14, 2) := by decide +kernel
theorem dL_would_200 : decode cL_would 200 = .ok (.iload 4, 2) := by decide +kernel
theorem dL_would_202 : decode cL_would 202 = .ok (.iload 9, 2) := by decide +kernel
theorem dL_would_204 : decode cL_would 204 = .ok (.if_icmp .ge 8, 3) := by decide +kernel
theorem dL_would_207 : decode cL_would 207 = .ok (.iload 4, 2) := by decide +kernel
theorem dL_would_209 : decode cL_would 209 = .ok (.goto 5, 3) := by decide +kernel
theorem dL_would_212 : decode cL_would 212 = .ok (.iload 9, 2) := by decide +kernel
theorem dL_would_214 : decode cL_would 214 = .ok (.imul, 1) := by decide +kernel
theorem dL_would_215 : decode cL_would 215 = .ok (.if_icmp .gt 51, 3) := by decide +kernel
theorem dL_would_218 : decode cL_would 218 = .ok (.goto 44, 3) := by decide +kernel
theorem dL_would_221 : decode cL_would 221 = .ok (.iload 5, 2) := by decide +kernel
theorem dL_would_223 : decode cL_would 223 = .ok (.iconst 1, 1) := by decide +kernel
theorem dL_would_224 : decode cL_would 224 = .ok (.if_icmp .ne 25, 3) := by decide +kernel
theorem dL_would_227 : decode cL_would 227 = .ok (.iload 7, 2) := by decide +kernel
theorem dL_would_229 : decode cL_would 229 = .ok (.ifCond .lt 37, 3) := by decide +kernel
theorem dL_would_232 : decode cL_would 232 = .ok (.iload 7, 2) := by decide +kernel
theorem dL_would_234 : decode cL_would 234 = .ok (.iload 4, 2) := by decide +kernel
theorem dL_would_236 : decode cL_would 236 = .ok (.if_icmp .gt 30, 3) := by decide +kernel
theorem dL_would_239 : decode cL_would 239 = .ok (.iload 7, 2) := by decide +kernel
theorem dL_would_241 : decode cL_would 241 = .ok (.iload 9, 2) := by decide +kernel
theorem dL_would_243 : decode cL_would 243 = .ok (.if_icmp .gt 23, 3) := by decide +kernel
theorem dL_would_246 : decode cL_would 246 = .ok (.goto 16, 3) := by decide +kernel
theorem dL_would_249 : decode cL_would 249 = .ok (.iload 7, 2) := by decide +kernel
theorem dL_would_251 : decode cL_would 251 = .ok (.ifCond .le 15, 3) := by decide +kernel
theorem dL_would_254 : decode cL_would 254 = .ok (.iload 7, 2) := by decide +kernel
theorem dL_would_256 : decode cL_would 256 = .ok (.sipush 128, 3) := by decide +kernel
theorem dL_would_259 : decode cL_would 259 = .ok (.if_icmp .ge 7, 3) := by decide +kernel
theorem dL_would_262 : decode cL_would 262 = .ok (.iconst 1, 1) := by decide +kernel
theorem dL_would_263 : decode cL_would 263 = .ok (.goto 4, 3) := by decide +kernel
theorem dL_would_266 : decode cL_would 266 = .ok (.iconst 0, 1) := by decide +kernel
theorem dL_would_267 : decode cL_would 267 = .ok (.istore 12, 2) := by decide +kernel
theorem dL_would_269 : decode cL_would 269 = .ok (.iload 12, 2) := by decide +kernel
theorem dL_would_271 : decode cL_would 271 = .ok (.ifCond .eq 59, 3) := by decide +kernel
theorem dL_would_274 : decode cL_would 274 = .ok (.iload 9, 2) := by decide +kernel
theorem dL_would_276 : decode cL_would 276 = .ok (.ifCond .ne 13, 3) := by decide +kernel
theorem dL_would_279 : decode cL_would 279 = .ok (.iload 8, 2) := by decide +kernel
theorem dL_would_281 : decode cL_would 281 = .ok (.bipush (-2), 2) := by decide +kernel
theorem dL_would_283 : decode cL_would 283 = .ok (.if_icmp .ne 47, 3) := by decide +kernel
theorem dL_would_286 : decode cL_would 286 = .ok (.goto 40, 3) := by decide +kernel
theorem dL_would_289 : decode cL_would 289 = .ok (.iload 8, 2) := by decide +kernel
theorem dL_would_291 : decode cL_would 291 = .ok (.ifCond .lt 39, 3) := by decide +kernel
theorem dL_would_294 : decode cL_would 294 = .ok (.iload 8, 2) := by decide +kernel
theorem dL_would_296 : decode cL_would 296 = .ok (.bipush 7, 2) := by decide +kernel
theorem dL_would_298 : decode cL_would 298 = .ok (.if_icmp .ge 32, 3) := by decide +kernel
theorem dL_would_301 : decode cL_would 301 = .ok (.iload 10, 2) := by decide +kernel
theorem dL_would_303 : decode cL_would 303 = .ok (.ifCond .ne 23, 3) := by decide +kernel
theorem dL_would_306 : decode cL_would 306 = .ok (.aload_n 0, 1) := by decide +kernel
theorem dL_would_307 : decode cL_would 307 = .ok (.iload 8, 2) := by decide +kernel
theorem dL_would_309 : decode cL_would 309 = .ok (.iload_n 3, 1) := by decide +kernel
theorem dL_would_310 : decode cL_would 310 = .ok (.iconst 1, 1) := by decide +kernel
theorem dL_would_311 : decode cL_would 311 = .ok (.iconst 0, 1) := by decide +kernel
theorem dL_would_312 : decode cL_would 312 = .ok (.invokevirtual 54, 3) := by decide +kernel
theorem dL_would_315 : decode cL_would 315 = .ok (.aload_n 0, 1) := by decide +kernel
theorem dL_would_316 : decode cL_would 316 = .ok (.iload_n 2, 1) := by decide +kernel
theorem dL_would_317 : decode cL_would 317 = .ok (.iload_n 3, 1) := by decide +kernel
theorem dL_would_318 : decode cL_would 318 = .ok (.iconst 1, 1) := by decide +kernel
theorem dL_would_319 : decode cL_would 319 = .ok (.iconst 0, 1) := by decide +kernel
theorem dL_would_320 : decode cL_would 320 = .ok (.invokevirtual 54, 3) := by decide +kernel
theorem dL_would_323 : decode cL_would 323 = .ok (.if_icmp .lt 7, 3) := by decide +kernel
theorem dL_would_326 : decode cL_would 326 = .ok (.iconst 1, 1) := by decide +kernel
theorem dL_would_327 : decode cL_would 327 = .ok (.goto 4, 3) := by decide +kernel
theorem dL_would_330 : decode cL_would 330 = .ok (.iconst 0, 1) := by decide +kernel
theorem dL_would_331 : decode cL_would 331 = .ok (.ireturn, 1) := by decide +kernel
