set_option maxRecDepth 20000 in
theorem ggL_boards_L_low : GoodIn wsL_boards wsL_low := goodIn_r _ [4, 5] rfl (by decide +kernel)
set_option maxRecDepth 20000 in
theorem gL_boards_L_low : GoodIn wsL_boards (va_wsS RL 48 yL_low wsL_low) := goodIn_app (goodIn_of _ (by decide +kernel)) ggL_boards_L_low
set_option maxRecDepth 20000 in
theorem ggL_boards_X6_count : GoodIn wsL_boards wsX6_count := goodIn_r _ [10, 11, 12, 13, 14, 15, 16, 17, 18, 19, 20, 21, 22, 23, 24, 25, 26, 27, 28, 29, 30, 31, 32, 33, 34, 35, 36, 37, 38, 39, 40, 41, 42, 43, 44, 45, 46, 47, 48, 49, 50, 51, 52, 53, 54, 55, 56, 57, 58, 59, 60, 61, 62, 63, 64, 65, 66, 67, 68, 69, 70, 71, 72, 73, 74, 75, 76, 77, 78, 79, 80, 81, 82, 83, 84, 85, 86, 9, 87, 88, 89, 90, 91, 92, 93, 94, 95, 96, 97, 98, 99, 100, 101, 102, 103, 104, 105, 106, 107, 108, 109, 110, 111, 112, 113, 114, 115, 116, 117, 118, 119, 120, 121, 122, 123, 124, 125, 126, 127, 128, 129, 130, 131, 254, 255, 256, 257, 258, 259, 260, 261, 262, 263, 264, 265, 266, 267, 268, 269, 270, 271, 272, 273, 274, 275, 276, 277, 278, 279, 280, 281, 282, 283, 284, 285, 286, 287] rfl (by decide +kernel)
set_option maxRecDepth 20000 in
theorem gL_boards_X6_count : GoodIn wsL_boards (wsV RL 13 RX6 yX6_count wsX6_count) := goodIn_app (goodIn_of _ (by decide +kernel)) ggL_boards_X6_count
set_option maxRecDepth 20000 in
theorem ggL_boards_X6_clear : GoodIn wsL_boards wsX6_clear := goodIn_r _ [135, 128, 129, 136, 137, 138, 139, 140, 141, 254, 255, 256, 257, 258, 259, 260, 261, 262, 263, 284, 285] rfl (by decide +kernel)
set_option maxRecDepth 20000 in
theorem gL_boards_X6_clear : GoodIn wsL_boards (wsV RL 62 RX6 yX6_clear wsX6_clear) := goodIn_app (goodIn_of _ (by decide +kernel)) ggL_boards_X6_clear
set_option maxRecDepth 20000 in
theorem ggL_boards_X6_append : GoodIn wsL_boards wsX6_append := goodIn_r _ [145, 128, 129, 146, 147, 9, 148, 149, 150, 151, 139, 152, 153, 141, 154, 155, 156, 21, 157, 23, 254, 255, 256, 257, 258, 259, 260, 261, 262, 263, 284, 285, 275] rfl (by decide +kernel)
set_option maxRecDepth 20000 in
theorem gL_boards_X6_append : GoodIn wsL_boards (wsV RL 66 RX6 yX6_append wsX6_append) := goodIn_app (goodIn_of _ (by decide +kernel)) ggL_boards_X6_append
set_option maxRecDepth 20000 in
theorem ggL_boards_X6_fault : GoodIn wsL_boards wsX6_fault := goodIn_r _ [161, 128, 162, 163, 164, 139, 165, 141, 166, 167, 168, 169, 153, 170, 45, 46, 21, 47, 23, 171, 172, 173, 174, 175, 176, 177, 178, 179, 180, 181, 182, 183, 147, 9, 148, 254, 255, 256, 257, 258, 259, 260, 261, 262, 263, 284, 285, 275] rfl (by decide +kernel)
set_option maxRecDepth 20000 in
theorem gL_boards_X6_fault : GoodIn wsL_boards (wsV RL 69 RX6 yX6_fault wsX6_fault) := goodIn_app (goodIn_of _ (by decide +kernel)) ggL_boards_X6_fault
set_option maxRecDepth 20000 in
theorem ggL_boards_X6_board : GoodIn wsL_boards wsX6_board := goodIn_r _ [187, 128, 130, 11, 16, 162, 163, 164, 139, 165, 141, 166, 167, 168, 169, 153, 170, 45, 46, 21, 47, 23, 171, 172, 173, 188, 189, 190, 191, 192, 193, 194, 195, 196, 197, 198, 199, 200, 201, 202, 203, 204, 205, 64, 206, 207, 208, 70, 209, 71, 210, 211, 212, 213, 214, 215, 216, 217, 218, 27, 219, 39, 33, 60, 220, 221, 101, 222, 223, 224, 225, 226, 227, 228, 105, 54, 106, 229, 230, 231, 232, 233, 234, 235, 236, 237, 238, 239, 155, 156, 157, 136, 137, 138, 140, 24, 25, 26, 28, 29, 30, 31, 32, 34, 19, 20, 22, 254, 255, 256, 257, 258, 259, 260, 261, 262, 263, 264, 265, 266, 267, 268, 269, 270, 271, 272, 273, 274, 284, 285, 275, 286, 287, 276, 277, 278, 279, 280, 281, 282, 283] rfl (by decide +kernel)
set_option maxRecDepth 20000 in
theorem gL_boards_X6_board : GoodIn wsL_boards (wsV RL 72 RX6 yX6_board wsX6_board) := goodIn_app (goodIn_of _ (by decide +kernel)) ggL_boards_X6_board
set_option maxRecDepth 20000 in
theorem ggL_boards_X6_pin : GoodIn wsL_boards wsX6_pin := goodIn_r _ [243, 11, 16, 244, 245, 246, 247, 17, 146, 147, 9, 148, 248, 41, 42, 27, 43, 33, 44, 45, 46, 21, 47, 23, 249, 250, 251, 252, 76, 253, 78, 79, 80, 81, 82, 83, 84, 85, 86, 87, 88, 89, 90, 91, 92, 93, 94, 95, 96, 40, 97, 98, 99, 100, 39, 101, 102, 103, 104, 105, 54, 106, 107, 108, 109, 254, 255, 256, 257, 258, 259, 260, 261, 262, 263, 264, 265, 266, 267, 268, 269, 270, 271, 272, 273, 274, 276, 277, 278, 279, 280, 281, 282, 283, 275] rfl (by decide +kernel)
set_option maxRecDepth 20000 in
theorem gL_boards_X6_pin : GoodIn wsL_boards (wsV RL 19 RX6 yX6_pin wsX6_pin) := goodIn_app (goodIn_of _ (by decide +kernel)) ggL_boards_X6_pin
theorem dL_boards_0 : decode cL_boards 0 = .ok (.iload_n 1, 1) := by decide +kernel
theorem dL_boards_1 : decode cL_boards 1 = .ok (.bipush 24, 2) := by decide +kernel
theorem dL_boards_3 : decode cL_boards 3 = .ok (.ishr, 1) := by decide +kernel
theorem dL_boards_4 : decode cL_boards 4 = .ok (.bipush 7, 2) := by decide +kernel
theorem dL_boards_6 : decode cL_boards 6 = .ok (.invokestatic 48, 3) := by decide +kernel
theorem dL_boards_9 : decode cL_boards 9 = .ok (.ifCond .ne 15, 3) := by decide +kernel
theorem dL_boards_12 : decode cL_boards 12 = .ok (.bipush 32, 2) := by decide +kernel
theorem dL_boards_14 : decode cL_boards 14 = .ok (.iload_n 1, 1) := by decide +kernel
theorem dL_boards_15 : decode cL_boards 15 = .ok (.bipush 6, 2) := by decide +kernel
theorem dL_boards_17 : decode cL_boards 17 = .ok (.invokestatic 48, 3) := by decide +kernel
theorem dL_boards_20 : decode cL_boards 20 = .ok (.iadd, 1) := by decide +kernel
theorem dL_boards_21 : decode cL_boards 21 = .ok (.goto 5, 3) := by decide +kernel
theorem dL_boards_24 : decode cL_boards 24 = .ok (.bipush 35, 2) := by decide +kernel
theorem dL_boards_26 : decode cL_boards 26 = .ok (.istore_n 2, 1) := by decide +kernel
theorem dL_boards_27 : decode cL_boards 27 = .ok (.aload_n 0, 1) := by decide +kernel
theorem dL_boards_28 : decode cL_boards 28 = .ok (.iconst 0, 1) := by decide +kernel
theorem dL_boards_29 : decode cL_boards 29 = .ok (.invokevirtual 13, 3) := by decide +kernel
theorem dL_boards_32 : decode cL_boards 32 = .ok (.istore_n 3, 1) := by decide +kernel
theorem dL_boards_33 : decode cL_boards 33 = .ok (.aload_n 0, 1) := by decide +kernel
theorem dL_boards_34 : decode cL_boards 34 = .ok (.iconst 1, 1) := by decide +kernel
theorem dL_boards_35 : decode cL_boards 35 = .ok (.invokevirtual 13, 3) := by decide +kernel
theorem dL_boards_38 : decode cL_boards 38 = .ok (.istore 4, 2) := by decide +kernel
theorem dL_boards_40 : decode cL_boards 40 = .ok (.iload_n 1, 1) := by decide +kernel
theorem dL_boards_41 : decode cL_boards 41 = .ok (.bipush 22, 2) := by decide +kernel
theorem dL_boards_43 : decode cL_boards 43 = .ok (.ishr, 1) := by decide +kernel
theorem dL_boards_44 : decode cL_boards 44 = .ok (.bipush 9, 2) := by decide +kernel
theorem dL_boards_46 : decode cL_boards 46 = .ok (.invokestatic 48, 3) := by decide +kernel
theorem dL_boards_49 : decode cL_boards 49 = .ok (.ifCond .ne 12, 3) := by decide +kernel
theorem dL_boards_52 : decode cL_boards 52 = .ok (.iload_n 1, 1) := by decide +kernel
theorem dL_boards_53 : decode cL_boards 53 = .ok (.bipush 35, 2) := by decide +kernel
theorem dL_boards_55 : decode cL_boards 55 = .ok (.invokestatic 48, 3) := by decide +kernel
theorem dL_boards_58 : decode cL_boards 58 = .ok (.goto 4, 3) := by decide +kernel
theorem dL_boards_61 : decode cL_boards 61 = .ok (.iconst (-1), 1) := by decide +kernel
theorem dL_boards_62 : decode cL_boards 62 = .ok (.istore 5, 2) := by decide +kernel
theorem dL_boards_64 : decode cL_boards 64 = .ok (.iconst 0, 1) := by decide +kernel
theorem dL_boards_65 : decode cL_boards 65 = .ok (.istore 6, 2) := by decide +kernel
theorem dL_boards_67 : decode cL_boards 67 = .ok (.aload_n 0, 1) := by decide +kernel
theorem dL_boards_68 : decode cL_boards 68 = .ok (.invokevirtual 62, 3) := by decide +kernel
theorem dL_boards_71 : decode cL_boards 71 = .ok (.ifCond .lt 7, 3) := by decide +kernel
theorem dL_boards_74 : decode cL_boards 74 = .ok (.iconst 1, 1) := by decide +kernel
theorem dL_boards_75 : decode cL_boards 75 = .ok (.goto 4, 3) := by decide +kernel
theorem dL_boards_78 : decode cL_boards 78 = .ok (.iconst 0, 1) := by decide +kernel
theorem dL_boards_79 : decode cL_boards 79 = .ok (.istore 7, 2) := by decide +kernel
theorem dL_boards_81 : decode cL_boards 81 = .ok (.iconst 0, 1) := by decide +kernel
theorem dL_boards_82 : decode cL_boards 82 = .ok (.istore 8, 2) := by decide +kernel
theorem dL_boards_84 : decode cL_boards 84 = .ok (.iload 8, 2) := by decide +kernel
theorem dL_boards_86 : decode cL_boards 86 = .ok (.iload_n 2, 1) := by decide +kernel
theorem dL_boards_87 : decode cL_boards 87 = .ok (.if_icmp .ge 114, 3) := by decide +kernel
theorem dL_boards_90 : decode cL_boards 90 = .ok (.iload_n 1, 1) := by decide +kernel
theorem dL_boards_91 : decode cL_boards 91 = .ok (.iload 8, 2) := by decide +kernel
theorem dL_boards_93 : decode cL_boards 93 = .ok (.bipush 19, 2) := by decide +kernel
theorem dL_boards_95 : decode cL_boards 95 = .ok (.irem, 1) := by decide +kernel
theorem dL_boards_96 : decode cL_boards 96 = .ok (.ishr, 1) := by decide +kernel
theorem dL_boards_97 : decode cL_boards 97 = .ok (.bipush 8, 2) := by decide +kernel
theorem dL_boards_99 : decode cL_boards 99 = .ok (.invokestatic 48, 3) := by decide +kernel
theorem dL_boards_102 : decode cL_boards 102 = .ok (.istore 9, 2) := by decide +kernel
theorem dL_boards_104 : decode cL_boards 104 = .ok (.iload 6, 2) := by decide +kernel
theorem dL_boards_106 : decode cL_boards 106 = .ok (.iload 9, 2) := by decide +kernel
theorem dL_boards_108 : decode cL_boards 108 = .ok (.ifCond .ne 7, 3) := by decide +kernel
theorem dL_boards_111 : decode cL_boards 111 = .ok (.iconst 0, 1) := by decide +kernel
theorem dL_boards_112 : decode cL_boards 112 = .ok (.goto 4, 3) := by decide +kernel
theorem dL_boards_115 : decode cL_boards 115 = .ok (.iconst 1, 1) := by decide +kernel
theorem dL_boards_116 : decode cL_boards 116 = .ok (.iadd, 1) := by decide +kernel
theorem dL_boards_117 : decode cL_boards 117 = .ok (.istore 6, 2) := by decide +kernel
theorem dL_boards_119 : decode cL_boards 119 = .ok (.iload 7, 2) := by decide +kernel
theorem dL_boards_121 : decode cL_boards 121 = .ok (.ifCond .eq 71, 3) := by decide +kernel
theorem dL_boards_124 : decode cL_boards 124 = .ok (.aload_n 0, 1) := by decide +kernel
theorem dL_boards_125 : decode cL_boards 125 = .ok (.iload 8, 2) := by decide +kernel
theorem dL_boards_127 : decode cL_boards 127 = .ok (.iload 5, 2) := by decide +kernel
theorem dL_boards_129 : decode cL_boards 129 = .ok (.if_icmp .ne 8, 3) := by decide +kernel
theorem dL_boards_132 : decode cL_boards 132 = .ok (.bipush 120, 2) := by decide +kernel
theorem dL_boards_134 : decode cL_boards 134 = .ok (.goto 48, 3) := by decide +kernel
theorem dL_boards_137 : decode cL_boards 137 = .ok (.iload 9, 2) := by decide +kernel
theorem dL_boards_139 : decode cL_boards 139 = .ok (.ifCond .ne 8, 3) := by decide +kernel
theorem dL_boards_142 : decode cL_boards 142 = .ok (.bipush 46, 2) := by decide +kernel
theorem dL_boards_144 : decode cL_boards 144 = .ok (.goto 38, 3) := by decide +kernel
theorem dL_boards_147 : decode cL_boards 147 = .ok (.iload 9, 2) := by decide +kernel
theorem dL_boards_149 : decode cL_boards 149 = .ok (.iconst 1, 1) := by decide +kernel
theorem dL_boards_150 : decode cL_boards 150 = .ok (.if_icmp .ne 8, 3) := by decide +kernel
theorem dL_boards_153 : decode cL_boards 153 = .ok (.bipush 60, 2) := by decide +kernel
theorem dL_boards_155 : decode cL_boards 155 = .ok (.goto 27, 3) := by decide +kernel
theorem dL_boards_158 : decode cL_boards 158 = .ok (.iload 9, 2) := by decide +kernel
theorem dL_boards_160 : decode cL_boards 160 = .ok (.iconst 2, 1) := by decide +kernel
theorem dL_boards_161 : decode cL_boards 161 = .ok (.if_icmp .ne 8, 3) := by decide +kernel
theorem dL_boards_164 : decode cL_boards 164 = .ok (.bipush 62, 2) := by decide +kernel
theorem dL_boards_166 : decode cL_boards 166 = .ok (.goto 16, 3) := by decide +kernel
theorem dL_boards_169 : decode cL_boards 169 = .ok (.iload 9, 2) := by decide +kernel
theorem dL_boards_171 : decode cL_boards 171 = .ok (.iconst 3, 1) := by decide +kernel
theorem dL_boards_172 : decode cL_boards 172 = .ok (.if_icmp .ne 8, 3) := by decide +kernel
theorem dL_boards_175 : decode cL_boards 175 = .ok (.bipush 111, 2) := by decide +kernel
theorem dL_boards_177 : decode cL_boards 177 = .ok (.goto 5, 3) := by decide +kernel
theorem dL_boards_180 : decode cL_boards 180 = .ok (.bipush 124, 2) := by decide +kernel
theorem dL_boards_182 : decode cL_boards 182 = .ok (.invokevirtual 66, 3) := by decide +kernel
theorem dL_boards_185 : decode cL_boards 185 = .ok (.ifCond .le 7, 3) := by decide +kernel
theorem dL_boards_188 : decode cL_boards 188 = .ok (.iconst 1, 1) := by decide +kernel
theorem dL_boards_189 : decode cL_boards 189 = .ok (.goto 4, 3) := by decide +kernel
theorem dL_boards_192 : decode cL_boards 192 = .ok (.iconst 0, 1) := by decide +kernel
theorem dL_boards_193 : decode cL_boards 193 = .ok (.istore 7, 2) := by decide +kernel
theorem dL_boards_195 : decode cL_boards 195 = .ok (.iinc 8 1, 3) := by decide +kernel
theorem dL_boards_198 : decode cL_boards 198 = .ok (.goto (-114), 3) := by decide +kernel
theorem dL_boards_201 : decode cL_boards 201 = .ok (.iload_n 2, 1) := by decide +kernel
theorem dL_boards_202 : decode cL_boards 202 = .ok (.bipush 35, 2) := by decide +kernel
theorem dL_boards_204 : decode cL_boards 204 = .ok (.if_icmp .ne 12, 3) := by decide +kernel
theorem dL_boards_207 : decode cL_boards 207 = .ok (.iload 5, 2) := by decide +kernel
theorem dL_boards_209 : decode cL_boards 209 = .ok (.ifCond .ge 7, 3) := by decide +kernel
theorem dL_boards_212 : decode cL_boards 212 = .ok (.iconst 1, 1) := by decide +kernel
theorem dL_boards_213 : decode cL_boards 213 = .ok (.goto 4, 3) := by decide +kernel
theorem dL_boards_216 : decode cL_boards 216 = .ok (.iconst 0, 1) := by decide +kernel
theorem dL_boards_217 : decode cL_boards 217 = .ok (.istore 8, 2) := by decide +kernel
theorem dL_boards_219 : decode cL_boards 219 = .ok (.aload_n 0, 1) := by decide +kernel
theorem dL_boards_220 : decode cL_boards 220 = .ok (.iconst 0, 1) := by decide +kernel
theorem dL_boards_221 : decode cL_boards 221 = .ok (.invokevirtual 69, 3) := by decide +kernel
theorem dL_boards_224 : decode cL_boards 224 = .ok (.istore 9, 2) := by decide +kernel
theorem dL_boards_226 : decode cL_boards 226 = .ok (.aload_n 0, 1) := by decide +kernel
theorem dL_boards_227 : decode cL_boards 227 = .ok (.invokevirtual 72, 3) := by decide +kernel
theorem dL_boards_230 : decode cL_boards 230 = .ok (.istore 10, 2) := by decide +kernel
theorem dL_boards_232 : decode cL_boards 232 = .ok (.aload_n 0, 1) := by decide +kernel
theorem dL_boards_233 : decode cL_boards 233 = .ok (.invokevirtual 62, 3) := by decide +kernel
theorem dL_boards_236 : decode cL_boards 236 = .ok (.istore 11, 2) := by decide +kernel
theorem dL_boards_238 : decode cL_boards 238 = .ok (.iload 7, 2) := by decide +kernel
theorem dL_boards_240 : decode cL_boards 240 = .ok (.ifCond .eq 128, 3) := by decide +kernel
theorem dL_boards_243 : decode cL_boards 243 = .ok (.iload 9, 2) := by decide +kernel
theorem dL_boards_245 : decode cL_boards 245 = .ok (.iload 5, 2) := by decide +kernel
theorem dL_boards_247 : decode cL_boards 247 = .ok (.ifCond .lt 14, 3) := by decide +kernel
theorem dL_boards_250 : decode cL_boards 250 = .ok (.iload 5, 2) := by decide +kernel
theorem dL_boards_252 : decode cL_boards 252 = .ok (.iload_n 2, 1) := by decide +kernel
theorem dL_boards_253 : decode cL_boards 253 = .ok (.if_icmp .ge 8, 3) := by decide +kernel
theorem dL_boards_256 : decode cL_boards 256 = .ok (.iload 5, 2) := by decide +kernel
theorem dL_boards_258 : decode cL_boards 258 = .ok (.goto 26, 3) := by decide +kernel
theorem dL_boards_261 : decode cL_boards 261 = .ok (.iload_n 2, 1) := by decide +kernel
theorem dL_boards_262 : decode cL_boards 262 = .ok (.bipush 35, 2) := by decide +kernel
theorem dL_boards_264 : decode cL_boards 264 = .ok (.if_icmp .ge 7, 3) := by decide +kernel
theorem dL_boards_267 : decode cL_boards 267 = .ok (.iload_n 2, 1) := by decide +kernel
theorem dL_boards_268 : decode cL_boards 268 = .ok (.goto 16, 3) := by decide +kernel
theorem dL_boards_271 : decode cL_boards 271 = .ok (.iload_n 2, 1) := by decide +kernel
theorem dL_boards_272 : decode cL_boards 272 = .ok (.bipush 35, 2) := by decide +kernel
theorem dL_boards_274 : decode cL_boards 274 = .ok (.if_icmp .le 8, 3) := by decide +kernel
theorem dL_boards_277 : decode cL_boards 277 = .ok (.bipush 35, 2) := by decide +kernel
theorem dL_boards_279 : decode cL_boards 279 = .ok (.goto 5, 3) := by decide +kernel
theorem dL_boards_282 : decode cL_boards 282 = .ok (.bipush (-4), 2) := by decide +kernel
theorem dL_boards_284 : decode cL_boards 284 = .ok (.if_icmp .ne 84, 3) := by decide +kernel
theorem dL_boards_287 : decode cL_boards 287 = .ok (.iload 10, 2) := by decide +kernel
theorem dL_boards_289 : decode cL_boards 289 = .ok (.iload 8, 2) := by decide +kernel
theorem dL_boards_291 : decode cL_boards 291 = .ok (.ifCond .eq 8, 3) := by decide +kernel
theorem dL_boards_294 : decode cL_boards 294 = .ok (.iload 6, 2) := by decide +kernel
theorem dL_boards_296 : decode cL_boards 296 = .ok (.goto 5, 3) := by decide +kernel
theorem dL_boards_299 : decode cL_boards 299 = .ok (.bipush (-2), 2) := by decide +kernel
theorem dL_boards_301 : decode cL_boards 301 = .ok (.if_icmp .ne 67, 3) := by decide +kernel
theorem dL_boards_304 : decode cL_boards 304 = .ok (.iload 11, 2) := by decide +kernel
theorem dL_boards_306 : decode cL_boards 306 = .ok (.iload 8, 2) := by decide +kernel
theorem dL_boards_308 : decode cL_boards 308 = .ok (.ifCond .eq 7, 3) := by decide +kernel
theorem dL_boards_311 : decode cL_boards 311 = .ok (.iconst 0, 1) := by decide +kernel
theorem dL_boards_312 : decode cL_boards 312 = .ok (.goto 4, 3) := by decide +kernel
theorem dL_boards_315 : decode cL_boards 315 = .ok (.iload_n 2, 1) := by decide +kernel
theorem dL_boards_316 : decode cL_boards 316 = .ok (.if_icmp .ne 52, 3) := by decide +kernel
theorem dL_boards_319 : decode cL_boards 319 = .ok (.aload_n 0, 1) := by decide +kernel
theorem dL_boards_320 : decode cL_boards 320 = .ok (.iconst 0, 1) := by decide +kernel
theorem dL_boards_321 : decode cL_boards 321 = .ok (.invokevirtual 13, 3) := by decide +kernel
theorem dL_boards_324 : decode cL_boards 324 = .ok (.iload_n 3, 1) := by decide +kernel
theorem dL_boards_325 : decode cL_boards 325 = .ok (.if_icmp .ne 43, 3) := by decide +kernel
theorem dL_boards_328 : decode cL_boards 328 = .ok (.aload_n 0, 1) := by decide +kernel
theorem dL_boards_329 : decode cL_boards 329 = .ok (.iconst 1, 1) := by decide +kernel
theorem dL_boards_330 : decode cL_boards 330 = .ok (.invokevirtual 13, 3) := by decide +kernel
theorem dL_boards_333 : decode cL_boards 333 = .ok (.iload 4, 2) := by decide +kernel
theorem dL_boards_335 : decode cL_boards 335 = .ok (.if_icmp .ne 33, 3) := by decide +kernel
theorem dL_boards_338 : decode cL_boards 338 = .ok (.iload 8, 2) := by decide +kernel
theorem dL_boards_340 : decode cL_boards 340 = .ok (.ifCond .eq 24, 3) := by decide +kernel
theorem dL_boards_343 : decode cL_boards 343 = .ok (.aload_n 0, 1) := by decide +kernel
theorem dL_boards_344 : decode cL_boards 344 = .ok (.iconst 4, 1) := by decide +kernel
theorem dL_boards_345 : decode cL_boards 345 = .ok (.invokevirtual 13, 3) := by decide +kernel
theorem dL_boards_348 : decode cL_boards 348 = .ok (.iload 6, 2) := by decide +kernel
theorem dL_boards_350 : decode cL_boards 350 = .ok (.if_icmp .ne 18, 3) := by decide +kernel
theorem dL_boards_353 : decode cL_boards 353 = .ok (.aload_n 0, 1) := by decide +kernel
theorem dL_boards_354 : decode cL_boards 354 = .ok (.bipush 34, 2) := by decide +kernel
theorem dL_boards_356 : decode cL_boards 356 = .ok (.iconst 2, 1) := by decide +kernel
theorem dL_boards_357 : decode cL_boards 357 = .ok (.invokevirtual 19, 3) := by decide +kernel
theorem dL_boards_360 : decode cL_boards 360 = .ok (.iconst 1, 1) := by decide +kernel
theorem dL_boards_361 : decode cL_boards 361 = .ok (.if_icmp .eq 7, 3) := by decide +kernel
theorem dL_boards_364 : decode cL_boards 364 = .ok (.iconst 1, 1) := by decide +kernel
theorem dL_boards_365 : decode cL_boards 365 = .ok (.goto 4, 3) := by decide +kernel
theorem dL_boards_368 : decode cL_boards 368 = .ok (.iconst 0, 1) := by decide +kernel
theorem dL_boards_369 : decode cL_boards 369 = .ok (.ireturn, 1) := by decide +kernel
