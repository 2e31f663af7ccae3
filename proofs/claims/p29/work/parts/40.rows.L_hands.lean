set_option maxRecDepth 20000 in
theorem ggL_hands_L_low : GoodIn wsL_hands wsL_low := goodIn_r _ [4, 5] rfl (by decide +kernel)
set_option maxRecDepth 20000 in
theorem gL_hands_L_low : GoodIn wsL_hands (va_wsS RL 48 yL_low wsL_low) := goodIn_app (goodIn_of _ (by decide +kernel)) ggL_hands_L_low
set_option maxRecDepth 20000 in
theorem ggL_hands_X6_pin : GoodIn wsL_hands wsX6_pin := goodIn_r _ [10, 11, 12, 13, 14, 15, 16, 17, 18, 19, 9, 20, 21, 22, 23, 24, 25, 26, 27, 28, 29, 30, 31, 32, 33, 34, 35, 36, 37, 38, 39, 40, 41, 42, 43, 44, 45, 46, 47, 48, 49, 50, 51, 52, 53, 54, 55, 56, 57, 58, 59, 60, 61, 62, 63, 64, 65, 66, 67, 68, 69, 70, 71, 72, 73, 238, 239, 240, 241, 242, 243, 244, 245, 246, 247, 248, 249, 250, 251, 252, 253, 254, 255, 256, 257, 258, 259, 260, 261, 262, 263, 264, 265, 266, 267] rfl (by decide +kernel)
set_option maxRecDepth 20000 in
theorem gL_hands_X6_pin : GoodIn wsL_hands (wsV RL 19 RX6 yX6_pin wsX6_pin) := goodIn_app (goodIn_of _ (by decide +kernel)) ggL_hands_X6_pin
set_option maxRecDepth 20000 in
theorem ggL_hands_X6_count : GoodIn wsL_hands wsX6_count := goodIn_r _ [77, 11, 78, 79, 80, 81, 12, 17, 82, 83, 84, 30, 85, 32, 86, 87, 88, 24, 89, 90, 91, 92, 93, 26, 94, 95, 96, 97, 98, 63, 58, 22, 23, 25, 27, 28, 29, 31, 99, 100, 101, 102, 103, 104, 69, 105, 106, 107, 108, 109, 110, 111, 112, 113, 114, 115, 116, 117, 118, 119, 120, 121, 122, 123, 124, 125, 37, 126, 39, 40, 41, 42, 43, 44, 45, 46, 47, 9, 48, 49, 50, 51, 52, 53, 54, 55, 56, 57, 59, 60, 61, 62, 64, 65, 66, 67, 68, 70, 71, 72, 73, 127, 128, 129, 130, 131, 132, 133, 134, 135, 136, 137, 138, 139, 140, 141, 142, 143, 144, 145, 146, 147, 148, 238, 239, 240, 241, 242, 243, 244, 245, 246, 247, 248, 249, 250, 251, 252, 253, 254, 255, 256, 257, 258, 267, 259, 260, 261, 262, 263, 264, 265, 266, 268, 269, 270, 271] rfl (by decide +kernel)
set_option maxRecDepth 20000 in
theorem gL_hands_X6_count : GoodIn wsL_hands (wsV RL 13 RX6 yX6_count wsX6_count) := goodIn_app (goodIn_of _ (by decide +kernel)) ggL_hands_X6_count
set_option maxRecDepth 20000 in
theorem ggL_hands_X6_bend : GoodIn wsL_hands wsX6_bend := goodIn_r _ [152, 147, 11, 18, 19, 9, 20, 153, 154, 155, 156, 157, 158, 159, 160, 161, 162, 163, 164, 165, 166, 167, 168, 169, 170, 114, 171, 172, 173, 120, 174, 121, 175, 176, 177, 178, 179, 180, 181, 182, 183, 24, 184, 63, 26, 110, 185, 186, 64, 187, 188, 189, 190, 191, 30, 192, 32, 193, 68, 69, 70, 194, 195, 196, 197, 198, 199, 200, 201, 202, 203, 204, 22, 23, 25, 27, 28, 29, 31, 205, 206, 207, 208, 209, 210, 211, 212, 213, 214, 215, 216, 122, 238, 239, 240, 241, 242, 243, 244, 245, 246, 247, 270, 271, 248, 249, 250, 251, 252, 253, 254, 255, 256, 257, 258, 259, 260, 261, 262, 263, 264, 265, 266, 267] rfl (by decide +kernel)
set_option maxRecDepth 20000 in
theorem gL_hands_X6_bend : GoodIn wsL_hands (wsV RL 89 RX6 yX6_bend wsX6_bend) := goodIn_app (goodIn_of _ (by decide +kernel)) ggL_hands_X6_bend
set_option maxRecDepth 20000 in
theorem ggL_hands_X6_pull : GoodIn wsL_hands wsX6_pull := goodIn_r _ [220, 147, 11, 12, 18, 19, 9, 20, 153, 154, 155, 156, 157, 158, 159, 160, 161, 162, 163, 164, 165, 166, 167, 168, 169, 170, 114, 171, 172, 173, 120, 174, 121, 175, 176, 177, 178, 179, 180, 181, 182, 183, 24, 184, 63, 26, 110, 185, 186, 64, 187, 188, 189, 190, 191, 30, 192, 32, 193, 68, 69, 70, 194, 195, 196, 197, 198, 221, 222, 223, 224, 27, 28, 29, 31, 225, 226, 227, 228, 229, 91, 92, 93, 94, 83, 84, 85, 238, 239, 240, 241, 242, 243, 244, 245, 246, 247, 248, 249, 250, 251, 252, 253, 254, 255, 256, 257, 258, 270, 271, 259, 260, 261, 262, 263, 264, 265, 266, 267] rfl (by decide +kernel)
set_option maxRecDepth 20000 in
theorem gL_hands_X6_pull : GoodIn wsL_hands (wsV RL 92 RX6 yX6_pull wsX6_pull) := goodIn_app (goodIn_of _ (by decide +kernel)) ggL_hands_X6_pull
set_option maxRecDepth 20000 in
theorem ggL_hands_X6_bell : GoodIn wsL_hands wsX6_bell := goodIn_r _ [233, 147, 11, 12, 18, 19, 9, 20, 153, 154, 155, 156, 157, 158, 159, 160, 161, 162, 163, 164, 165, 166, 167, 168, 169, 170, 114, 171, 172, 173, 120, 174, 121, 175, 176, 177, 178, 179, 180, 181, 182, 183, 24, 184, 63, 26, 110, 185, 186, 64, 187, 188, 189, 190, 191, 30, 192, 32, 193, 68, 69, 70, 194, 195, 196, 197, 198, 234, 235, 236, 237, 27, 28, 29, 31, 225, 226, 227, 228, 106, 107, 108, 109, 94, 83, 84, 85, 238, 239, 240, 241, 242, 243, 244, 245, 246, 247, 248, 249, 250, 251, 252, 253, 254, 255, 256, 257, 258, 270, 271, 259, 260, 261, 262, 263, 264, 265, 266, 267] rfl (by decide +kernel)
set_option maxRecDepth 20000 in
theorem gL_hands_X6_bell : GoodIn wsL_hands (wsV RL 95 RX6 yX6_bell wsX6_bell) := goodIn_app (goodIn_of _ (by decide +kernel)) ggL_hands_X6_bell
theorem dL_hands_0 : decode cL_hands 0 = .ok (.iload_n 2, 1) := by decide +kernel
theorem dL_hands_1 : decode cL_hands 1 = .ok (.iload_n 2, 1) := by decide +kernel
theorem dL_hands_2 : decode cL_hands 2 = .ok (.bipush 13, 2) := by decide +kernel
theorem dL_hands_4 : decode cL_hands 4 = .ok (.ishr, 1) := by decide +kernel
theorem dL_hands_5 : decode cL_hands 5 = .ok (.bipush 9, 2) := by decide +kernel
theorem dL_hands_7 : decode cL_hands 7 = .ok (.invokestatic 48, 3) := by decide +kernel
theorem dL_hands_10 : decode cL_hands 10 = .ok (.ifCond .ne 8, 3) := by decide +kernel
theorem dL_hands_13 : decode cL_hands 13 = .ok (.bipush 36, 2) := by decide +kernel
theorem dL_hands_15 : decode cL_hands 15 = .ok (.goto 5, 3) := by decide +kernel
theorem dL_hands_18 : decode cL_hands 18 = .ok (.bipush 35, 2) := by decide +kernel
theorem dL_hands_20 : decode cL_hands 20 = .ok (.invokestatic 48, 3) := by decide +kernel
theorem dL_hands_23 : decode cL_hands 23 = .ok (.istore_n 3, 1) := by decide +kernel
theorem dL_hands_24 : decode cL_hands 24 = .ok (.iload_n 3, 1) := by decide +kernel
theorem dL_hands_25 : decode cL_hands 25 = .ok (.bipush 35, 2) := by decide +kernel
theorem dL_hands_27 : decode cL_hands 27 = .ok (.if_icmp .ne 7, 3) := by decide +kernel
theorem dL_hands_30 : decode cL_hands 30 = .ok (.iconst 1, 1) := by decide +kernel
theorem dL_hands_31 : decode cL_hands 31 = .ok (.goto 4, 3) := by decide +kernel
theorem dL_hands_34 : decode cL_hands 34 = .ok (.iconst 0, 1) := by decide +kernel
theorem dL_hands_35 : decode cL_hands 35 = .ok (.istore 4, 2) := by decide +kernel
theorem dL_hands_37 : decode cL_hands 37 = .ok (.iload 4, 2) := by decide +kernel
theorem dL_hands_39 : decode cL_hands 39 = .ok (.ifCond .eq 7, 3) := by decide +kernel
theorem dL_hands_42 : decode cL_hands 42 = .ok (.iconst 0, 1) := by decide +kernel
theorem dL_hands_43 : decode cL_hands 43 = .ok (.goto 9, 3) := by decide +kernel
theorem dL_hands_46 : decode cL_hands 46 = .ok (.aload_n 0, 1) := by decide +kernel
theorem dL_hands_47 : decode cL_hands 47 = .ok (.iload_n 3, 1) := by decide +kernel
theorem dL_hands_48 : decode cL_hands 48 = .ok (.iconst 0, 1) := by decide +kernel
theorem dL_hands_49 : decode cL_hands 49 = .ok (.invokevirtual 19, 3) := by decide +kernel
theorem dL_hands_52 : decode cL_hands 52 = .ok (.istore 5, 2) := by decide +kernel
theorem dL_hands_54 : decode cL_hands 54 = .ok (.aload_n 0, 1) := by decide +kernel
theorem dL_hands_55 : decode cL_hands 55 = .ok (.bipush 14, 2) := by decide +kernel
theorem dL_hands_57 : decode cL_hands 57 = .ok (.invokevirtual 13, 3) := by decide +kernel
theorem dL_hands_60 : decode cL_hands 60 = .ok (.istore 6, 2) := by decide +kernel
theorem dL_hands_62 : decode cL_hands 62 = .ok (.iload_n 1, 1) := by decide +kernel
theorem dL_hands_63 : decode cL_hands 63 = .ok (.ifCond .ne 167, 3) := by decide +kernel
theorem dL_hands_66 : decode cL_hands 66 = .ok (.iload_n 2, 1) := by decide +kernel
theorem dL_hands_67 : decode cL_hands 67 = .ok (.bipush 6, 2) := by decide +kernel
theorem dL_hands_69 : decode cL_hands 69 = .ok (.ishr, 1) := by decide +kernel
theorem dL_hands_70 : decode cL_hands 70 = .ok (.iconst 2, 1) := by decide +kernel
theorem dL_hands_71 : decode cL_hands 71 = .ok (.invokestatic 48, 3) := by decide +kernel
theorem dL_hands_74 : decode cL_hands 74 = .ok (.ifCond .ne 7, 3) := by decide +kernel
theorem dL_hands_77 : decode cL_hands 77 = .ok (.iconst 1, 1) := by decide +kernel
theorem dL_hands_78 : decode cL_hands 78 = .ok (.goto 4, 3) := by decide +kernel
theorem dL_hands_81 : decode cL_hands 81 = .ok (.iconst 0, 1) := by decide +kernel
theorem dL_hands_82 : decode cL_hands 82 = .ok (.istore 7, 2) := by decide +kernel
theorem dL_hands_84 : decode cL_hands 84 = .ok (.iload 5, 2) := by decide +kernel
theorem dL_hands_86 : decode cL_hands 86 = .ok (.iload 7, 2) := by decide +kernel
theorem dL_hands_88 : decode cL_hands 88 = .ok (.ifCond .eq 7, 3) := by decide +kernel
theorem dL_hands_91 : decode cL_hands 91 = .ok (.iconst 1, 1) := by decide +kernel
theorem dL_hands_92 : decode cL_hands 92 = .ok (.goto 4, 3) := by decide +kernel
theorem dL_hands_95 : decode cL_hands 95 = .ok (.iconst (-1), 1) := by decide +kernel
theorem dL_hands_96 : decode cL_hands 96 = .ok (.iadd, 1) := by decide +kernel
theorem dL_hands_97 : decode cL_hands 97 = .ok (.istore 8, 2) := by decide +kernel
theorem dL_hands_99 : decode cL_hands 99 = .ok (.iload 4, 2) := by decide +kernel
theorem dL_hands_101 : decode cL_hands 101 = .ok (.ifCond .eq 7, 3) := by decide +kernel
theorem dL_hands_104 : decode cL_hands 104 = .ok (.iconst 0, 1) := by decide +kernel
theorem dL_hands_105 : decode cL_hands 105 = .ok (.goto 31, 3) := by decide +kernel
theorem dL_hands_108 : decode cL_hands 108 = .ok (.iload 5, 2) := by decide +kernel
theorem dL_hands_110 : decode cL_hands 110 = .ok (.bipush (-4), 2) := by decide +kernel
theorem dL_hands_112 : decode cL_hands 112 = .ok (.if_icmp .ne 7, 3) := by decide +kernel
theorem dL_hands_115 : decode cL_hands 115 = .ok (.iconst 2, 1) := by decide +kernel
theorem dL_hands_116 : decode cL_hands 116 = .ok (.goto 20, 3) := by decide +kernel
theorem dL_hands_119 : decode cL_hands 119 = .ok (.iload 8, 2) := by decide +kernel
theorem dL_hands_121 : decode cL_hands 121 = .ok (.ifCond .lt 10, 3) := by decide +kernel
theorem dL_hands_124 : decode cL_hands 124 = .ok (.iload 8, 2) := by decide +kernel
theorem dL_hands_126 : decode cL_hands 126 = .ok (.bipush 6, 2) := by decide +kernel
theorem dL_hands_128 : decode cL_hands 128 = .ok (.if_icmp .le 7, 3) := by decide +kernel
theorem dL_hands_131 : decode cL_hands 131 = .ok (.iconst 3, 1) := by decide +kernel
theorem dL_hands_132 : decode cL_hands 132 = .ok (.goto 4, 3) := by decide +kernel
theorem dL_hands_135 : decode cL_hands 135 = .ok (.iconst 0, 1) := by decide +kernel
theorem dL_hands_136 : decode cL_hands 136 = .ok (.istore 9, 2) := by decide +kernel
theorem dL_hands_138 : decode cL_hands 138 = .ok (.aload_n 0, 1) := by decide +kernel
theorem dL_hands_139 : decode cL_hands 139 = .ok (.iload_n 3, 1) := by decide +kernel
theorem dL_hands_140 : decode cL_hands 140 = .ok (.iload 7, 2) := by decide +kernel
theorem dL_hands_142 : decode cL_hands 142 = .ok (.invokevirtual 89, 3) := by decide +kernel
theorem dL_hands_145 : decode cL_hands 145 = .ok (.istore 10, 2) := by decide +kernel
theorem dL_hands_147 : decode cL_hands 147 = .ok (.iload 10, 2) := by decide +kernel
theorem dL_hands_149 : decode cL_hands 149 = .ok (.iload 4, 2) := by decide +kernel
theorem dL_hands_151 : decode cL_hands 151 = .ok (.ifCond .eq 7, 3) := by decide +kernel
theorem dL_hands_154 : decode cL_hands 154 = .ok (.iconst (-1), 1) := by decide +kernel
theorem dL_hands_155 : decode cL_hands 155 = .ok (.goto 18, 3) := by decide +kernel
theorem dL_hands_158 : decode cL_hands 158 = .ok (.iload 9, 2) := by decide +kernel
theorem dL_hands_160 : decode cL_hands 160 = .ok (.ifCond .le 8, 3) := by decide +kernel
theorem dL_hands_163 : decode cL_hands 163 = .ok (.iload 9, 2) := by decide +kernel
theorem dL_hands_165 : decode cL_hands 165 = .ok (.goto 8, 3) := by decide +kernel
theorem dL_hands_168 : decode cL_hands 168 = .ok (.bipush 10, 2) := by decide +kernel
theorem dL_hands_170 : decode cL_hands 170 = .ok (.iload 8, 2) := by decide +kernel
theorem dL_hands_172 : decode cL_hands 172 = .ok (.iadd, 1) := by decide +kernel
theorem dL_hands_173 : decode cL_hands 173 = .ok (.if_icmp .ne 55, 3) := by decide +kernel
theorem dL_hands_176 : decode cL_hands 176 = .ok (.aload_n 0, 1) := by decide +kernel
theorem dL_hands_177 : decode cL_hands 177 = .ok (.bipush 14, 2) := by decide +kernel
theorem dL_hands_179 : decode cL_hands 179 = .ok (.invokevirtual 13, 3) := by decide +kernel
theorem dL_hands_182 : decode cL_hands 182 = .ok (.iload 6, 2) := by decide +kernel
theorem dL_hands_184 : decode cL_hands 184 = .ok (.iload 9, 2) := by decide +kernel
theorem dL_hands_186 : decode cL_hands 186 = .ok (.ifCond .le 7, 3) := by decide +kernel
theorem dL_hands_189 : decode cL_hands 189 = .ok (.iconst 1, 1) := by decide +kernel
theorem dL_hands_190 : decode cL_hands 190 = .ok (.goto 4, 3) := by decide +kernel
theorem dL_hands_193 : decode cL_hands 193 = .ok (.iconst 0, 1) := by decide +kernel
theorem dL_hands_194 : decode cL_hands 194 = .ok (.iadd, 1) := by decide +kernel
theorem dL_hands_195 : decode cL_hands 195 = .ok (.if_icmp .ne 33, 3) := by decide +kernel
theorem dL_hands_198 : decode cL_hands 198 = .ok (.iload 4, 2) := by decide +kernel
theorem dL_hands_200 : decode cL_hands 200 = .ok (.ifCond .ne 24, 3) := by decide +kernel
theorem dL_hands_203 : decode cL_hands 203 = .ok (.aload_n 0, 1) := by decide +kernel
theorem dL_hands_204 : decode cL_hands 204 = .ok (.iload_n 3, 1) := by decide +kernel
theorem dL_hands_205 : decode cL_hands 205 = .ok (.iconst 0, 1) := by decide +kernel
theorem dL_hands_206 : decode cL_hands 206 = .ok (.invokevirtual 19, 3) := by decide +kernel
theorem dL_hands_209 : decode cL_hands 209 = .ok (.iload 9, 2) := by decide +kernel
theorem dL_hands_211 : decode cL_hands 211 = .ok (.ifCond .le 8, 3) := by decide +kernel
theorem dL_hands_214 : decode cL_hands 214 = .ok (.iload 5, 2) := by decide +kernel
theorem dL_hands_216 : decode cL_hands 216 = .ok (.goto 5, 3) := by decide +kernel
theorem dL_hands_219 : decode cL_hands 219 = .ok (.iload 8, 2) := by decide +kernel
theorem dL_hands_221 : decode cL_hands 221 = .ok (.if_icmp .ne 7, 3) := by decide +kernel
theorem dL_hands_224 : decode cL_hands 224 = .ok (.iconst 1, 1) := by decide +kernel
theorem dL_hands_225 : decode cL_hands 225 = .ok (.goto 4, 3) := by decide +kernel
theorem dL_hands_228 : decode cL_hands 228 = .ok (.iconst 0, 1) := by decide +kernel
theorem dL_hands_229 : decode cL_hands 229 = .ok (.ireturn, 1) := by decide +kernel
theorem dL_hands_230 : decode cL_hands 230 = .ok (.iload_n 1, 1) := by decide +kernel
theorem dL_hands_231 : decode cL_hands 231 = .ok (.iconst 1, 1) := by decide +kernel
theorem dL_hands_232 : decode cL_hands 232 = .ok (.if_icmp .ne 88, 3) := by decide +kernel
theorem dL_hands_235 : decode cL_hands 235 = .ok (.aload_n 0, 1) := by decide +kernel
theorem dL_hands_236 : decode cL_hands 236 = .ok (.iload_n 3, 1) := by decide +kernel
theorem dL_hands_237 : decode cL_hands 237 = .ok (.invokevirtual 92, 3) := by decide +kernel
theorem dL_hands_240 : decode cL_hands 240 = .ok (.istore 7, 2) := by decide +kernel
theorem dL_hands_242 : decode cL_hands 242 = .ok (.iload 4, 2) := by decide +kernel
theorem dL_hands_244 : decode cL_hands 244 = .ok (.ifCond .eq 17, 3) := by decide +kernel
theorem dL_hands_247 : decode cL_hands 247 = .ok (.iload 7, 2) := by decide +kernel
theorem dL_hands_249 : decode cL_hands 249 = .ok (.iconst (-1), 1) := by decide +kernel
theorem dL_hands_250 : decode cL_hands 250 = .ok (.if_icmp .ne 7, 3) := by decide +kernel
theorem dL_hands_253 : decode cL_hands 253 = .ok (.iconst 1, 1) := by decide +kernel
theorem dL_hands_254 : decode cL_hands 254 = .ok (.goto 65, 3) := by decide +kernel
theorem dL_hands_257 : decode cL_hands 257 = .ok (.iconst 0, 1) := by decide +kernel
theorem dL_hands_258 : decode cL_hands 258 = .ok (.goto 61, 3) := by decide +kernel
theorem dL_hands_261 : decode cL_hands 261 = .ok (.iload 7, 2) := by decide +kernel
theorem dL_hands_263 : decode cL_hands 263 = .ok (.bipush 35, 2) := by decide +kernel
theorem dL_hands_265 : decode cL_hands 265 = .ok (.aload_n 0, 1) := by decide +kernel
theorem dL_hands_266 : decode cL_hands 266 = .ok (.iconst 4, 1) := by decide +kernel
theorem dL_hands_267 : decode cL_hands 267 = .ok (.invokevirtual 13, 3) := by decide +kernel
theorem dL_hands_270 : decode cL_hands 270 = .ok (.isub, 1) := by decide +kernel
theorem dL_hands_271 : decode cL_hands 271 = .ok (.if_icmp .ne 47, 3) := by decide +kernel
theorem dL_hands_274 : decode cL_hands 274 = .ok (.iload 5, 2) := by decide +kernel
theorem dL_hands_276 : decode cL_hands 276 = .ok (.bipush (-4), 2) := by decide +kernel
theorem dL_hands_278 : decode cL_hands 278 = .ok (.if_icmp .ne 25, 3) := by decide +kernel
theorem dL_hands_281 : decode cL_hands 281 = .ok (.aload_n 0, 1) := by decide +kernel
theorem dL_hands_282 : decode cL_hands 282 = .ok (.iload_n 3, 1) := by decide +kernel
theorem dL_hands_283 : decode cL_hands 283 = .ok (.iconst 0, 1) := by decide +kernel
theorem dL_hands_284 : decode cL_hands 284 = .ok (.invokevirtual 19, 3) := by decide +kernel
theorem dL_hands_287 : decode cL_hands 287 = .ok (.iconst 3, 1) := by decide +kernel
theorem dL_hands_288 : decode cL_hands 288 = .ok (.if_icmp .ne 30, 3) := by decide +kernel
theorem dL_hands_291 : decode cL_hands 291 = .ok (.aload_n 0, 1) := by decide +kernel
theorem dL_hands_292 : decode cL_hands 292 = .ok (.iload_n 3, 1) := by decide +kernel
theorem dL_hands_293 : decode cL_hands 293 = .ok (.iconst 2, 1) := by decide +kernel
theorem dL_hands_294 : decode cL_hands 294 = .ok (.invokevirtual 19, 3) := by decide +kernel
theorem dL_hands_297 : decode cL_hands 297 = .ok (.ifCond .ne 21, 3) := by decide +kernel
theorem dL_hands_300 : decode cL_hands 300 = .ok (.goto 14, 3) := by decide +kernel
theorem dL_hands_303 : decode cL_hands 303 = .ok (.aload_n 0, 1) := by decide +kernel
theorem dL_hands_304 : decode cL_hands 304 = .ok (.iload_n 3, 1) := by decide +kernel
theorem dL_hands_305 : decode cL_hands 305 = .ok (.iconst 0, 1) := by decide +kernel
theorem dL_hands_306 : decode cL_hands 306 = .ok (.invokevirtual 19, 3) := by decide +kernel
theorem dL_hands_309 : decode cL_hands 309 = .ok (.bipush (-4), 2) := by decide +kernel
theorem dL_hands_311 : decode cL_hands 311 = .ok (.if_icmp .ne 7, 3) := by decide +kernel
theorem dL_hands_314 : decode cL_hands 314 = .ok (.iconst 1, 1) := by decide +kernel
theorem dL_hands_315 : decode cL_hands 315 = .ok (.goto 4, 3) := by decide +kernel
theorem dL_hands_318 : decode cL_hands 318 = .ok (.iconst 0, 1) := by decide +kernel
theorem dL_hands_319 : decode cL_hands 319 = .ok (.ireturn, 1) := by decide +kernel
theorem dL_hands_320 : decode cL_hands 320 = .ok (.iload 4, 2) := by decide +kernel
theorem dL_hands_322 : decode cL_hands 322 = .ok (.ifCond .eq 7, 3) := by decide +kernel
theorem dL_hands_325 : decode cL_hands 325 = .ok (.iconst 0, 1) := by decide +kernel
theorem dL_hands_326 : decode cL_hands 326 = .ok (.goto 9, 3) := by decide +kernel
theorem dL_hands_329 : decode cL_hands 329 = .ok (.aload_n 0, 1) := by decide +kernel
theorem dL_hands_330 : decode cL_hands 330 = .ok (.iload_n 3, 1) := by decide +kernel
theorem dL_hands_331 : decode cL_hands 331 = .ok (.iconst 1, 1) := by decide +kernel
theorem dL_hands_332 : decode cL_hands 332 = .ok (.invokevirtual 19, 3) := by decide +kernel
theorem dL_hands_335 : decode cL_hands 335 = .ok (.istore 7, 2) := by decide +kernel
theorem dL_hands_337 : decode cL_hands 337 = .ok (.aload_n 0, 1) := by decide +kernel
theorem dL_hands_338 : decode cL_hands 338 = .ok (.iload_n 3, 1) := by decide +kernel
theorem dL_hands_339 : decode cL_hands 339 = .ok (.invokevirtual 95, 3) := by decide +kernel
theorem dL_hands_342 : decode cL_hands 342 = .ok (.istore 8, 2) := by decide +kernel
theorem dL_hands_344 : decode cL_hands 344 = .ok (.iload 4, 2) := by decide +kernel
theorem dL_hands_346 : decode cL_hands 346 = .ok (.ifCond .eq 17, 3) := by decide +kernel
theorem dL_hands_349 : decode cL_hands 349 = .ok (.iload 8, 2) := by decide +kernel
theorem dL_hands_351 : decode cL_hands 351 = .ok (.iconst (-1), 1) := by decide +kernel
theorem dL_hands_352 : decode cL_hands 352 = .ok (.if_icmp .ne 7, 3) := by decide +kernel
theorem dL_hands_355 : decode cL_hands 355 = .ok (.iconst 1, 1) := by decide +kernel
theorem dL_hands_356 : decode cL_hands 356 = .ok (.goto 36, 3) := by decide +kernel
theorem dL_hands_359 : decode cL_hands 359 = .ok (.iconst 0, 1) := by decide +kernel
theorem dL_hands_360 : decode cL_hands 360 = .ok (.goto 32, 3) := by decide +kernel
theorem dL_hands_363 : decode cL_hands 363 = .ok (.iload 8, 2) := by decide +kernel
theorem dL_hands_365 : decode cL_hands 365 = .ok (.aload_n 0, 1) := by decide +kernel
theorem dL_hands_366 : decode cL_hands 366 = .ok (.bipush 7, 2) := by decide +kernel
theorem dL_hands_368 : decode cL_hands 368 = .ok (.invokevirtual 13, 3) := by decide +kernel
theorem dL_hands_371 : decode cL_hands 371 = .ok (.if_icmp .ne 20, 3) := by decide +kernel
theorem dL_hands_374 : decode cL_hands 374 = .ok (.aload_n 0, 1) := by decide +kernel
theorem dL_hands_375 : decode cL_hands 375 = .ok (.iload_n 3, 1) := by decide +kernel
theorem dL_hands_376 : decode cL_hands 376 = .ok (.iconst 1, 1) := by decide +kernel
theorem dL_hands_377 : decode cL_hands 377 = .ok (.invokevirtual 19, 3) := by decide +kernel
theorem dL_hands_380 : decode cL_hands 380 = .ok (.iconst 1, 1) := by decide +kernel
theorem dL_hands_381 : decode cL_hands 381 = .ok (.iload 7, 2) := by decide +kernel
theorem dL_hands_383 : decode cL_hands 383 = .ok (.isub, 1) := by decide +kernel
theorem dL_hands_384 : decode cL_hands 384 = .ok (.if_icmp .ne 7, 3) := by decide +kernel
theorem dL_hands_387 : decode cL_hands 387 = .ok (.iconst 1, 1) := by decide +kernel
theorem dL_hands_388 : decode cL_hands 388 = .ok (.goto 4, 3) := by decide +kernel
theorem dL_hands_391 : decode cL_hands 391 = .ok (.iconst 0, 1) := by decide +kernel
theorem dL_hands_392 : decode cL_hands 392 = .ok (.ireturn, 1) := by decide +kernel
