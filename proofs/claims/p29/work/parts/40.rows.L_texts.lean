set_option maxRecDepth 20000 in
theorem ggL_texts_L_low : GoodIn wsL_texts wsL_low := goodIn_r _ [4, 5] rfl (by decide +kernel)
set_option maxRecDepth 20000 in
theorem gL_texts_L_low : GoodIn wsL_texts (va_wsS RL 48 yL_low wsL_low) := goodIn_app (goodIn_of _ (by decide +kernel)) ggL_texts_L_low
set_option maxRecDepth 20000 in
theorem ggL_texts_X6_clear : GoodIn wsL_texts wsX6_clear := goodIn_r _ [10, 11, 12, 13, 14, 15, 16, 17, 18, 333, 334, 335, 336, 337, 338, 339, 340, 341, 342, 343, 344] rfl (by decide +kernel)
set_option maxRecDepth 20000 in
theorem gL_texts_X6_clear : GoodIn wsL_texts (wsV RL 62 RX6 yX6_clear wsX6_clear) := goodIn_app (goodIn_of _ (by decide +kernel)) ggL_texts_X6_clear
set_option maxRecDepth 20000 in
theorem ggL_texts_X6_append : GoodIn wsL_texts wsX6_append := goodIn_r _ [22, 11, 12, 23, 24, 9, 25, 26, 27, 28, 16, 29, 30, 18, 31, 32, 33, 34, 35, 36, 333, 334, 335, 336, 337, 338, 339, 340, 341, 342, 343, 344, 345] rfl (by decide +kernel)
set_option maxRecDepth 20000 in
theorem gL_texts_X6_append : GoodIn wsL_texts (wsV RL 66 RX6 yX6_append wsX6_append) := goodIn_app (goodIn_of _ (by decide +kernel)) ggL_texts_X6_append
set_option maxRecDepth 20000 in
theorem ggL_texts_L_look : GoodIn wsL_texts wsL_look := goodIn_r _ [39, 40, 41, 42, 43, 44, 9, 45, 46, 47, 48, 49, 50, 51, 52, 53, 54, 55, 34, 56, 36, 57, 58, 59, 60, 61, 62, 63, 64, 65, 66, 67, 68, 69, 70, 71, 72, 73, 74, 75, 76, 77, 78, 79, 80, 81, 82, 83, 84, 85, 86, 87, 88, 89, 90, 91, 92, 93, 94, 95, 96, 97, 98, 99, 100, 101, 102, 103, 104, 105, 106, 107, 108, 109, 110, 111, 112, 113, 114, 115, 116, 117, 118, 119, 120, 121, 122, 123, 124, 125, 126, 127, 128, 129, 130, 131, 132, 133, 134, 135, 136, 137, 138, 139, 140, 141, 142, 143, 144, 145, 146, 147, 148, 149, 150, 151, 152, 153, 154, 155, 156, 157, 158, 159, 160, 11, 12, 161, 162, 163, 164, 165, 166, 167, 168, 169, 170, 23, 24, 25, 171, 172, 173, 174, 175, 176, 177, 178, 179, 180, 181, 182, 183, 184, 185, 186, 187, 188, 189, 190, 191, 333, 334, 335, 336, 337, 338, 339, 340, 341, 342, 346, 347, 348, 349, 350, 351, 352, 353, 354, 355, 356, 345, 357, 358, 359, 360, 361, 362, 363, 364, 343, 344, 365, 366] rfl (by decide +kernel)
set_option maxRecDepth 20000 in
theorem gL_texts_L_look : GoodIn wsL_texts (va_wsS RL 75 yL_look wsL_look) := goodIn_app (goodIn_of _ (by decide +kernel)) ggL_texts_L_look
set_option maxRecDepth 20000 in
theorem ggL_texts_X6_count : GoodIn wsL_texts wsX6_count := goodIn_r _ [45, 46, 47, 48, 49, 50, 51, 52, 53, 54, 55, 34, 56, 36, 57, 58, 59, 60, 61, 62, 63, 64, 65, 66, 67, 68, 69, 70, 71, 72, 73, 74, 75, 76, 77, 78, 79, 80, 81, 82, 83, 84, 85, 86, 87, 88, 89, 90, 91, 92, 93, 94, 95, 96, 97, 98, 99, 100, 101, 102, 103, 104, 105, 106, 107, 108, 109, 110, 111, 112, 113, 114, 115, 116, 117, 118, 119, 9, 120, 121, 122, 123, 124, 125, 126, 127, 128, 129, 130, 131, 132, 133, 134, 135, 136, 137, 138, 139, 140, 141, 142, 143, 144, 145, 146, 147, 148, 149, 150, 151, 152, 153, 154, 155, 156, 157, 158, 159, 160, 11, 12, 161, 162, 333, 334, 335, 336, 337, 338, 339, 340, 341, 342, 346, 347, 348, 349, 350, 351, 352, 353, 354, 355, 356, 345, 357, 358, 359, 360, 361, 362, 363, 364, 343, 344, 365, 366] rfl (by decide +kernel)
set_option maxRecDepth 20000 in
theorem gL_texts_X6_count : GoodIn wsL_texts (wsV RL 13 RX6 yX6_count wsX6_count) := goodIn_app (goodIn_of _ (by decide +kernel)) ggL_texts_X6_count
set_option maxRecDepth 20000 in
theorem ggL_texts_X6_fault : GoodIn wsL_texts wsX6_fault := goodIn_r _ [195, 11, 196, 197, 198, 16, 199, 18, 200, 201, 202, 203, 30, 204, 78, 79, 34, 80, 36, 205, 206, 207, 208, 209, 210, 211, 212, 213, 214, 215, 216, 217, 24, 9, 25, 333, 334, 335, 336, 337, 338, 339, 340, 341, 342, 343, 344, 345] rfl (by decide +kernel)
set_option maxRecDepth 20000 in
theorem gL_texts_X6_fault : GoodIn wsL_texts (wsV RL 69 RX6 yX6_fault wsX6_fault) := goodIn_app (goodIn_of _ (by decide +kernel)) ggL_texts_X6_fault
set_option maxRecDepth 20000 in
theorem ggL_texts_X6_shots : GoodIn wsL_texts wsX6_shots := goodIn_r _ [221, 11, 161, 46, 47, 208, 209, 210, 16, 211, 18, 200, 201, 202, 203, 30, 204, 78, 79, 34, 80, 36, 212, 213, 214, 215, 216, 217, 24, 9, 25, 222, 223, 224, 225, 226, 227, 228, 229, 230, 231, 232, 233, 234, 235, 236, 237, 238, 239, 97, 240, 241, 242, 103, 243, 104, 244, 245, 246, 247, 248, 249, 250, 251, 252, 60, 253, 72, 66, 93, 254, 255, 134, 256, 257, 258, 259, 260, 261, 262, 138, 87, 139, 263, 264, 265, 266, 267, 268, 269, 270, 271, 272, 12, 273, 274, 275, 276, 277, 278, 54, 55, 56, 279, 280, 281, 282, 283, 284, 285, 286, 287, 288, 289, 290, 291, 292, 293, 294, 295, 296, 124, 125, 297, 298, 299, 300, 73, 74, 75, 76, 77, 130, 131, 132, 133, 301, 302, 303, 304, 305, 306, 307, 308, 309, 32, 33, 35, 310, 311, 312, 313, 314, 315, 316, 317, 135, 136, 137, 140, 141, 142, 318, 319, 320, 321, 322, 99, 100, 101, 102, 105, 323, 324, 325, 326, 327, 328, 13, 14, 15, 17, 333, 334, 335, 336, 337, 338, 339, 340, 341, 342, 346, 347, 348, 349, 350, 351, 352, 353, 354, 355, 356, 343, 344, 345, 365, 366, 357, 358, 359, 360, 361, 362, 363, 364] rfl (by decide +kernel)
set_option maxRecDepth 20000 in
theorem gL_texts_X6_shots : GoodIn wsL_texts (wsV RL 79 RX6 yX6_shots wsX6_shots) := goodIn_app (goodIn_of _ (by decide +kernel)) ggL_texts_X6_shots
set_option maxRecDepth 20000 in
theorem ggL_texts_X6_why : GoodIn wsL_texts wsX6_why := goodIn_r _ [332, 272, 327, 328, 23, 24, 9, 25, 333, 334, 335, 336, 337, 338, 339, 340, 341, 342] rfl (by decide +kernel)
set_option maxRecDepth 20000 in
theorem gL_texts_X6_why : GoodIn wsL_texts (wsV RL 82 RX6 yX6_why wsX6_why) := goodIn_app (goodIn_of _ (by decide +kernel)) ggL_texts_X6_why
theorem dL_texts_0 : decode cL_texts 0 = .ok (.iload_n 1, 1) := by decide +kernel
theorem dL_texts_1 : decode cL_texts 1 = .ok (.bipush 19, 2) := by decide +kernel
theorem dL_texts_3 : decode cL_texts 3 = .ok (.invokestatic 48, 3) := by decide +kernel
theorem dL_texts_6 : decode cL_texts 6 = .ok (.istore_n 2, 1) := by decide +kernel
theorem dL_texts_7 : decode cL_texts 7 = .ok (.aload_n 0, 1) := by decide +kernel
theorem dL_texts_8 : decode cL_texts 8 = .ok (.invokevirtual 62, 3) := by decide +kernel
theorem dL_texts_11 : decode cL_texts 11 = .ok (.ifCond .lt 7, 3) := by decide +kernel
theorem dL_texts_14 : decode cL_texts 14 = .ok (.iconst 1, 1) := by decide +kernel
theorem dL_texts_15 : decode cL_texts 15 = .ok (.goto 4, 3) := by decide +kernel
theorem dL_texts_18 : decode cL_texts 18 = .ok (.iconst 0, 1) := by decide +kernel
theorem dL_texts_19 : decode cL_texts 19 = .ok (.istore_n 3, 1) := by decide +kernel
theorem dL_texts_20 : decode cL_texts 20 = .ok (.iconst 0, 1) := by decide +kernel
theorem dL_texts_21 : decode cL_texts 21 = .ok (.istore 4, 2) := by decide +kernel
theorem dL_texts_23 : decode cL_texts 23 = .ok (.iload 4, 2) := by decide +kernel
theorem dL_texts_25 : decode cL_texts 25 = .ok (.iload_n 2, 1) := by decide +kernel
theorem dL_texts_26 : decode cL_texts 26 = .ok (.if_icmp .ge 131, 3) := by decide +kernel
theorem dL_texts_29 : decode cL_texts 29 = .ok (.iload_n 1, 1) := by decide +kernel
theorem dL_texts_30 : decode cL_texts 30 = .ok (.iconst 1, 1) := by decide +kernel
theorem dL_texts_31 : decode cL_texts 31 = .ok (.iload 4, 2) := by decide +kernel
theorem dL_texts_33 : decode cL_texts 33 = .ok (.iadd, 1) := by decide +kernel
theorem dL_texts_34 : decode cL_texts 34 = .ok (.ishr, 1) := by decide +kernel
theorem dL_texts_35 : decode cL_texts 35 = .ok (.istore 5, 2) := by decide +kernel
theorem dL_texts_37 : decode cL_texts 37 = .ok (.iload 5, 2) := by decide +kernel
theorem dL_texts_39 : decode cL_texts 39 = .ok (.bipush 9, 2) := by decide +kernel
theorem dL_texts_41 : decode cL_texts 41 = .ok (.invokestatic 48, 3) := by decide +kernel
theorem dL_texts_44 : decode cL_texts 44 = .ok (.ifCond .ne 7, 3) := by decide +kernel
theorem dL_texts_47 : decode cL_texts 47 = .ok (.iconst 1, 1) := by decide +kernel
theorem dL_texts_48 : decode cL_texts 48 = .ok (.goto 4, 3) := by decide +kernel
theorem dL_texts_51 : decode cL_texts 51 = .ok (.iconst 0, 1) := by decide +kernel
theorem dL_texts_52 : decode cL_texts 52 = .ok (.istore 6, 2) := by decide +kernel
theorem dL_texts_54 : decode cL_texts 54 = .ok (.iload_n 3, 1) := by decide +kernel
theorem dL_texts_55 : decode cL_texts 55 = .ok (.ifCond .eq 94, 3) := by decide +kernel
theorem dL_texts_58 : decode cL_texts 58 = .ok (.iload 4, 2) := by decide +kernel
theorem dL_texts_60 : decode cL_texts 60 = .ok (.ifCond .eq 12, 3) := by decide +kernel
theorem dL_texts_63 : decode cL_texts 63 = .ok (.aload_n 0, 1) := by decide +kernel
theorem dL_texts_64 : decode cL_texts 64 = .ok (.bipush 44, 2) := by decide +kernel
theorem dL_texts_66 : decode cL_texts 66 = .ok (.invokevirtual 66, 3) := by decide +kernel
theorem dL_texts_69 : decode cL_texts 69 = .ok (.ifCond .le 80, 3) := by decide +kernel
theorem dL_texts_72 : decode cL_texts 72 = .ok (.iload 6, 2) := by decide +kernel
theorem dL_texts_74 : decode cL_texts 74 = .ok (.ifCond .eq 15, 3) := by decide +kernel
theorem dL_texts_77 : decode cL_texts 77 = .ok (.aload_n 0, 1) := by decide +kernel
theorem dL_texts_78 : decode cL_texts 78 = .ok (.bipush 101, 2) := by decide +kernel
theorem dL_texts_80 : decode cL_texts 80 = .ok (.invokevirtual 66, 3) := by decide +kernel
theorem dL_texts_83 : decode cL_texts 83 = .ok (.ifCond .le 66, 3) := by decide +kernel
theorem dL_texts_86 : decode cL_texts 86 = .ok (.goto 59, 3) := by decide +kernel
theorem dL_texts_89 : decode cL_texts 89 = .ok (.aload_n 0, 1) := by decide +kernel
theorem dL_texts_90 : decode cL_texts 90 = .ok (.bipush 48, 2) := by decide +kernel
theorem dL_texts_92 : decode cL_texts 92 = .ok (.iload 5, 2) := by decide +kernel
theorem dL_texts_94 : decode cL_texts 94 = .ok (.iconst 2, 1) := by decide +kernel
theorem dL_texts_95 : decode cL_texts 95 = .ok (.ishr, 1) := by decide +kernel
theorem dL_texts_96 : decode cL_texts 96 = .ok (.iload_n 1, 1) := by decide +kernel
theorem dL_texts_97 : decode cL_texts 97 = .ok (.bipush 23, 2) := by decide +kernel
theorem dL_texts_99 : decode cL_texts 99 = .ok (.ishr, 1) := by decide +kernel
theorem dL_texts_100 : decode cL_texts 100 = .ok (.bipush 9, 2) := by decide +kernel
theorem dL_texts_102 : decode cL_texts 102 = .ok (.invokestatic 48, 3) := by decide +kernel
theorem dL_texts_105 : decode cL_texts 105 = .ok (.ifCond .ne 8, 3) := by decide +kernel
theorem dL_texts_108 : decode cL_texts 108 = .ok (.bipush 8, 2) := by decide +kernel
theorem dL_texts_110 : decode cL_texts 110 = .ok (.goto 5, 3) := by decide +kernel
theorem dL_texts_113 : decode cL_texts 113 = .ok (.bipush 7, 2) := by decide +kernel
theorem dL_texts_115 : decode cL_texts 115 = .ok (.invokestatic 48, 3) := by decide +kernel
theorem dL_texts_118 : decode cL_texts 118 = .ok (.iadd, 1) := by decide +kernel
theorem dL_texts_119 : decode cL_texts 119 = .ok (.invokevirtual 66, 3) := by decide +kernel
theorem dL_texts_122 : decode cL_texts 122 = .ok (.ifCond .le 27, 3) := by decide +kernel
theorem dL_texts_125 : decode cL_texts 125 = .ok (.iload 5, 2) := by decide +kernel
theorem dL_texts_127 : decode cL_texts 127 = .ok (.iconst 3, 1) := by decide +kernel
theorem dL_texts_128 : decode cL_texts 128 = .ok (.ishr, 1) := by decide +kernel
theorem dL_texts_129 : decode cL_texts 129 = .ok (.iconst 2, 1) := by decide +kernel
theorem dL_texts_130 : decode cL_texts 130 = .ok (.invokestatic 48, 3) := by decide +kernel
theorem dL_texts_133 : decode cL_texts 133 = .ok (.ifCond .eq 12, 3) := by decide +kernel
theorem dL_texts_136 : decode cL_texts 136 = .ok (.aload_n 0, 1) := by decide +kernel
theorem dL_texts_137 : decode cL_texts 137 = .ok (.bipush 33, 2) := by decide +kernel
theorem dL_texts_139 : decode cL_texts 139 = .ok (.invokevirtual 66, 3) := by decide +kernel
theorem dL_texts_142 : decode cL_texts 142 = .ok (.ifCond .le 7, 3) := by decide +kernel
theorem dL_texts_145 : decode cL_texts 145 = .ok (.iconst 1, 1) := by decide +kernel
theorem dL_texts_146 : decode cL_texts 146 = .ok (.goto 4, 3) := by decide +kernel
theorem dL_texts_149 : decode cL_texts 149 = .ok (.iconst 0, 1) := by decide +kernel
theorem dL_texts_150 : decode cL_texts 150 = .ok (.istore_n 3, 1) := by decide +kernel
theorem dL_texts_151 : decode cL_texts 151 = .ok (.iinc 4 1, 3) := by decide +kernel
theorem dL_texts_154 : decode cL_texts 154 = .ok (.goto (-131), 3) := by decide +kernel
theorem dL_texts_157 : decode cL_texts 157 = .ok (.iload_n 3, 1) := by decide +kernel
theorem dL_texts_158 : decode cL_texts 158 = .ok (.ifCond .eq 28, 3) := by decide +kernel
theorem dL_texts_161 : decode cL_texts 161 = .ok (.iload_n 1, 1) := by decide +kernel
theorem dL_texts_162 : decode cL_texts 162 = .ok (.bipush 26, 2) := by decide +kernel
theorem dL_texts_164 : decode cL_texts 164 = .ok (.ishr, 1) := by decide +kernel
theorem dL_texts_165 : decode cL_texts 165 = .ok (.bipush 7, 2) := by decide +kernel
theorem dL_texts_167 : decode cL_texts 167 = .ok (.invokestatic 48, 3) := by decide +kernel
theorem dL_texts_170 : decode cL_texts 170 = .ok (.ifCond .gt 12, 3) := by decide +kernel
theorem dL_texts_173 : decode cL_texts 173 = .ok (.aload_n 0, 1) := by decide +kernel
theorem dL_texts_174 : decode cL_texts 174 = .ok (.bipush 44, 2) := by decide +kernel
theorem dL_texts_176 : decode cL_texts 176 = .ok (.invokevirtual 66, 3) := by decide +kernel
theorem dL_texts_179 : decode cL_texts 179 = .ok (.ifCond .le 7, 3) := by decide +kernel
theorem dL_texts_182 : decode cL_texts 182 = .ok (.iconst 1, 1) := by decide +kernel
theorem dL_texts_183 : decode cL_texts 183 = .ok (.goto 4, 3) := by decide +kernel
theorem dL_texts_186 : decode cL_texts 186 = .ok (.iconst 0, 1) := by decide +kernel
theorem dL_texts_187 : decode cL_texts 187 = .ok (.istore_n 3, 1) := by decide +kernel
theorem dL_texts_188 : decode cL_texts 188 = .ok (.aload_n 0, 1) := by decide +kernel
theorem dL_texts_189 : decode cL_texts 189 = .ok (.invokestatic 75, 3) := by decide +kernel
theorem dL_texts_192 : decode cL_texts 192 = .ok (.lstore 4, 2) := by decide +kernel
theorem dL_texts_194 : decode cL_texts 194 = .ok (.aload_n 0, 1) := by decide +kernel
theorem dL_texts_195 : decode cL_texts 195 = .ok (.bipush 18, 2) := by decide +kernel
theorem dL_texts_197 : decode cL_texts 197 = .ok (.invokevirtual 13, 3) := by decide +kernel
theorem dL_texts_200 : decode cL_texts 200 = .ok (.istore 6, 2) := by decide +kernel
theorem dL_texts_202 : decode cL_texts 202 = .ok (.aload_n 0, 1) := by decide +kernel
theorem dL_texts_203 : decode cL_texts 203 = .ok (.bipush 14, 2) := by decide +kernel
theorem dL_texts_205 : decode cL_texts 205 = .ok (.invokevirtual 13, 3) := by decide +kernel
theorem dL_texts_208 : decode cL_texts 208 = .ok (.istore 7, 2) := by decide +kernel
theorem dL_texts_210 : decode cL_texts 210 = .ok (.aload_n 0, 1) := by decide +kernel
theorem dL_texts_211 : decode cL_texts 211 = .ok (.iconst 0, 1) := by decide +kernel
theorem dL_texts_212 : decode cL_texts 212 = .ok (.invokevirtual 13, 3) := by decide +kernel
theorem dL_texts_215 : decode cL_texts 215 = .ok (.istore 8, 2) := by decide +kernel
theorem dL_texts_217 : decode cL_texts 217 = .ok (.aload_n 0, 1) := by decide +kernel
theorem dL_texts_218 : decode cL_texts 218 = .ok (.bipush 17, 2) := by decide +kernel
theorem dL_texts_220 : decode cL_texts 220 = .ok (.invokevirtual 13, 3) := by decide +kernel
theorem dL_texts_223 : decode cL_texts 223 = .ok (.istore 9, 2) := by decide +kernel
theorem dL_texts_225 : decode cL_texts 225 = .ok (.aload_n 0, 1) := by decide +kernel
theorem dL_texts_226 : decode cL_texts 226 = .ok (.iconst 1, 1) := by decide +kernel
theorem dL_texts_227 : decode cL_texts 227 = .ok (.invokevirtual 69, 3) := by decide +kernel
theorem dL_texts_230 : decode cL_texts 230 = .ok (.istore 10, 2) := by decide +kernel
theorem dL_texts_232 : decode cL_texts 232 = .ok (.aload_n 0, 1) := by decide +kernel
theorem dL_texts_233 : decode cL_texts 233 = .ok (.invokevirtual 79, 3) := by decide +kernel
theorem dL_texts_236 : decode cL_texts 236 = .ok (.istore 11, 2) := by decide +kernel
theorem dL_texts_238 : decode cL_texts 238 = .ok (.aload_n 0, 1) := by decide +kernel
theorem dL_texts_239 : decode cL_texts 239 = .ok (.invokevirtual 62, 3) := by decide +kernel
theorem dL_texts_242 : decode cL_texts 242 = .ok (.istore 12, 2) := by decide +kernel
theorem dL_texts_244 : decode cL_texts 244 = .ok (.iload_n 3, 1) := by decide +kernel
theorem dL_texts_245 : decode cL_texts 245 = .ok (.ifCond .eq 34, 3) := by decide +kernel
theorem dL_texts_248 : decode cL_texts 248 = .ok (.iload 11, 2) := by decide +kernel
theorem dL_texts_250 : decode cL_texts 250 = .ok (.bipush (-2), 2) := by decide +kernel
theorem dL_texts_252 : decode cL_texts 252 = .ok (.if_icmp .ne 7, 3) := by decide +kernel
theorem dL_texts_255 : decode cL_texts 255 = .ok (.iconst 1, 1) := by decide +kernel
theorem dL_texts_256 : decode cL_texts 256 = .ok (.goto 4, 3) := by decide +kernel
theorem dL_texts_259 : decode cL_texts 259 = .ok (.iconst 0, 1) := by decide +kernel
theorem dL_texts_260 : decode cL_texts 260 = .ok (.iload 10, 2) := by decide +kernel
theorem dL_texts_262 : decode cL_texts 262 = .ok (.bipush (-4), 2) := by decide +kernel
theorem dL_texts_264 : decode cL_texts 264 = .ok (.if_icmp .eq 7, 3) := by decide +kernel
theorem dL_texts_267 : decode cL_texts 267 = .ok (.iconst 1, 1) := by decide +kernel
theorem dL_texts_268 : decode cL_texts 268 = .ok (.goto 4, 3) := by decide +kernel
theorem dL_texts_271 : decode cL_texts 271 = .ok (.iconst 0, 1) := by decide +kernel
theorem dL_texts_272 : decode cL_texts 272 = .ok (.if_icmp .ne 7, 3) := by decide +kernel
theorem dL_texts_275 : decode cL_texts 275 = .ok (.iconst 1, 1) := by decide +kernel
theorem dL_texts_276 : decode cL_texts 276 = .ok (.goto 4, 3) := by decide +kernel
theorem dL_texts_279 : decode cL_texts 279 = .ok (.iconst 0, 1) := by decide +kernel
theorem dL_texts_280 : decode cL_texts 280 = .ok (.istore 13, 2) := by decide +kernel
theorem dL_texts_282 : decode cL_texts 282 = .ok (.iload 11, 2) := by decide +kernel
theorem dL_texts_284 : decode cL_texts 284 = .ok (.ifCond .ge 54, 3) := by decide +kernel
theorem dL_texts_287 : decode cL_texts 287 = .ok (.iload 13, 2) := by decide +kernel
theorem dL_texts_289 : decode cL_texts 289 = .ok (.ifCond .eq 47, 3) := by decide +kernel
theorem dL_texts_292 : decode cL_texts 292 = .ok (.iload 10, 2) := by decide +kernel
theorem dL_texts_294 : decode cL_texts 294 = .ok (.ifCond .lt 42, 3) := by decide +kernel
theorem dL_texts_297 : decode cL_texts 297 = .ok (.iload 10, 2) := by decide +kernel
theorem dL_texts_299 : decode cL_texts 299 = .ok (.iload 9, 2) := by decide +kernel
theorem dL_texts_301 : decode cL_texts 301 = .ok (.if_icmp .gt 35, 3) := by decide +kernel
theorem dL_texts_304 : decode cL_texts 304 = .ok (.iload 12, 2) := by decide +kernel
theorem dL_texts_306 : decode cL_texts 306 = .ok (.iload 9, 2) := by decide +kernel
theorem dL_texts_308 : decode cL_texts 308 = .ok (.if_icmp .ne 28, 3) := by decide +kernel
theorem dL_texts_311 : decode cL_texts 311 = .ok (.aload_n 0, 1) := by decide +kernel
theorem dL_texts_312 : decode cL_texts 312 = .ok (.invokestatic 75, 3) := by decide +kernel
theorem dL_texts_315 : decode cL_texts 315 = .ok (.lload 4, 2) := by decide +kernel
theorem dL_texts_317 : decode cL_texts 317 = .ok (.lcmp, 1) := by decide +kernel
theorem dL_texts_318 : decode cL_texts 318 = .ok (.ifCond .ne 18, 3) := by decide +kernel
theorem dL_texts_321 : decode cL_texts 321 = .ok (.aload_n 0, 1) := by decide +kernel
theorem dL_texts_322 : decode cL_texts 322 = .ok (.bipush 18, 2) := by decide +kernel
theorem dL_texts_324 : decode cL_texts 324 = .ok (.invokevirtual 13, 3) := by decide +kernel
theorem dL_texts_327 : decode cL_texts 327 = .ok (.iload 6, 2) := by decide +kernel
theorem dL_texts_329 : decode cL_texts 329 = .ok (.if_icmp .ne 7, 3) := by decide +kernel
theorem dL_texts_332 : decode cL_texts 332 = .ok (.iconst 1, 1) := by decide +kernel
theorem dL_texts_333 : decode cL_texts 333 = .ok (.goto 4, 3) := by decide +kernel
theorem dL_texts_336 : decode cL_texts 336 = .ok (.iconst 0, 1) := by decide +kernel
theorem dL_texts_337 : decode cL_texts 337 = .ok (.ireturn, 1) := by decide +kernel
theorem dL_texts_338 : decode cL_texts 338 = .ok (.aload_n 0, 1) := by decide +kernel
theorem dL_texts_339 : decode cL_texts 339 = .ok (.iconst 0, 1) := by decide +kernel
theorem dL_texts_340 : decode cL_texts 340 = .ok (.invokevirtual 82, 3) := by decide +kernel
theorem dL_texts_343 : decode cL_texts 343 = .ok (.istore 14, 2) := by decide +kernel
theorem dL_texts_345 : decode cL_texts 345 = .ok (.iload 13, 2) := by decide +kernel
theorem dL_texts_347 : decode cL_texts 347 = .ok (.ifCond .eq 158, 3) := by decide +kernel
theorem dL_texts_350 : decode cL_texts 350 = .ok (.iload 12, 2) := by decide +kernel
theorem dL_texts_352 : decode cL_texts 352 = .ok (.ifCond .ne 153, 3) := by decide +kernel
theorem dL_texts_355 : decode cL_texts 355 = .ok (.aload_n 0, 1) := by decide +kernel
theorem dL_texts_356 : decode cL_texts 356 = .ok (.bipush 18, 2) := by decide +kernel
theorem dL_texts_358 : decode cL_texts 358 = .ok (.invokevirtual 13, 3) := by decide +kernel
theorem dL_texts_361 : decode cL_texts 361 = .ok (.iload 6, 2) := by decide +kernel
theorem dL_texts_363 : decode cL_texts 363 = .ok (.iconst 4, 1) := by decide +kernel
theorem dL_texts_364 : decode cL_texts 364 = .ok (.if_icmp .ge 10, 3) := by decide +kernel
theorem dL_texts_367 : decode cL_texts 367 = .ok (.iload 6, 2) := by decide +kernel
theorem dL_texts_369 : decode cL_texts 369 = .ok (.iconst 1, 1) := by decide +kernel
theorem dL_texts_370 : decode cL_texts 370 = .ok (.iadd, 1) := by decide +kernel
theorem dL_texts_371 : decode cL_texts 371 = .ok (.goto 4, 3) := by decide +kernel
theorem dL_texts_374 : decode cL_texts 374 = .ok (.iconst 4, 1) := by decide +kernel
theorem dL_texts_375 : decode cL_texts 375 = .ok (.if_icmp .ne 130, 3) := by decide +kernel
theorem dL_texts_378 : decode cL_texts 378 = .ok (.aload_n 0, 1) := by decide +kernel
theorem dL_texts_379 : decode cL_texts 379 = .ok (.iconst 0, 1) := by decide +kernel
theorem dL_texts_380 : decode cL_texts 380 = .ok (.invokevirtual 13, 3) := by decide +kernel
theorem dL_texts_383 : decode cL_texts 383 = .ok (.iload 8, 2) := by decide +kernel
theorem dL_texts_385 : decode cL_texts 385 = .ok (.iload 11, 2) := by decide +kernel
theorem dL_texts_387 : decode cL_texts 387 = .ok (.iadd, 1) := by decide +kernel
theorem dL_texts_388 : decode cL_texts 388 = .ok (.if_icmp .ne 117, 3) := by decide +kernel
theorem dL_texts_391 : decode cL_texts 391 = .ok (.iload 14, 2) := by decide +kernel
theorem dL_texts_393 : decode cL_texts 393 = .ok (.bipush (-4), 2) := by decide +kernel
theorem dL_texts_395 : decode cL_texts 395 = .ok (.if_icmp .ne 37, 3) := by decide +kernel
theorem dL_texts_398 : decode cL_texts 398 = .ok (.aload_n 0, 1) := by decide +kernel
theorem dL_texts_399 : decode cL_texts 399 = .ok (.bipush 14, 2) := by decide +kernel
theorem dL_texts_401 : decode cL_texts 401 = .ok (.invokevirtual 13, 3) := by decide +kernel
theorem dL_texts_404 : decode cL_texts 404 = .ok (.iload 7, 2) := by decide +kernel
theorem dL_texts_406 : decode cL_texts 406 = .ok (.if_icmp .ne 99, 3) := by decide +kernel
theorem dL_texts_409 : decode cL_texts 409 = .ok (.aload_n 0, 1) := by decide +kernel
theorem dL_texts_410 : decode cL_texts 410 = .ok (.iconst 1, 1) := by decide +kernel
theorem dL_texts_411 : decode cL_texts 411 = .ok (.invokevirtual 82, 3) := by decide +kernel
theorem dL_texts_414 : decode cL_texts 414 = .ok (.bipush (-4), 2) := by decide +kernel
theorem dL_texts_416 : decode cL_texts 416 = .ok (.if_icmp .ne 89, 3) := by decide +kernel
theorem dL_texts_419 : decode cL_texts 419 = .ok (.aload_n 0, 1) := by decide +kernel
theorem dL_texts_420 : decode cL_texts 420 = .ok (.iconst 2, 1) := by decide +kernel
theorem dL_texts_421 : decode cL_texts 421 = .ok (.invokevirtual 82, 3) := by decide +kernel
theorem dL_texts_424 : decode cL_texts 424 = .ok (.bipush (-4), 2) := by decide +kernel
theorem dL_texts_426 : decode cL_texts 426 = .ok (.if_icmp .ne 79, 3) := by decide +kernel
theorem dL_texts_429 : decode cL_texts 429 = .ok (.goto 72, 3) := by decide +kernel
theorem dL_texts_432 : decode cL_texts 432 = .ok (.iload 14, 2) := by decide +kernel
theorem dL_texts_434 : decode cL_texts 434 = .ok (.iconst 1, 1) := by decide +kernel
theorem dL_texts_435 : decode cL_texts 435 = .ok (.if_icmp .ne 70, 3) := by decide +kernel
theorem dL_texts_438 : decode cL_texts 438 = .ok (.aload_n 0, 1) := by decide +kernel
theorem dL_texts_439 : decode cL_texts 439 = .ok (.bipush 14, 2) := by decide +kernel
theorem dL_texts_441 : decode cL_texts 441 = .ok (.invokevirtual 13, 3) := by decide +kernel
theorem dL_texts_444 : decode cL_texts 444 = .ok (.iload 7, 2) := by decide +kernel
theorem dL_texts_446 : decode cL_texts 446 = .ok (.iconst 1, 1) := by decide +kernel
theorem dL_texts_447 : decode cL_texts 447 = .ok (.iadd, 1) := by decide +kernel
theorem dL_texts_448 : decode cL_texts 448 = .ok (.if_icmp .ne 57, 3) := by decide +kernel
theorem dL_texts_451 : decode cL_texts 451 = .ok (.aload_n 0, 1) := by decide +kernel
theorem dL_texts_452 : decode cL_texts 452 = .ok (.iconst 1, 1) := by decide +kernel
theorem dL_texts_453 : decode cL_texts 453 = .ok (.invokevirtual 13, 3) := by decide +kernel
theorem dL_texts_456 : decode cL_texts 456 = .ok (.ifCond .ne 49, 3) := by decide +kernel
theorem dL_texts_459 : decode cL_texts 459 = .ok (.aload_n 0, 1) := by decide +kernel
theorem dL_texts_460 : decode cL_texts 460 = .ok (.iconst 1, 1) := by decide +kernel
theorem dL_texts_461 : decode cL_texts 461 = .ok (.invokevirtual 82, 3) := by decide +kernel
theorem dL_texts_464 : decode cL_texts 464 = .ok (.ifCond .lt 41, 3) := by decide +kernel
theorem dL_texts_467 : decode cL_texts 467 = .ok (.aload_n 0, 1) := by decide +kernel
theorem dL_texts_468 : decode cL_texts 468 = .ok (.iconst 1, 1) := by decide +kernel
theorem dL_texts_469 : decode cL_texts 469 = .ok (.invokevirtual 82, 3) := by decide +kernel
theorem dL_texts_472 : decode cL_texts 472 = .ok (.iload_n 2, 1) := by decide +kernel
theorem dL_texts_473 : decode cL_texts 473 = .ok (.if_icmp .ge 32, 3) := by decide +kernel
theorem dL_texts_476 : decode cL_texts 476 = .ok (.aload_n 0, 1) := by decide +kernel
theorem dL_texts_477 : decode cL_texts 477 = .ok (.iconst 2, 1) := by decide +kernel
theorem dL_texts_478 : decode cL_texts 478 = .ok (.invokevirtual 82, 3) := by decide +kernel
theorem dL_texts_481 : decode cL_texts 481 = .ok (.iconst 2, 1) := by decide +kernel
theorem dL_texts_482 : decode cL_texts 482 = .ok (.aload_n 0, 1) := by decide +kernel
theorem dL_texts_483 : decode cL_texts 483 = .ok (.iconst 1, 1) := by decide +kernel
theorem dL_texts_484 : decode cL_texts 484 = .ok (.invokevirtual 82, 3) := by decide +kernel
theorem dL_texts_487 : decode cL_texts 487 = .ok (.imul, 1) := by decide +kernel
theorem dL_texts_488 : decode cL_texts 488 = .ok (.if_icmp .lt 17, 3) := by decide +kernel
theorem dL_texts_491 : decode cL_texts 491 = .ok (.aload_n 0, 1) := by decide +kernel
theorem dL_texts_492 : decode cL_texts 492 = .ok (.iconst 2, 1) := by decide +kernel
theorem dL_texts_493 : decode cL_texts 493 = .ok (.invokevirtual 82, 3) := by decide +kernel
theorem dL_texts_496 : decode cL_texts 496 = .ok (.iload 9, 2) := by decide +kernel
theorem dL_texts_498 : decode cL_texts 498 = .ok (.if_icmp .ge 7, 3) := by decide +kernel
theorem dL_texts_501 : decode cL_texts 501 = .ok (.iconst 1, 1) := by decide +kernel
theorem dL_texts_502 : decode cL_texts 502 = .ok (.goto 4, 3) := by decide +kernel
theorem dL_texts_505 : decode cL_texts 505 = .ok (.iconst 0, 1) := by decide +kernel
theorem dL_texts_506 : decode cL_texts 506 = .ok (.ireturn, 1) := by decide +kernel
