set_option maxRecDepth 20000 in
theorem ggL_holds_X6_count : GoodIn wsL_holds wsX6_count := goodIn_r _ [5, 6, 7, 8, 9, 10, 11, 12, 13, 14, 15, 16, 17, 18, 19, 20, 21, 22, 23, 24, 25, 26, 27, 28, 29, 30, 31, 32, 33, 34, 35, 36, 37, 38, 39, 40, 41, 42, 43, 44, 45, 46, 47, 48, 49, 50, 51, 52, 53, 54, 55, 56, 57, 58, 59, 60, 61, 62, 63, 64, 65, 66, 67, 68, 69, 70, 71, 72, 73, 74, 75, 76, 77, 78, 79, 80, 81, 4, 82, 83, 84, 85, 86, 87, 88, 89, 90, 91, 92, 93, 94, 95, 96, 97, 98, 99, 100, 101, 102, 103, 104, 105, 106, 107, 108, 109, 110, 111, 112, 113, 114, 115, 116, 117, 118, 119, 120, 121, 122, 123, 124, 125, 126, 232, 233, 234, 235, 236, 237, 238, 239, 240, 241, 242, 243, 244, 245, 246, 247, 248, 249, 250, 251, 252, 253, 254, 255, 256, 257, 258, 259, 260, 261, 262, 263, 264, 265] rfl (by decide +kernel)
set_option maxRecDepth 20000 in
theorem gL_holds_X6_count : GoodIn wsL_holds (wsV RL 13 RX6 yX6_count wsX6_count) := goodIn_app (goodIn_of _ (by decide +kernel)) ggL_holds_X6_count
set_option maxRecDepth 20000 in
theorem ggL_holds_X6_mean : GoodIn wsL_holds wsX6_mean := goodIn_r _ [130, 6, 116, 7, 232, 233, 234, 235, 236, 237, 238, 239, 240, 241, 242, 243, 244, 245, 246, 247, 248, 249, 250, 251, 252] rfl (by decide +kernel)
set_option maxRecDepth 20000 in
theorem gL_holds_X6_mean : GoodIn wsL_holds (wsV RL 28 RX6 yX6_mean wsX6_mean) := goodIn_app (goodIn_of _ (by decide +kernel)) ggL_holds_X6_mean
set_option maxRecDepth 20000 in
theorem ggL_holds_X6_pin : GoodIn wsL_holds wsX6_pin := goodIn_r _ [134, 6, 11, 135, 136, 137, 138, 12, 139, 140, 4, 141, 142, 36, 37, 22, 38, 28, 39, 40, 41, 16, 42, 18, 143, 144, 145, 146, 71, 147, 73, 74, 75, 76, 77, 78, 79, 80, 81, 82, 83, 84, 85, 86, 87, 88, 89, 90, 91, 35, 92, 93, 94, 95, 34, 96, 97, 98, 99, 100, 49, 101, 102, 103, 104, 232, 233, 234, 235, 236, 237, 238, 239, 240, 241, 242, 243, 244, 245, 246, 247, 248, 249, 250, 251, 252, 254, 255, 256, 257, 258, 259, 260, 261, 253] rfl (by decide +kernel)
set_option maxRecDepth 20000 in
theorem gL_holds_X6_pin : GoodIn wsL_holds (wsV RL 19 RX6 yX6_pin wsX6_pin) := goodIn_app (goodIn_of _ (by decide +kernel)) ggL_holds_X6_pin
set_option maxRecDepth 20000 in
theorem ggL_holds_L_sent : GoodIn wsL_holds wsL_sent := goodIn_r _ [151, 131, 132, 133, 4, 134, 6, 11, 135, 136, 137, 138, 12, 139, 140, 141, 142, 36, 37, 22, 38, 28, 39, 40, 41, 16, 42, 18, 143, 144, 145, 146, 71, 147, 73, 74, 75, 76, 77, 78, 79, 80, 81, 82, 83, 84, 85, 86, 87, 88, 89, 90, 91, 35, 92, 93, 94, 95, 34, 96, 97, 98, 99, 100, 49, 101, 102, 103, 104, 1, 2, 3, 5, 7, 8, 9, 10, 13, 14, 15, 17, 19, 20, 21, 23, 24, 25, 26, 27, 29, 30, 31, 32, 33, 43, 44, 45, 46, 47, 48, 50, 51, 52, 53, 54, 55, 56, 57, 58, 59, 60, 61, 62, 63, 64, 65, 66, 67, 68, 69, 70, 72, 105, 106, 107, 108, 109, 110, 111, 112, 113, 114, 115, 116, 117, 118, 119, 120, 121, 122, 123, 124, 125, 126, 232, 233, 234, 235, 236, 237, 238, 239, 240, 241, 242, 243, 244, 245, 246, 247, 248, 249, 250, 251, 252, 254, 255, 256, 257, 258, 259, 260, 261, 253, 262, 263, 264, 265] rfl (by decide +kernel)
set_option maxRecDepth 20000 in
theorem gL_holds_L_sent : GoodIn wsL_holds (va_wsS RL 32 yL_sent wsL_sent) := goodIn_app (goodIn_of _ (by decide +kernel)) ggL_holds_L_sent
set_option maxRecDepth 20000 in
theorem ggL_holds_X6_sign : GoodIn wsL_holds wsX6_sign := goodIn_r _ [155, 6, 11, 139, 140, 4, 141, 156, 157, 158, 22, 159, 55, 34, 35, 36, 37, 38, 28, 39, 40, 41, 16, 42, 18, 232, 233, 234, 235, 236, 237, 238, 239, 240, 241, 242, 243, 244, 245, 246, 247, 248, 249, 250, 251, 252, 254, 255, 256, 257, 258, 259, 260, 261, 253] rfl (by decide +kernel)
set_option maxRecDepth 20000 in
theorem gL_holds_X6_sign : GoodIn wsL_holds (wsV RL 36 RX6 yX6_sign wsX6_sign) := goodIn_app (goodIn_of _ (by decide +kernel)) ggL_holds_X6_sign
set_option maxRecDepth 20000 in
theorem ggL_holds_X6_pocket : GoodIn wsL_holds wsX6_pocket := goodIn_r _ [163, 6, 164, 9, 165, 12, 11, 139, 140, 4, 141, 143, 40, 41, 16, 42, 18, 166, 62, 63, 59, 64, 65, 66, 67, 167, 168, 169, 71, 170, 84, 85, 171, 172, 173, 174, 86, 87, 88, 89, 90, 22, 91, 35, 36, 37, 38, 28, 39, 92, 93, 94, 95, 34, 96, 97, 98, 99, 100, 49, 101, 102, 103, 104, 105, 106, 107, 108, 109, 110, 111, 232, 233, 234, 235, 236, 237, 238, 239, 240, 241, 242, 243, 244, 245, 246, 247, 248, 249, 250, 251, 252, 253, 254, 255, 256, 257, 258, 259, 260, 261] rfl (by decide +kernel)
set_option maxRecDepth 20000 in
theorem gL_holds_X6_pocket : GoodIn wsL_holds (wsV RL 23 RX6 yX6_pocket wsX6_pocket) := goodIn_app (goodIn_of _ (by decide +kernel)) ggL_holds_X6_pocket
set_option maxRecDepth 20000 in
theorem ggL_holds_X6_ways : GoodIn wsL_holds wsX6_ways := goodIn_r _ [178, 12, 6, 11, 139, 140, 4, 141, 179, 180, 181, 71, 182, 183, 184, 185, 186, 187, 16, 188, 18, 189, 190, 191, 192, 86, 87, 88, 89, 90, 22, 91, 35, 36, 37, 38, 28, 39, 40, 41, 42, 84, 85, 92, 93, 94, 95, 34, 96, 97, 98, 99, 100, 49, 101, 102, 103, 104, 193, 194, 195, 196, 197, 81, 82, 83, 198, 199, 200, 201, 202, 203, 204, 205, 206, 207, 208, 209, 210, 211, 212, 213, 214, 215, 216, 217, 218, 219, 232, 233, 234, 235, 236, 237, 238, 239, 240, 241, 242, 243, 244, 245, 246, 247, 248, 249, 250, 251, 252, 266, 267, 253, 254, 255, 256, 257, 258, 259, 260, 261] rfl (by decide +kernel)
set_option maxRecDepth 20000 in
theorem gL_holds_X6_ways : GoodIn wsL_holds (wsV RL 39 RX6 yX6_ways wsX6_ways) := goodIn_app (goodIn_of _ (by decide +kernel)) ggL_holds_X6_ways
set_option maxRecDepth 20000 in
theorem ggL_holds_X6_reach : GoodIn wsL_holds wsX6_reach := goodIn_r _ [223, 12, 6, 11, 68, 69, 70, 71, 72, 73, 74, 75, 76, 77, 78, 79, 80, 81, 4, 82, 83, 84, 85, 86, 87, 88, 89, 90, 22, 91, 35, 36, 37, 38, 28, 39, 40, 41, 16, 42, 18, 92, 93, 94, 95, 34, 96, 97, 98, 99, 100, 49, 101, 102, 103, 104, 224, 225, 226, 227, 228, 168, 169, 170, 171, 172, 173, 174, 232, 233, 234, 235, 236, 237, 238, 239, 240, 241, 242, 243, 244, 245, 246, 247, 248, 249, 250, 251, 252, 254, 255, 256, 257, 258, 259, 260, 261, 253] rfl (by decide +kernel)
set_option maxRecDepth 20000 in
theorem gL_holds_X6_reach : GoodIn wsL_holds (wsV RL 42 RX6 yX6_reach wsX6_reach) := goodIn_app (goodIn_of _ (by decide +kernel)) ggL_holds_X6_reach
set_option maxRecDepth 20000 in
theorem ggL_holds_L_ones : GoodIn wsL_holds wsL_ones := goodIn_r _ [231] rfl (by decide +kernel)
set_option maxRecDepth 20000 in
theorem gL_holds_L_ones : GoodIn wsL_holds (va_wsS RL 45 yL_ones wsL_ones) := goodIn_app (goodIn_of _ (by decide +kernel)) ggL_holds_L_ones
theorem dL_holds_0 : decode cL_holds 0 = .ok (.iconst 0, 1) := by decide +kernel
theorem dL_holds_1 : decode cL_holds 1 = .ok (.istore_n 1, 1) := by decide +kernel
theorem dL_holds_2 : decode cL_holds 2 = .ok (.iconst 0, 1) := by decide +kernel
theorem dL_holds_3 : decode cL_holds 3 = .ok (.istore_n 2, 1) := by decide +kernel
theorem dL_holds_4 : decode cL_holds 4 = .ok (.iconst 0, 1) := by decide +kernel
theorem dL_holds_5 : decode cL_holds 5 = .ok (.istore_n 3, 1) := by decide +kernel
theorem dL_holds_6 : decode cL_holds 6 = .ok (.iconst 0, 1) := by decide +kernel
theorem dL_holds_7 : decode cL_holds 7 = .ok (.istore 4, 2) := by decide +kernel
theorem dL_holds_9 : decode cL_holds 9 = .ok (.bipush 127, 2) := by decide +kernel
theorem dL_holds_11 : decode cL_holds 11 = .ok (.istore 5, 2) := by decide +kernel
theorem dL_holds_13 : decode cL_holds 13 = .ok (.aload_n 0, 1) := by decide +kernel
theorem dL_holds_14 : decode cL_holds 14 = .ok (.iconst 0, 1) := by decide +kernel
theorem dL_holds_15 : decode cL_holds 15 = .ok (.invokevirtual 13, 3) := by decide +kernel
theorem dL_holds_18 : decode cL_holds 18 = .ok (.ifCond .lt 144, 3) := by decide +kernel
theorem dL_holds_21 : decode cL_holds 21 = .ok (.aload_n 0, 1) := by decide +kernel
theorem dL_holds_22 : decode cL_holds 22 = .ok (.iconst 1, 1) := by decide +kernel
theorem dL_holds_23 : decode cL_holds 23 = .ok (.invokevirtual 13, 3) := by decide +kernel
theorem dL_holds_26 : decode cL_holds 26 = .ok (.ifCond .lt 136, 3) := by decide +kernel
theorem dL_holds_29 : decode cL_holds 29 = .ok (.aload_n 0, 1) := by decide +kernel
theorem dL_holds_30 : decode cL_holds 30 = .ok (.iconst 1, 1) := by decide +kernel
theorem dL_holds_31 : decode cL_holds 31 = .ok (.invokevirtual 13, 3) := by decide +kernel
theorem dL_holds_34 : decode cL_holds 34 = .ok (.aload_n 0, 1) := by decide +kernel
theorem dL_holds_35 : decode cL_holds 35 = .ok (.iconst 2, 1) := by decide +kernel
theorem dL_holds_36 : decode cL_holds 36 = .ok (.invokevirtual 13, 3) := by decide +kernel
theorem dL_holds_39 : decode cL_holds 39 = .ok (.iadd, 1) := by decide +kernel
theorem dL_holds_40 : decode cL_holds 40 = .ok (.aload_n 0, 1) := by decide +kernel
theorem dL_holds_41 : decode cL_holds 41 = .ok (.iconst 3, 1) := by decide +kernel
theorem dL_holds_42 : decode cL_holds 42 = .ok (.invokevirtual 13, 3) := by decide +kernel
theorem dL_holds_45 : decode cL_holds 45 = .ok (.iadd, 1) := by decide +kernel
theorem dL_holds_46 : decode cL_holds 46 = .ok (.bipush 20, 2) := by decide +kernel
theorem dL_holds_48 : decode cL_holds 48 = .ok (.if_icmp .ne 114, 3) := by decide +kernel
theorem dL_holds_51 : decode cL_holds 51 = .ok (.aload_n 0, 1) := by decide +kernel
theorem dL_holds_52 : decode cL_holds 52 = .ok (.bipush 10, 2) := by decide +kernel
theorem dL_holds_54 : decode cL_holds 54 = .ok (.invokevirtual 13, 3) := by decide +kernel
theorem dL_holds_57 : decode cL_holds 57 = .ok (.aload_n 0, 1) := by decide +kernel
theorem dL_holds_58 : decode cL_holds 58 = .ok (.bipush 11, 2) := by decide +kernel
theorem dL_holds_60 : decode cL_holds 60 = .ok (.invokevirtual 13, 3) := by decide +kernel
theorem dL_holds_63 : decode cL_holds 63 = .ok (.if_icmp .lt 99, 3) := by decide +kernel
theorem dL_holds_66 : decode cL_holds 66 = .ok (.aload_n 0, 1) := by decide +kernel
theorem dL_holds_67 : decode cL_holds 67 = .ok (.bipush 15, 2) := by decide +kernel
theorem dL_holds_69 : decode cL_holds 69 = .ok (.invokevirtual 13, 3) := by decide +kernel
theorem dL_holds_72 : decode cL_holds 72 = .ok (.ifCond .lt 90, 3) := by decide +kernel
theorem dL_holds_75 : decode cL_holds 75 = .ok (.aload_n 0, 1) := by decide +kernel
theorem dL_holds_76 : decode cL_holds 76 = .ok (.bipush 15, 2) := by decide +kernel
theorem dL_holds_78 : decode cL_holds 78 = .ok (.invokevirtual 13, 3) := by decide +kernel
theorem dL_holds_81 : decode cL_holds 81 = .ok (.iconst 3, 1) := by decide +kernel
theorem dL_holds_82 : decode cL_holds 82 = .ok (.if_icmp .ge 80, 3) := by decide +kernel
theorem dL_holds_85 : decode cL_holds 85 = .ok (.aload_n 0, 1) := by decide +kernel
theorem dL_holds_86 : decode cL_holds 86 = .ok (.bipush 16, 2) := by decide +kernel
theorem dL_holds_88 : decode cL_holds 88 = .ok (.invokevirtual 13, 3) := by decide +kernel
theorem dL_holds_91 : decode cL_holds 91 = .ok (.iconst 1, 1) := by decide +kernel
theorem dL_holds_92 : decode cL_holds 92 = .ok (.if_icmp .lt 70, 3) := by decide +kernel
theorem dL_holds_95 : decode cL_holds 95 = .ok (.aload_n 0, 1) := by decide +kernel
theorem dL_holds_96 : decode cL_holds 96 = .ok (.bipush 16, 2) := by decide +kernel
theorem dL_holds_98 : decode cL_holds 98 = .ok (.invokevirtual 13, 3) := by decide +kernel
theorem dL_holds_101 : decode cL_holds 101 = .ok (.bipush 9, 2) := by decide +kernel
theorem dL_holds_103 : decode cL_holds 103 = .ok (.if_icmp .gt 59, 3) := by decide +kernel
theorem dL_holds_106 : decode cL_holds 106 = .ok (.aload_n 0, 1) := by decide +kernel
theorem dL_holds_107 : decode cL_holds 107 = .ok (.bipush 13, 2) := by decide +kernel
theorem dL_holds_109 : decode cL_holds 109 = .ok (.invokevirtual 13, 3) := by decide +kernel
theorem dL_holds_112 : decode cL_holds 112 = .ok (.iconst 5, 1) := by decide +kernel
theorem dL_holds_113 : decode cL_holds 113 = .ok (.aload_n 0, 1) := by decide +kernel
theorem dL_holds_114 : decode cL_holds 114 = .ok (.bipush 11, 2) := by decide +kernel
theorem dL_holds_116 : decode cL_holds 116 = .ok (.invokevirtual 13, 3) := by decide +kernel
theorem dL_holds_119 : decode cL_holds 119 = .ok (.imul, 1) := by decide +kernel
theorem dL_holds_120 : decode cL_holds 120 = .ok (.if_icmp .gt 42, 3) := by decide +kernel
theorem dL_holds_123 : decode cL_holds 123 = .ok (.aload_n 0, 1) := by decide +kernel
theorem dL_holds_124 : decode cL_holds 124 = .ok (.invokevirtual 28, 3) := by decide +kernel
theorem dL_holds_127 : decode cL_holds 127 = .ok (.aload_n 0, 1) := by decide +kernel
theorem dL_holds_128 : decode cL_holds 128 = .ok (.bipush 10, 2) := by decide +kernel
theorem dL_holds_130 : decode cL_holds 130 = .ok (.invokevirtual 13, 3) := by decide +kernel
theorem dL_holds_133 : decode cL_holds 133 = .ok (.ifCond .ne 7, 3) := by decide +kernel
theorem dL_holds_136 : decode cL_holds 136 = .ok (.dconst 0, 1) := by decide +kernel
theorem dL_holds_137 : decode cL_holds 137 = .ok (.goto 17, 3) := by decide +kernel
theorem dL_holds_140 : decode cL_holds 140 = .ok (.aload_n 0, 1) := by decide +kernel
theorem dL_holds_141 : decode cL_holds 141 = .ok (.iconst 0, 1) := by decide +kernel
theorem dL_holds_142 : decode cL_holds 142 = .ok (.invokevirtual 13, 3) := by decide +kernel
theorem dL_holds_145 : decode cL_holds 145 = .ok (.i2d, 1) := by decide +kernel
theorem dL_holds_146 : decode cL_holds 146 = .ok (.aload_n 0, 1) := by decide +kernel
theorem dL_holds_147 : decode cL_holds 147 = .ok (.bipush 10, 2) := by decide +kernel
theorem dL_holds_149 : decode cL_holds 149 = .ok (.invokevirtual 13, 3) := by decide +kernel
theorem dL_holds_152 : decode cL_holds 152 = .ok (.i2d, 1) := by decide +kernel
theorem dL_holds_153 : decode cL_holds 153 = .ok (.ddiv, 1) := by decide +kernel
theorem dL_holds_154 : decode cL_holds 154 = .ok (.dcmp .l, 1) := by decide +kernel
theorem dL_holds_155 : decode cL_holds 155 = .ok (.ifCond .ne 7, 3) := by decide +kernel
theorem dL_holds_158 : decode cL_holds 158 = .ok (.iconst 1, 1) := by decide +kernel
theorem dL_holds_159 : decode cL_holds 159 = .ok (.goto 4, 3) := by decide +kernel
theorem dL_holds_162 : decode cL_holds 162 = .ok (.iconst 0, 1) := by decide +kernel
theorem dL_holds_163 : decode cL_holds 163 = .ok (.istore 6, 2) := by decide +kernel
theorem dL_holds_165 : decode cL_holds 165 = .ok (.iconst 0, 1) := by decide +kernel
theorem dL_holds_166 : decode cL_holds 166 = .ok (.istore 7, 2) := by decide +kernel
theorem dL_holds_168 : decode cL_holds 168 = .ok (.iload 7, 2) := by decide +kernel
theorem dL_holds_170 : decode cL_holds 170 = .ok (.iconst 5, 1) := by decide +kernel
theorem dL_holds_171 : decode cL_holds 171 = .ok (.if_icmp .ge 352, 3) := by decide +kernel
theorem dL_holds_174 : decode cL_holds 174 = .ok (.iload 6, 2) := by decide +kernel
theorem dL_holds_176 : decode cL_holds 176 = .ok (.ifCond .eq 347, 3) := by decide +kernel
theorem dL_holds_179 : decode cL_holds 179 = .ok (.iconst 0, 1) := by decide +kernel
theorem dL_holds_180 : decode cL_holds 180 = .ok (.istore 8, 2) := by decide +kernel
theorem dL_holds_182 : decode cL_holds 182 = .ok (.iconst 0, 1) := by decide +kernel
theorem dL_holds_183 : decode cL_holds 183 = .ok (.istore 9, 2) := by decide +kernel
theorem dL_holds_185 : decode cL_holds 185 = .ok (.iconst 0, 1) := by decide +kernel
theorem dL_holds_186 : decode cL_holds 186 = .ok (.istore 10, 2) := by decide +kernel
theorem dL_holds_188 : decode cL_holds 188 = .ok (.iload 10, 2) := by decide +kernel
theorem dL_holds_190 : decode cL_holds 190 = .ok (.bipush 7, 2) := by decide +kernel
theorem dL_holds_192 : decode cL_holds 192 = .ok (.if_icmp .ge 298, 3) := by decide +kernel
theorem dL_holds_195 : decode cL_holds 195 = .ok (.bipush 7, 2) := by decide +kernel
theorem dL_holds_197 : decode cL_holds 197 = .ok (.iload 7, 2) := by decide +kernel
theorem dL_holds_199 : decode cL_holds 199 = .ok (.imul, 1) := by decide +kernel
theorem dL_holds_200 : decode cL_holds 200 = .ok (.iload 10, 2) := by decide +kernel
theorem dL_holds_202 : decode cL_holds 202 = .ok (.iadd, 1) := by decide +kernel
theorem dL_holds_203 : decode cL_holds 203 = .ok (.istore 11, 2) := by decide +kernel
theorem dL_holds_205 : decode cL_holds 205 = .ok (.aload_n 0, 1) := by decide +kernel
theorem dL_holds_206 : decode cL_holds 206 = .ok (.iload 11, 2) := by decide +kernel
theorem dL_holds_208 : decode cL_holds 208 = .ok (.iconst 0, 1) := by decide +kernel
theorem dL_holds_209 : decode cL_holds 209 = .ok (.invokevirtual 19, 3) := by decide +kernel
theorem dL_holds_212 : decode cL_holds 212 = .ok (.istore 12, 2) := by decide +kernel
theorem dL_holds_214 : decode cL_holds 214 = .ok (.iload 12, 2) := by decide +kernel
theorem dL_holds_216 : decode cL_holds 216 = .ok (.bipush (-4), 2) := by decide +kernel
theorem dL_holds_218 : decode cL_holds 218 = .ok (.if_icmp .ne 7, 3) := by decide +kernel
theorem dL_holds_221 : decode cL_holds 221 = .ok (.iconst 1, 1) := by decide +kernel
theorem dL_holds_222 : decode cL_holds 222 = .ok (.goto 4, 3) := by decide +kernel
theorem dL_holds_225 : decode cL_holds 225 = .ok (.iconst 0, 1) := by decide +kernel
theorem dL_holds_226 : decode cL_holds 226 = .ok (.istore 13, 2) := by decide +kernel
theorem dL_holds_228 : decode cL_holds 228 = .ok (.iload 13, 2) := by decide +kernel
theorem dL_holds_230 : decode cL_holds 230 = .ok (.ifCond .eq 8, 3) := by decide +kernel
theorem dL_holds_233 : decode cL_holds 233 = .ok (.bipush 46, 2) := by decide +kernel
theorem dL_holds_235 : decode cL_holds 235 = .ok (.goto 43, 3) := by decide +kernel
theorem dL_holds_238 : decode cL_holds 238 = .ok (.aload_n 0, 1) := by decide +kernel
theorem dL_holds_239 : decode cL_holds 239 = .ok (.iload 11, 2) := by decide +kernel
theorem dL_holds_241 : decode cL_holds 241 = .ok (.iconst 1, 1) := by decide +kernel
theorem dL_holds_242 : decode cL_holds 242 = .ok (.invokevirtual 19, 3) := by decide +kernel
theorem dL_holds_245 : decode cL_holds 245 = .ok (.iconst 1, 1) := by decide +kernel
theorem dL_holds_246 : decode cL_holds 246 = .ok (.if_icmp .ne 8, 3) := by decide +kernel
theorem dL_holds_249 : decode cL_holds 249 = .ok (.bipush 111, 2) := by decide +kernel
theorem dL_holds_251 : decode cL_holds 251 = .ok (.goto 27, 3) := by decide +kernel
theorem dL_holds_254 : decode cL_holds 254 = .ok (.iload 12, 2) := by decide +kernel
theorem dL_holds_256 : decode cL_holds 256 = .ok (.iconst 3, 1) := by decide +kernel
theorem dL_holds_257 : decode cL_holds 257 = .ok (.if_icmp .ge 8, 3) := by decide +kernel
theorem dL_holds_260 : decode cL_holds 260 = .ok (.bipush 60, 2) := by decide +kernel
theorem dL_holds_262 : decode cL_holds 262 = .ok (.goto 16, 3) := by decide +kernel
theorem dL_holds_265 : decode cL_holds 265 = .ok (.iload 12, 2) := by decide +kernel
theorem dL_holds_267 : decode cL_holds 267 = .ok (.iconst 3, 1) := by decide +kernel
theorem dL_holds_268 : decode cL_holds 268 = .ok (.if_icmp .le 8, 3) := by decide +kernel
theorem dL_holds_271 : decode cL_holds 271 = .ok (.bipush 62, 2) := by decide +kernel
theorem dL_holds_273 : decode cL_holds 273 = .ok (.goto 5, 3) := by decide +kernel
theorem dL_holds_276 : decode cL_holds 276 = .ok (.bipush 124, 2) := by decide +kernel
theorem dL_holds_278 : decode cL_holds 278 = .ok (.istore 14, 2) := by decide +kernel
theorem dL_holds_280 : decode cL_holds 280 = .ok (.iload 8, 2) := by decide +kernel
theorem dL_holds_282 : decode cL_holds 282 = .ok (.aload_n 0, 1) := by decide +kernel
theorem dL_holds_283 : decode cL_holds 283 = .ok (.iload 11, 2) := by decide +kernel
theorem dL_holds_285 : decode cL_holds 285 = .ok (.iconst 3, 1) := by decide +kernel
theorem dL_holds_286 : decode cL_holds 286 = .ok (.invokevirtual 19, 3) := by decide +kernel
theorem dL_holds_289 : decode cL_holds 289 = .ok (.iadd, 1) := by decide +kernel
theorem dL_holds_290 : decode cL_holds 290 = .ok (.istore 8, 2) := by decide +kernel
theorem dL_holds_292 : decode cL_holds 292 = .ok (.iload_n 1, 1) := by decide +kernel
theorem dL_holds_293 : decode cL_holds 293 = .ok (.iload 13, 2) := by decide +kernel
theorem dL_holds_295 : decode cL_holds 295 = .ok (.ifCond .eq 7, 3) := by decide +kernel
theorem dL_holds_298 : decode cL_holds 298 = .ok (.iconst 0, 1) := by decide +kernel
theorem dL_holds_299 : decode cL_holds 299 = .ok (.goto 4, 3) := by decide +kernel
theorem dL_holds_302 : decode cL_holds 302 = .ok (.iconst 1, 1) := by decide +kernel
theorem dL_holds_303 : decode cL_holds 303 = .ok (.iadd, 1) := by decide +kernel
theorem dL_holds_304 : decode cL_holds 304 = .ok (.istore_n 1, 1) := by decide +kernel
theorem dL_holds_305 : decode cL_holds 305 = .ok (.iload_n 2, 1) := by decide +kernel
theorem dL_holds_306 : decode cL_holds 306 = .ok (.iload 12, 2) := by decide +kernel
theorem dL_holds_308 : decode cL_holds 308 = .ok (.iconst 3, 1) := by decide +kernel
theorem dL_holds_309 : decode cL_holds 309 = .ok (.if_icmp .ne 7, 3) := by decide +kernel
theorem dL_holds_312 : decode cL_holds 312 = .ok (.iconst 1, 1) := by decide +kernel
theorem dL_holds_313 : decode cL_holds 313 = .ok (.goto 4, 3) := by decide +kernel
theorem dL_holds_316 : decode cL_holds 316 = .ok (.iconst 0, 1) := by decide +kernel
theorem dL_holds_317 : decode cL_holds 317 = .ok (.iadd, 1) := by decide +kernel
theorem dL_holds_318 : decode cL_holds 318 = .ok (.istore_n 2, 1) := by decide +kernel
theorem dL_holds_319 : decode cL_holds 319 = .ok (.iload_n 3, 1) := by decide +kernel
theorem dL_holds_320 : decode cL_holds 320 = .ok (.iload 13, 2) := by decide +kernel
theorem dL_holds_322 : decode cL_holds 322 = .ok (.ifCond .eq 7, 3) := by decide +kernel
theorem dL_holds_325 : decode cL_holds 325 = .ok (.iconst 0, 1) := by decide +kernel
theorem dL_holds_326 : decode cL_holds 326 = .ok (.goto 20, 3) := by decide +kernel
theorem dL_holds_329 : decode cL_holds 329 = .ok (.iload 12, 2) := by decide +kernel
theorem dL_holds_331 : decode cL_holds 331 = .ok (.iconst 3, 1) := by decide +kernel
theorem dL_holds_332 : decode cL_holds 332 = .ok (.if_icmp .ge 10, 3) := by decide +kernel
theorem dL_holds_335 : decode cL_holds 335 = .ok (.iconst 3, 1) := by decide +kernel
theorem dL_holds_336 : decode cL_holds 336 = .ok (.iload 12, 2) := by decide +kernel
theorem dL_holds_338 : decode cL_holds 338 = .ok (.isub, 1) := by decide +kernel
theorem dL_holds_339 : decode cL_holds 339 = .ok (.goto 7, 3) := by decide +kernel
theorem dL_holds_342 : decode cL_holds 342 = .ok (.iload 12, 2) := by decide +kernel
theorem dL_holds_344 : decode cL_holds 344 = .ok (.iconst 3, 1) := by decide +kernel
theorem dL_holds_345 : decode cL_holds 345 = .ok (.isub, 1) := by decide +kernel
theorem dL_holds_346 : decode cL_holds 346 = .ok (.iadd, 1) := by decide +kernel
theorem dL_holds_347 : decode cL_holds 347 = .ok (.istore_n 3, 1) := by decide +kernel
theorem dL_holds_348 : decode cL_holds 348 = .ok (.iload 4, 2) := by decide +kernel
theorem dL_holds_350 : decode cL_holds 350 = .ok (.aload_n 0, 1) := by decide +kernel
theorem dL_holds_351 : decode cL_holds 351 = .ok (.iload 11, 2) := by decide +kernel
theorem dL_holds_353 : decode cL_holds 353 = .ok (.iconst 1, 1) := by decide +kernel
theorem dL_holds_354 : decode cL_holds 354 = .ok (.invokevirtual 19, 3) := by decide +kernel
theorem dL_holds_357 : decode cL_holds 357 = .ok (.iadd, 1) := by decide +kernel
theorem dL_holds_358 : decode cL_holds 358 = .ok (.istore 4, 2) := by decide +kernel
theorem dL_holds_360 : decode cL_holds 360 = .ok (.iload 9, 2) := by decide +kernel
theorem dL_holds_362 : decode cL_holds 362 = .ok (.iload 5, 2) := by decide +kernel
theorem dL_holds_364 : decode cL_holds 364 = .ok (.iload 10, 2) := by decide +kernel
theorem dL_holds_366 : decode cL_holds 366 = .ok (.ishr, 1) := by decide +kernel
theorem dL_holds_367 : decode cL_holds 367 = .ok (.iconst 1, 1) := by decide +kernel
theorem dL_holds_368 : decode cL_holds 368 = .ok (.iand, 1) := by decide +kernel
theorem dL_holds_369 : decode cL_holds 369 = .ok (.iconst 1, 1) := by decide +kernel
theorem dL_holds_370 : decode cL_holds 370 = .ok (.if_icmp .ne 12, 3) := by decide +kernel
theorem dL_holds_373 : decode cL_holds 373 = .ok (.aload_n 0, 1) := by decide +kernel
theorem dL_holds_374 : decode cL_holds 374 = .ok (.iload 11, 2) := by decide +kernel
theorem dL_holds_376 : decode cL_holds 376 = .ok (.invokestatic 32, 3) := by decide +kernel
theorem dL_holds_379 : decode cL_holds 379 = .ok (.goto 4, 3) := by decide +kernel
theorem dL_holds_382 : decode cL_holds 382 = .ok (.iconst 0, 1) := by decide +kernel
theorem dL_holds_383 : decode cL_holds 383 = .ok (.ior, 1) := by decide +kernel
theorem dL_holds_384 : decode cL_holds 384 = .ok (.istore 9, 2) := by decide +kernel
theorem dL_holds_386 : decode cL_holds 386 = .ok (.iload 6, 2) := by decide +kernel
theorem dL_holds_388 : decode cL_holds 388 = .ok (.ifCond .eq 93, 3) := by decide +kernel
theorem dL_holds_391 : decode cL_holds 391 = .ok (.iload 13, 2) := by decide +kernel
theorem dL_holds_393 : decode cL_holds 393 = .ok (.ifCond .ne 15, 3) := by decide +kernel
theorem dL_holds_396 : decode cL_holds 396 = .ok (.iload 12, 2) := by decide +kernel
theorem dL_holds_398 : decode cL_holds 398 = .ok (.ifCond .lt 83, 3) := by decide +kernel
theorem dL_holds_401 : decode cL_holds 401 = .ok (.iload 12, 2) := by decide +kernel
theorem dL_holds_403 : decode cL_holds 403 = .ok (.bipush 6, 2) := by decide +kernel
theorem dL_holds_405 : decode cL_holds 405 = .ok (.if_icmp .gt 76, 3) := by decide +kernel
theorem dL_holds_408 : decode cL_holds 408 = .ok (.iload 13, 2) := by decide +kernel
theorem dL_holds_410 : decode cL_holds 410 = .ok (.ifCond .eq 18, 3) := by decide +kernel
theorem dL_holds_413 : decode cL_holds 413 = .ok (.aload_n 0, 1) := by decide +kernel
theorem dL_holds_414 : decode cL_holds 414 = .ok (.iload 11, 2) := by decide +kernel
theorem dL_holds_416 : decode cL_holds 416 = .ok (.iconst 2, 1) := by decide +kernel
theorem dL_holds_417 : decode cL_holds 417 = .ok (.invokevirtual 19, 3) := by decide +kernel
theorem dL_holds_420 : decode cL_holds 420 = .ok (.bipush (-4), 2) := by decide +kernel
theorem dL_holds_422 : decode cL_holds 422 = .ok (.if_icmp .ne 59, 3) := by decide +kernel
theorem dL_holds_425 : decode cL_holds 425 = .ok (.goto 24, 3) := by decide +kernel
theorem dL_holds_428 : decode cL_holds 428 = .ok (.aload_n 0, 1) := by decide +kernel
theorem dL_holds_429 : decode cL_holds 429 = .ok (.iload 11, 2) := by decide +kernel
theorem dL_holds_431 : decode cL_holds 431 = .ok (.iconst 2, 1) := by decide +kernel
theorem dL_holds_432 : decode cL_holds 432 = .ok (.invokevirtual 19, 3) := by decide +kernel
theorem dL_holds_435 : decode cL_holds 435 = .ok (.ifCond .lt 46, 3) := by decide +kernel
theorem dL_holds_438 : decode cL_holds 438 = .ok (.aload_n 0, 1) := by decide +kernel
theorem dL_holds_439 : decode cL_holds 439 = .ok (.iload 11, 2) := by decide +kernel
theorem dL_holds_441 : decode cL_holds 441 = .ok (.iconst 2, 1) := by decide +kernel
theorem dL_holds_442 : decode cL_holds 442 = .ok (.invokevirtual 19, 3) := by decide +kernel
theorem dL_holds_445 : decode cL_holds 445 = .ok (.iconst 1, 1) := by decide +kernel
theorem dL_holds_446 : decode cL_holds 446 = .ok (.if_icmp .gt 35, 3) := by decide +kernel
theorem dL_holds_449 : decode cL_holds 449 = .ok (.aload_n 0, 1) := by decide +kernel
theorem dL_holds_450 : decode cL_holds 450 = .ok (.iload 11, 2) := by decide +kernel
theorem dL_holds_452 : decode cL_holds 452 = .ok (.iconst 4, 1) := by decide +kernel
theorem dL_holds_453 : decode cL_holds 453 = .ok (.invokevirtual 19, 3) := by decide +kernel
theorem dL_holds_456 : decode cL_holds 456 = .ok (.iload 5, 2) := by decide +kernel
theorem dL_holds_458 : decode cL_holds 458 = .ok (.iload 10, 2) := by decide +kernel
theorem dL_holds_460 : decode cL_holds 460 = .ok (.ishr, 1) := by decide +kernel
theorem dL_holds_461 : decode cL_holds 461 = .ok (.iconst 1, 1) := by decide +kernel
theorem dL_holds_462 : decode cL_holds 462 = .ok (.iand, 1) := by decide +kernel
theorem dL_holds_463 : decode cL_holds 463 = .ok (.if_icmp .ne 18, 3) := by decide +kernel
theorem dL_holds_466 : decode cL_holds 466 = .ok (.aload_n 0, 1) := by decide +kernel
theorem dL_holds_467 : decode cL_holds 467 = .ok (.iload 11, 2) := by decide +kernel
theorem dL_holds_469 : decode cL_holds 469 = .ok (.invokevirtual 36, 3) := by decide +kernel
theorem dL_holds_472 : decode cL_holds 472 = .ok (.iload 14, 2) := by decide +kernel
theorem dL_holds_474 : decode cL_holds 474 = .ok (.if_icmp .ne 7, 3) := by decide +kernel
theorem dL_holds_477 : decode cL_holds 477 = .ok (.iconst 1, 1) := by decide +kernel
theorem dL_holds_478 : decode cL_holds 478 = .ok (.goto 4, 3) := by decide +kernel
theorem dL_holds_481 : decode cL_holds 481 = .ok (.iconst 0, 1) := by decide +kernel
theorem dL_holds_482 : decode cL_holds 482 = .ok (.istore 6, 2) := by decide +kernel
theorem dL_holds_484 : decode cL_holds 484 = .ok (.iinc 10 1, 3) := by decide +kernel
theorem dL_holds_487 : decode cL_holds 487 = .ok (.goto (-299), 3) := by decide +kernel
theorem dL_holds_490 : decode cL_holds 490 = .ok (.iload 9, 2) := by decide +kernel
theorem dL_holds_492 : decode cL_holds 492 = .ok (.istore 5, 2) := by decide +kernel
theorem dL_holds_494 : decode cL_holds 494 = .ok (.iload 6, 2) := by decide +kernel
theorem dL_holds_496 : decode cL_holds 496 = .ok (.ifCond .eq 18, 3) := by decide +kernel
theorem dL_holds_499 : decode cL_holds 499 = .ok (.iload 8, 2) := by decide +kernel
theorem dL_holds_501 : decode cL_holds 501 = .ok (.aload_n 0, 1) := by decide +kernel
theorem dL_holds_502 : decode cL_holds 502 = .ok (.bipush 10, 2) := by decide +kernel
theorem dL_holds_504 : decode cL_holds 504 = .ok (.invokevirtual 13, 3) := by decide +kernel
theorem dL_holds_507 : decode cL_holds 507 = .ok (.if_icmp .ne 7, 3) := by decide +kernel
theorem dL_holds_510 : decode cL_holds 510 = .ok (.iconst 1, 1) := by decide +kernel
theorem dL_holds_511 : decode cL_holds 511 = .ok (.goto 4, 3) := by decide +kernel
theorem dL_holds_514 : decode cL_holds 514 = .ok (.iconst 0, 1) := by decide +kernel
theorem dL_holds_515 : decode cL_holds 515 = .ok (.istore 6, 2) := by decide +kernel
theorem dL_holds_517 : decode cL_holds 517 = .ok (.iinc 7 1, 3) := by decide +kernel
theorem dL_holds_520 : decode cL_holds 520 = .ok (.goto (-352), 3) := by decide +kernel
theorem dL_holds_523 : decode cL_holds 523 = .ok (.iconst 0, 1) := by decide +kernel
theorem dL_holds_524 : decode cL_holds 524 = .ok (.istore 7, 2) := by decide +kernel
theorem dL_holds_526 : decode cL_holds 526 = .ok (.iconst 0, 1) := by decide +kernel
theorem dL_holds_527 : decode cL_holds 527 = .ok (.istore 8, 2) := by decide +kernel
theorem dL_holds_529 : decode cL_holds 529 = .ok (.iconst 0, 1) := by decide +kernel
theorem dL_holds_530 : decode cL_holds 530 = .ok (.istore 9, 2) := by decide +kernel
theorem dL_holds_532 : decode cL_holds 532 = .ok (.iconst 0, 1) := by decide +kernel
theorem dL_holds_533 : decode cL_holds 533 = .ok (.istore 10, 2) := by decide +kernel
theorem dL_holds_535 : decode cL_holds 535 = .ok (.iconst 0, 1) := by decide +kernel
theorem dL_holds_536 : decode cL_holds 536 = .ok (.istore 11, 2) := by decide +kernel
theorem dL_holds_538 : decode cL_holds 538 = .ok (.iload 11, 2) := by decide +kernel
theorem dL_holds_540 : decode cL_holds 540 = .ok (.bipush 7, 2) := by decide +kernel
theorem dL_holds_542 : decode cL_holds 542 = .ok (.if_icmp .ge 213, 3) := by decide +kernel
theorem dL_holds_545 : decode cL_holds 545 = .ok (.iload 6, 2) := by decide +kernel
theorem dL_holds_547 : decode cL_holds 547 = .ok (.ifCond .eq 208, 3) := by decide +kernel
theorem dL_holds_550 : decode cL_holds 550 = .ok (.iload 7, 2) := by decide +kernel
theorem dL_holds_552 : decode cL_holds 552 = .ok (.aload_n 0, 1) := by decide +kernel
theorem dL_holds_553 : decode cL_holds 553 = .ok (.iload 11, 2) := by decide +kernel
theorem dL_holds_555 : decode cL_holds 555 = .ok (.iconst 1, 1) := by decide +kernel
theorem dL_holds_556 : decode cL_holds 556 = .ok (.invokevirtual 23, 3) := by decide +kernel
theorem dL_holds_559 : decode cL_holds 559 = .ok (.iadd, 1) := by decide +kernel
theorem dL_holds_560 : decode cL_holds 560 = .ok (.istore 7, 2) := by decide +kernel
theorem dL_holds_562 : decode cL_holds 562 = .ok (.iload 8, 2) := by decide +kernel
theorem dL_holds_564 : decode cL_holds 564 = .ok (.aload_n 0, 1) := by decide +kernel
theorem dL_holds_565 : decode cL_holds 565 = .ok (.iload 11, 2) := by decide +kernel
theorem dL_holds_567 : decode cL_holds 567 = .ok (.iconst 2, 1) := by decide +kernel
theorem dL_holds_568 : decode cL_holds 568 = .ok (.invokevirtual 23, 3) := by decide +kernel
theorem dL_holds_571 : decode cL_holds 571 = .ok (.iadd, 1) := by decide +kernel
theorem dL_holds_572 : decode cL_holds 572 = .ok (.istore 8, 2) := by decide +kernel
theorem dL_holds_574 : decode cL_holds 574 = .ok (.iload 9, 2) := by decide +kernel
theorem dL_holds_576 : decode cL_holds 576 = .ok (.aload_n 0, 1) := by decide +kernel
theorem dL_holds_577 : decode cL_holds 577 = .ok (.iload 11, 2) := by decide +kernel
theorem dL_holds_579 : decode cL_holds 579 = .ok (.iconst 3, 1) := by decide +kernel
theorem dL_holds_580 : decode cL_holds 580 = .ok (.invokevirtual 23, 3) := by decide +kernel
theorem dL_holds_583 : decode cL_holds 583 = .ok (.iadd, 1) := by decide +kernel
theorem dL_holds_584 : decode cL_holds 584 = .ok (.istore 9, 2) := by decide +kernel
theorem dL_holds_586 : decode cL_holds 586 = .ok (.iload 10, 2) := by decide +kernel
theorem dL_holds_588 : decode cL_holds 588 = .ok (.aload_n 0, 1) := by decide +kernel
theorem dL_holds_589 : decode cL_holds 589 = .ok (.iload 11, 2) := by decide +kernel
theorem dL_holds_591 : decode cL_holds 591 = .ok (.iconst 0, 1) := by decide +kernel
theorem dL_holds_592 : decode cL_holds 592 = .ok (.invokevirtual 39, 3) := by decide +kernel
theorem dL_holds_595 : decode cL_holds 595 = .ok (.iadd, 1) := by decide +kernel
theorem dL_holds_596 : decode cL_holds 596 = .ok (.istore 10, 2) := by decide +kernel
theorem dL_holds_598 : decode cL_holds 598 = .ok (.aload_n 0, 1) := by decide +kernel
theorem dL_holds_599 : decode cL_holds 599 = .ok (.iload 11, 2) := by decide +kernel
theorem dL_holds_601 : decode cL_holds 601 = .ok (.iconst 0, 1) := by decide +kernel
theorem dL_holds_602 : decode cL_holds 602 = .ok (.invokevirtual 23, 3) := by decide +kernel
theorem dL_holds_605 : decode cL_holds 605 = .ok (.ifCond .lt 141, 3) := by decide +kernel
theorem dL_holds_608 : decode cL_holds 608 = .ok (.aload_n 0, 1) := by decide +kernel
theorem dL_holds_609 : decode cL_holds 609 = .ok (.iload 11, 2) := by decide +kernel
theorem dL_holds_611 : decode cL_holds 611 = .ok (.iconst 0, 1) := by decide +kernel
theorem dL_holds_612 : decode cL_holds 612 = .ok (.invokevirtual 23, 3) := by decide +kernel
theorem dL_holds_615 : decode cL_holds 615 = .ok (.bipush 9, 2) := by decide +kernel
theorem dL_holds_617 : decode cL_holds 617 = .ok (.if_icmp .gt 129, 3) := by decide +kernel
theorem dL_holds_620 : decode cL_holds 620 = .ok (.aload_n 0, 1) := by decide +kernel
theorem dL_holds_621 : decode cL_holds 621 = .ok (.iload 11, 2) := by decide +kernel
theorem dL_holds_623 : decode cL_holds 623 = .ok (.iconst 1, 1) := by decide +kernel
theorem dL_holds_624 : decode cL_holds 624 = .ok (.invokevirtual 23, 3) := by decide +kernel
theorem dL_holds_627 : decode cL_holds 627 = .ok (.ifCond .lt 119, 3) := by decide +kernel
theorem dL_holds_630 : decode cL_holds 630 = .ok (.aload_n 0, 1) := by decide +kernel
theorem dL_holds_631 : decode cL_holds 631 = .ok (.iload 11, 2) := by decide +kernel
theorem dL_holds_633 : decode cL_holds 633 = .ok (.iconst 2, 1) := by decide +kernel
theorem dL_holds_634 : decode cL_holds 634 = .ok (.invokevirtual 23, 3) := by decide +kernel
theorem dL_holds_637 : decode cL_holds 637 = .ok (.aload_n 0, 1) := by decide +kernel
theorem dL_holds_638 : decode cL_holds 638 = .ok (.iload 11, 2) := by decide +kernel
theorem dL_holds_640 : decode cL_holds 640 = .ok (.iconst 1, 1) := by decide +kernel
theorem dL_holds_641 : decode cL_holds 641 = .ok (.invokevirtual 23, 3) := by decide +kernel
theorem dL_holds_644 : decode cL_holds 644 = .ok (.aload_n 0, 1) := by decide +kernel
theorem dL_holds_645 : decode cL_holds 645 = .ok (.bipush 16, 2) := by decide +kernel
theorem dL_holds_647 : decode cL_holds 647 = .ok (.invokevirtual 13, 3) := by decide +kernel
theorem dL_holds_650 : decode cL_holds 650 = .ok (.if_icmp .ge 7, 3) := by decide +kernel
theorem dL_holds_653 : decode cL_holds 653 = .ok (.iconst 0, 1) := by decide +kernel
theorem dL_holds_654 : decode cL_holds 654 = .ok (.goto 4, 3) := by decide +kernel
theorem dL_holds_657 : decode cL_holds 657 = .ok (.iconst 1, 1) := by decide +kernel
theorem dL_holds_658 : decode cL_holds 658 = .ok (.if_icmp .ne 88, 3) := by decide +kernel
theorem dL_holds_661 : decode cL_holds 661 = .ok (.aload_n 0, 1) := by decide +kernel
theorem dL_holds_662 : decode cL_holds 662 = .ok (.iload 11, 2) := by decide +kernel
theorem dL_holds_664 : decode cL_holds 664 = .ok (.iconst 3, 1) := by decide +kernel
theorem dL_holds_665 : decode cL_holds 665 = .ok (.invokevirtual 23, 3) := by decide +kernel
theorem dL_holds_668 : decode cL_holds 668 = .ok (.ifCond .lt 78, 3) := by decide +kernel
theorem dL_holds_671 : decode cL_holds 671 = .ok (.aload_n 0, 1) := by decide +kernel
theorem dL_holds_672 : decode cL_holds 672 = .ok (.iload 11, 2) := by decide +kernel
theorem dL_holds_674 : decode cL_holds 674 = .ok (.iconst 4, 1) := by decide +kernel
theorem dL_holds_675 : decode cL_holds 675 = .ok (.invokevirtual 23, 3) := by decide +kernel
theorem dL_holds_678 : decode cL_holds 678 = .ok (.iload 5, 2) := by decide +kernel
theorem dL_holds_680 : decode cL_holds 680 = .ok (.iload 11, 2) := by decide +kernel
theorem dL_holds_682 : decode cL_holds 682 = .ok (.ishr, 1) := by decide +kernel
theorem dL_holds_683 : decode cL_holds 683 = .ok (.iconst 1, 1) := by decide +kernel
theorem dL_holds_684 : decode cL_holds 684 = .ok (.iand, 1) := by decide +kernel
theorem dL_holds_685 : decode cL_holds 685 = .ok (.if_icmp .lt 61, 3) := by decide +kernel
theorem dL_holds_688 : decode cL_holds 688 = .ok (.aload_n 0, 1) := by decide +kernel
theorem dL_holds_689 : decode cL_holds 689 = .ok (.iload 11, 2) := by decide +kernel
theorem dL_holds_691 : decode cL_holds 691 = .ok (.iconst 4, 1) := by decide +kernel
theorem dL_holds_692 : decode cL_holds 692 = .ok (.invokevirtual 23, 3) := by decide +kernel
theorem dL_holds_695 : decode cL_holds 695 = .ok (.bipush 7, 2) := by decide +kernel
theorem dL_holds_697 : decode cL_holds 697 = .ok (.iload 5, 2) := by decide +kernel
theorem dL_holds_699 : decode cL_holds 699 = .ok (.iload 11, 2) := by decide +kernel
theorem dL_holds_701 : decode cL_holds 701 = .ok (.ishr, 1) := by decide +kernel
theorem dL_holds_702 : decode cL_holds 702 = .ok (.iconst 1, 1) := by decide +kernel
theorem dL_holds_703 : decode cL_holds 703 = .ok (.iand, 1) := by decide +kernel
theorem dL_holds_704 : decode cL_holds 704 = .ok (.imul, 1) := by decide +kernel
theorem dL_holds_705 : decode cL_holds 705 = .ok (.if_icmp .gt 41, 3) := by decide +kernel
theorem dL_holds_708 : decode cL_holds 708 = .ok (.aload_n 0, 1) := by decide +kernel
theorem dL_holds_709 : decode cL_holds 709 = .ok (.iload 11, 2) := by decide +kernel
theorem dL_holds_711 : decode cL_holds 711 = .ok (.iconst 0, 1) := by decide +kernel
theorem dL_holds_712 : decode cL_holds 712 = .ok (.invokevirtual 39, 3) := by decide +kernel
theorem dL_holds_715 : decode cL_holds 715 = .ok (.aload_n 0, 1) := by decide +kernel
theorem dL_holds_716 : decode cL_holds 716 = .ok (.iload 11, 2) := by decide +kernel
theorem dL_holds_718 : decode cL_holds 718 = .ok (.iconst 1, 1) := by decide +kernel
theorem dL_holds_719 : decode cL_holds 719 = .ok (.invokevirtual 39, 3) := by decide +kernel
theorem dL_holds_722 : decode cL_holds 722 = .ok (.if_icmp .ne 24, 3) := by decide +kernel
theorem dL_holds_725 : decode cL_holds 725 = .ok (.aload_n 0, 1) := by decide +kernel
theorem dL_holds_726 : decode cL_holds 726 = .ok (.iload 11, 2) := by decide +kernel
theorem dL_holds_728 : decode cL_holds 728 = .ok (.iconst 0, 1) := by decide +kernel
theorem dL_holds_729 : decode cL_holds 729 = .ok (.invokevirtual 39, 3) := by decide +kernel
theorem dL_holds_732 : decode cL_holds 732 = .ok (.aload_n 0, 1) := by decide +kernel
theorem dL_holds_733 : decode cL_holds 733 = .ok (.iload 11, 2) := by decide +kernel
theorem dL_holds_735 : decode cL_holds 735 = .ok (.iconst 4, 1) := by decide +kernel
theorem dL_holds_736 : decode cL_holds 736 = .ok (.invokevirtual 23, 3) := by decide +kernel
theorem dL_holds_739 : decode cL_holds 739 = .ok (.if_icmp .lt 7, 3) := by decide +kernel
theorem dL_holds_742 : decode cL_holds 742 = .ok (.iconst 1, 1) := by decide +kernel
theorem dL_holds_743 : decode cL_holds 743 = .ok (.goto 4, 3) := by decide +kernel
theorem dL_holds_746 : decode cL_holds 746 = .ok (.iconst 0, 1) := by decide +kernel
theorem dL_holds_747 : decode cL_holds 747 = .ok (.istore 6, 2) := by decide +kernel
theorem dL_holds_749 : decode cL_holds 749 = .ok (.iinc 11 1, 3) := by decide +kernel
theorem dL_holds_752 : decode cL_holds 752 = .ok (.goto (-214), 3) := by decide +kernel
theorem dL_holds_755 : decode cL_holds 755 = .ok (.iload 6, 2) := by decide +kernel
theorem dL_holds_757 : decode cL_holds 757 = .ok (.ifCond .eq 127, 3) := by decide +kernel
theorem dL_holds_760 : decode cL_holds 760 = .ok (.iload 5, 2) := by decide +kernel
theorem dL_holds_762 : decode cL_holds 762 = .ok (.aload_n 0, 1) := by decide +kernel
theorem dL_holds_763 : decode cL_holds 763 = .ok (.iconst 0, 1) := by decide +kernel
theorem dL_holds_764 : decode cL_holds 764 = .ok (.invokevirtual 42, 3) := by decide +kernel
theorem dL_holds_767 : decode cL_holds 767 = .ok (.if_icmp .ne 117, 3) := by decide +kernel
theorem dL_holds_770 : decode cL_holds 770 = .ok (.iload 5, 2) := by decide +kernel
theorem dL_holds_772 : decode cL_holds 772 = .ok (.aload_n 0, 1) := by decide +kernel
theorem dL_holds_773 : decode cL_holds 773 = .ok (.iconst 1, 1) := by decide +kernel
theorem dL_holds_774 : decode cL_holds 774 = .ok (.invokevirtual 42, 3) := by decide +kernel
theorem dL_holds_777 : decode cL_holds 777 = .ok (.if_icmp .ne 107, 3) := by decide +kernel
theorem dL_holds_780 : decode cL_holds 780 = .ok (.iload 5, 2) := by decide +kernel
theorem dL_holds_782 : decode cL_holds 782 = .ok (.invokestatic 45, 3) := by decide +kernel
theorem dL_holds_785 : decode cL_holds 785 = .ok (.aload_n 0, 1) := by decide +kernel
theorem dL_holds_786 : decode cL_holds 786 = .ok (.bipush 9, 2) := by decide +kernel
theorem dL_holds_788 : decode cL_holds 788 = .ok (.invokevirtual 13, 3) := by decide +kernel
theorem dL_holds_791 : decode cL_holds 791 = .ok (.if_icmp .ne 93, 3) := by decide +kernel
theorem dL_holds_794 : decode cL_holds 794 = .ok (.iload 7, 2) := by decide +kernel
theorem dL_holds_796 : decode cL_holds 796 = .ok (.aload_n 0, 1) := by decide +kernel
theorem dL_holds_797 : decode cL_holds 797 = .ok (.iconst 2, 1) := by decide +kernel
theorem dL_holds_798 : decode cL_holds 798 = .ok (.invokevirtual 13, 3) := by decide +kernel
theorem dL_holds_801 : decode cL_holds 801 = .ok (.if_icmp .ne 83, 3) := by decide +kernel
theorem dL_holds_804 : decode cL_holds 804 = .ok (.iload 8, 2) := by decide +kernel
theorem dL_holds_806 : decode cL_holds 806 = .ok (.aload_n 0, 1) := by decide +kernel
theorem dL_holds_807 : decode cL_holds 807 = .ok (.bipush 8, 2) := by decide +kernel
theorem dL_holds_809 : decode cL_holds 809 = .ok (.invokevirtual 13, 3) := by decide +kernel
theorem dL_holds_812 : decode cL_holds 812 = .ok (.if_icmp .ne 72, 3) := by decide +kernel
theorem dL_holds_815 : decode cL_holds 815 = .ok (.iload 9, 2) := by decide +kernel
theorem dL_holds_817 : decode cL_holds 817 = .ok (.aload_n 0, 1) := by decide +kernel
theorem dL_holds_818 : decode cL_holds 818 = .ok (.bipush 10, 2) := by decide +kernel
theorem dL_holds_820 : decode cL_holds 820 = .ok (.invokevirtual 13, 3) := by decide +kernel
theorem dL_holds_823 : decode cL_holds 823 = .ok (.if_icmp .ne 61, 3) := by decide +kernel
theorem dL_holds_826 : decode cL_holds 826 = .ok (.iload_n 1, 1) := by decide +kernel
theorem dL_holds_827 : decode cL_holds 827 = .ok (.aload_n 0, 1) := by decide +kernel
theorem dL_holds_828 : decode cL_holds 828 = .ok (.iconst 4, 1) := by decide +kernel
theorem dL_holds_829 : decode cL_holds 829 = .ok (.invokevirtual 13, 3) := by decide +kernel
theorem dL_holds_832 : decode cL_holds 832 = .ok (.if_icmp .ne 52, 3) := by decide +kernel
theorem dL_holds_835 : decode cL_holds 835 = .ok (.iload_n 2, 1) := by decide +kernel
theorem dL_holds_836 : decode cL_holds 836 = .ok (.aload_n 0, 1) := by decide +kernel
theorem dL_holds_837 : decode cL_holds 837 = .ok (.iconst 5, 1) := by decide +kernel
theorem dL_holds_838 : decode cL_holds 838 = .ok (.invokevirtual 13, 3) := by decide +kernel
theorem dL_holds_841 : decode cL_holds 841 = .ok (.if_icmp .ne 43, 3) := by decide +kernel
theorem dL_holds_844 : decode cL_holds 844 = .ok (.iload_n 3, 1) := by decide +kernel
theorem dL_holds_845 : decode cL_holds 845 = .ok (.aload_n 0, 1) := by decide +kernel
theorem dL_holds_846 : decode cL_holds 846 = .ok (.bipush 6, 2) := by decide +kernel
theorem dL_holds_848 : decode cL_holds 848 = .ok (.invokevirtual 13, 3) := by decide +kernel
theorem dL_holds_851 : decode cL_holds 851 = .ok (.if_icmp .ne 33, 3) := by decide +kernel
theorem dL_holds_854 : decode cL_holds 854 = .ok (.iload 4, 2) := by decide +kernel
theorem dL_holds_856 : decode cL_holds 856 = .ok (.aload_n 0, 1) := by decide +kernel
theorem dL_holds_857 : decode cL_holds 857 = .ok (.bipush 7, 2) := by decide +kernel
theorem dL_holds_859 : decode cL_holds 859 = .ok (.invokevirtual 13, 3) := by decide +kernel
theorem dL_holds_862 : decode cL_holds 862 = .ok (.if_icmp .ne 22, 3) := by decide +kernel
theorem dL_holds_865 : decode cL_holds 865 = .ok (.iload 10, 2) := by decide +kernel
theorem dL_holds_867 : decode cL_holds 867 = .ok (.bipush 7, 2) := by decide +kernel
theorem dL_holds_869 : decode cL_holds 869 = .ok (.if_icmp .lt 15, 3) := by decide +kernel
theorem dL_holds_872 : decode cL_holds 872 = .ok (.iload 10, 2) := by decide +kernel
theorem dL_holds_874 : decode cL_holds 874 = .ok (.sipush 224, 3) := by decide +kernel
theorem dL_holds_877 : decode cL_holds 877 = .ok (.if_icmp .gt 7, 3) := by decide +kernel
theorem dL_holds_880 : decode cL_holds 880 = .ok (.iconst 1, 1) := by decide +kernel
theorem dL_holds_881 : decode cL_holds 881 = .ok (.goto 4, 3) := by decide +kernel
theorem dL_holds_884 : decode cL_holds 884 = .ok (.iconst 0, 1) := by decide +kernel
theorem dL_holds_885 : decode cL_holds 885 = .ok (.ireturn, 1) := by decide +kernel
