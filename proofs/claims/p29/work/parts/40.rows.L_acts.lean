set_option maxRecDepth 20000 in
theorem ggL_acts_L_low : GoodIn wsL_acts wsL_low := goodIn_r _ [4, 5] rfl (by decide +kernel)
set_option maxRecDepth 20000 in
theorem gL_acts_L_low : GoodIn wsL_acts (va_wsS RL 48 yL_low wsL_low) := goodIn_app (goodIn_of _ (by decide +kernel)) ggL_acts_L_low
set_option maxRecDepth 20000 in
theorem ggL_acts_L_shoots : GoodIn wsL_acts wsL_shoots := goodIn_r _ [8, 1, 2, 3, 4, 5, 9, 10, 11, 12, 13, 14, 15, 16, 17, 18, 19, 20, 21, 22, 23, 24, 25, 26, 27, 28, 29, 30, 31, 32, 33, 34, 35, 36, 37, 38, 39, 40, 41, 42, 43, 44, 45, 46, 47, 48, 49, 50, 51, 52, 53, 54, 55, 56, 57, 58, 59, 60, 61, 62, 63, 64, 65, 66, 67, 68, 69, 70, 71, 72, 73, 74, 75, 76, 77, 78, 79, 80, 81, 82, 83, 84, 85, 86, 87, 88, 89, 90, 91, 92, 93, 94, 95, 96, 97, 98, 99, 100, 101, 102, 103, 104, 105, 106, 107, 108, 109, 110, 111, 112, 113, 114, 115, 116, 117, 118, 119, 120, 121, 122, 123, 124, 125, 126, 127, 128, 129, 130, 131, 132, 133, 134, 135, 136, 137, 138, 139, 140, 141, 142, 143, 144, 145, 146, 147, 148, 149, 150, 151, 152, 153, 154, 155, 156, 157, 158, 159, 160, 161, 162, 163, 164, 165, 166, 167, 168, 169, 170, 171, 172, 173, 174, 175, 176, 177, 178, 179, 180, 181, 182, 183, 184, 185, 186, 187, 188, 189, 190, 191, 192, 193, 194, 195, 196, 197, 198, 199, 200, 201, 202, 203, 204, 205, 206, 207, 208, 209, 210, 211, 212, 213, 214, 215, 216, 217, 218, 219, 220, 221, 222, 223, 224, 225, 226, 227, 228, 229, 230, 231, 232, 233, 234, 235, 236, 237, 238, 239, 240, 241, 242, 243, 244, 245, 246, 247, 248, 249, 250, 251, 252, 253, 254, 255, 256, 257, 258, 259, 260, 261, 262, 263, 264, 422, 423, 424, 425, 426, 427, 428, 429, 430, 431, 432, 433, 434, 435, 436, 437, 438, 439, 440, 441, 442, 443, 444, 445, 446, 447, 448, 449, 450, 451, 452, 453, 454, 455] rfl (by decide +kernel)
set_option maxRecDepth 20000 in
theorem gL_acts_L_shoots : GoodIn wsL_acts (va_wsS RL 98 yL_shoots wsL_shoots) := goodIn_app (goodIn_of _ (by decide +kernel)) ggL_acts_L_shoots
set_option maxRecDepth 20000 in
theorem ggL_acts_L_hands : GoodIn wsL_acts wsL_hands := goodIn_r _ [267, 1, 2, 3, 4, 5, 268, 269, 270, 12, 271, 14, 19, 272, 273, 274, 275, 20, 139, 140, 141, 276, 44, 45, 30, 46, 36, 47, 48, 49, 24, 50, 26, 226, 277, 278, 279, 79, 280, 81, 82, 83, 84, 85, 86, 87, 88, 89, 90, 91, 92, 93, 94, 95, 96, 97, 98, 99, 43, 100, 101, 102, 103, 42, 104, 105, 106, 107, 108, 57, 109, 110, 111, 112, 9, 10, 11, 13, 15, 16, 17, 18, 21, 22, 23, 25, 27, 28, 29, 31, 32, 33, 34, 35, 37, 38, 39, 40, 41, 51, 52, 53, 54, 55, 56, 58, 59, 60, 61, 62, 63, 64, 65, 66, 67, 68, 69, 70, 71, 72, 73, 74, 75, 76, 77, 78, 80, 113, 114, 115, 116, 117, 118, 119, 120, 121, 122, 123, 124, 125, 126, 127, 128, 129, 130, 131, 132, 133, 134, 281, 282, 283, 284, 240, 241, 242, 243, 244, 245, 246, 247, 248, 249, 250, 251, 252, 253, 254, 255, 157, 158, 159, 160, 161, 162, 163, 164, 165, 166, 167, 168, 169, 170, 171, 172, 150, 173, 174, 175, 176, 177, 178, 179, 180, 181, 182, 183, 184, 185, 285, 286, 287, 288, 289, 290, 291, 208, 209, 210, 292, 212, 213, 214, 199, 200, 201, 202, 293, 294, 295, 296, 297, 298, 299, 300, 203, 204, 205, 206, 301, 302, 303, 304, 305, 306, 307, 308, 309, 422, 423, 424, 425, 426, 427, 428, 429, 430, 431, 432, 433, 434, 435, 436, 437, 438, 439, 440, 441, 442, 444, 445, 446, 447, 448, 449, 450, 451, 443, 452, 453, 454, 455] rfl (by decide +kernel)
set_option maxRecDepth 20000 in
theorem gL_acts_L_hands : GoodIn wsL_acts (va_wsS RL 102 yL_hands wsL_hands) := goodIn_app (goodIn_of _ (by decide +kernel)) ggL_acts_L_hands
set_option maxRecDepth 20000 in
theorem ggL_acts_X6_pocket : GoodIn wsL_acts wsX6_pocket := goodIn_r _ [223, 14, 224, 17, 225, 20, 19, 139, 140, 12, 141, 226, 48, 49, 24, 50, 26, 227, 70, 71, 67, 72, 73, 74, 75, 228, 229, 230, 79, 231, 92, 93, 232, 233, 234, 235, 94, 95, 96, 97, 98, 30, 99, 43, 44, 45, 46, 36, 47, 100, 101, 102, 103, 42, 104, 105, 106, 107, 108, 57, 109, 110, 111, 112, 113, 114, 115, 116, 117, 118, 119, 422, 423, 424, 425, 426, 427, 428, 429, 430, 431, 432, 433, 434, 435, 436, 437, 438, 439, 440, 441, 442, 443, 444, 445, 446, 447, 448, 449, 450, 451] rfl (by decide +kernel)
set_option maxRecDepth 20000 in
theorem gL_acts_X6_pocket : GoodIn wsL_acts (wsV RL 23 RX6 yX6_pocket wsX6_pocket) := goodIn_app (goodIn_of _ (by decide +kernel)) ggL_acts_X6_pocket
set_option maxRecDepth 20000 in
theorem ggL_acts_X6_worth : GoodIn wsL_acts wsX6_worth := goodIn_r _ [313, 133, 14, 224, 139, 140, 12, 141, 240, 241, 242, 243, 244, 245, 246, 247, 248, 249, 250, 251, 252, 253, 254, 255, 157, 158, 67, 159, 160, 161, 73, 162, 74, 163, 164, 165, 166, 167, 168, 169, 170, 171, 30, 172, 42, 36, 63, 150, 173, 104, 174, 175, 176, 177, 178, 24, 179, 26, 180, 108, 57, 109, 181, 182, 183, 184, 185, 226, 48, 49, 50, 314, 204, 205, 206, 422, 423, 424, 425, 426, 427, 428, 429, 430, 431, 432, 433, 434, 435, 436, 437, 438, 439, 440, 441, 442, 454, 455, 444, 445, 446, 447, 448, 449, 450, 451, 443] rfl (by decide +kernel)
set_option maxRecDepth 20000 in
theorem gL_acts_X6_worth : GoodIn wsL_acts (wsV RL 106 RX6 yX6_worth wsX6_worth) := goodIn_app (goodIn_of _ (by decide +kernel)) ggL_acts_X6_worth
set_option maxRecDepth 20000 in
theorem ggL_acts_X6_count : GoodIn wsL_acts wsX6_count := goodIn_r _ [13, 14, 15, 16, 17, 18, 19, 20, 21, 22, 23, 24, 25, 26, 27, 28, 29, 30, 31, 32, 33, 34, 35, 36, 37, 38, 39, 40, 41, 42, 43, 44, 45, 46, 47, 48, 49, 50, 51, 52, 53, 54, 55, 56, 57, 58, 59, 60, 61, 62, 63, 64, 65, 66, 67, 68, 69, 70, 71, 72, 73, 74, 75, 76, 77, 78, 79, 80, 81, 82, 83, 84, 85, 86, 87, 88, 89, 12, 90, 91, 92, 93, 94, 95, 96, 97, 98, 99, 100, 101, 102, 103, 104, 105, 106, 107, 108, 109, 110, 111, 112, 113, 114, 115, 116, 117, 118, 119, 120, 121, 122, 123, 124, 125, 126, 127, 128, 129, 130, 131, 132, 133, 134, 422, 423, 424, 425, 426, 427, 428, 429, 430, 431, 432, 433, 434, 435, 436, 437, 438, 439, 440, 441, 442, 443, 444, 445, 446, 447, 448, 449, 450, 451, 452, 453, 454, 455] rfl (by decide +kernel)
set_option maxRecDepth 20000 in
theorem gL_acts_X6_count : GoodIn wsL_acts (wsV RL 13 RX6 yX6_count wsX6_count) := goodIn_app (goodIn_of _ (by decide +kernel)) ggL_acts_X6_count
set_option maxRecDepth 20000 in
theorem ggL_acts_X6_set : GoodIn wsL_acts wsX6_set := goodIn_r _ [318, 133, 14, 19, 129, 130, 139, 140, 12, 141, 240, 241, 242, 243, 244, 245, 246, 247, 248, 249, 250, 251, 252, 253, 254, 255, 157, 158, 67, 159, 160, 161, 73, 162, 74, 163, 164, 165, 166, 167, 168, 169, 170, 171, 30, 172, 42, 36, 63, 150, 173, 104, 174, 175, 176, 177, 178, 24, 179, 26, 180, 108, 57, 109, 181, 182, 183, 184, 185, 422, 423, 424, 425, 426, 427, 428, 429, 430, 431, 432, 433, 434, 435, 436, 437, 438, 439, 440, 441, 442, 444, 445, 446, 447, 448, 449, 450, 451, 454, 455, 443] rfl (by decide +kernel)
set_option maxRecDepth 20000 in
theorem gL_acts_X6_set : GoodIn wsL_acts (wsV RL 109 RX6 yX6_set wsX6_set) := goodIn_app (goodIn_of _ (by decide +kernel)) ggL_acts_X6_set
set_option maxRecDepth 20000 in
theorem ggL_acts_X6_empty : GoodIn wsL_acts wsX6_empty := goodIn_r _ [322, 133, 14, 16, 240, 241, 242, 243, 244, 245, 246, 247, 248, 249, 250, 251, 252, 253, 254, 255, 157, 158, 67, 159, 160, 161, 73, 162, 74, 163, 164, 165, 166, 167, 168, 169, 170, 171, 30, 172, 42, 36, 63, 150, 173, 104, 174, 175, 176, 177, 178, 24, 179, 26, 180, 108, 57, 109, 181, 182, 183, 184, 185, 323, 324, 325, 326, 327, 22, 23, 25, 328, 329, 330, 331, 332, 333, 334, 335, 422, 423, 424, 425, 426, 427, 428, 429, 430, 431, 432, 433, 434, 435, 436, 437, 438, 439, 440, 441, 442, 454, 455, 444, 445, 446, 447, 448, 449, 450, 451, 443] rfl (by decide +kernel)
set_option maxRecDepth 20000 in
theorem gL_acts_X6_empty : GoodIn wsL_acts (wsV RL 112 RX6 yX6_empty wsX6_empty) := goodIn_app (goodIn_of _ (by decide +kernel)) ggL_acts_X6_empty
set_option maxRecDepth 20000 in
theorem ggL_acts_L_texts : GoodIn wsL_acts wsL_texts := goodIn_r _ [338, 1, 2, 3, 4, 5, 339, 340, 341, 12, 342, 131, 132, 343, 344, 345, 346, 347, 348, 349, 350, 351, 352, 139, 140, 141, 353, 354, 355, 356, 357, 358, 204, 205, 24, 206, 26, 359, 360, 361, 362, 363, 9, 10, 11, 13, 14, 15, 16, 17, 18, 19, 20, 21, 22, 23, 25, 27, 28, 29, 30, 31, 32, 33, 34, 35, 36, 37, 38, 39, 40, 41, 42, 43, 44, 45, 46, 47, 48, 49, 50, 51, 52, 53, 54, 55, 56, 57, 58, 59, 60, 61, 62, 63, 64, 65, 66, 67, 68, 69, 70, 71, 72, 73, 74, 75, 76, 77, 78, 79, 80, 81, 82, 83, 84, 85, 86, 87, 88, 89, 90, 91, 92, 93, 94, 95, 96, 97, 98, 99, 100, 101, 102, 103, 104, 105, 106, 107, 108, 109, 110, 111, 112, 113, 114, 115, 116, 117, 118, 119, 120, 121, 122, 123, 124, 125, 126, 127, 128, 129, 130, 133, 134, 268, 269, 270, 271, 272, 273, 274, 275, 276, 226, 277, 278, 279, 280, 220, 221, 222, 223, 224, 225, 227, 228, 229, 230, 231, 232, 233, 234, 235, 364, 365, 366, 367, 368, 369, 370, 371, 372, 373, 374, 375, 376, 377, 378, 379, 380, 381, 382, 383, 384, 385, 386, 387, 388, 389, 390, 391, 392, 393, 240, 241, 242, 243, 244, 245, 246, 247, 248, 249, 250, 251, 252, 253, 254, 255, 157, 158, 159, 160, 161, 162, 163, 164, 165, 166, 167, 168, 169, 170, 171, 172, 150, 173, 174, 175, 176, 177, 178, 179, 180, 181, 182, 183, 184, 185, 394, 395, 396, 397, 398, 399, 323, 324, 325, 326, 327, 328, 329, 330, 331, 332, 333, 334, 335, 400, 186, 187, 188, 189, 190, 191, 192, 193, 194, 146, 147, 148, 149, 195, 196, 197, 198, 199, 200, 201, 202, 203, 207, 208, 209, 210, 211, 212, 213, 214, 215, 216, 217, 218, 219, 401, 402, 403, 404, 405, 406, 407, 408, 409, 410, 422, 423, 424, 425, 426, 427, 428, 429, 430, 431, 452, 453, 443, 432, 433, 434, 435, 436, 437, 438, 439, 440, 441, 442, 444, 445, 446, 447, 448, 449, 450, 451, 454, 455] rfl (by decide +kernel)
set_option maxRecDepth 20000 in
theorem gL_acts_L_texts : GoodIn wsL_acts (va_wsS RL 115 yL_texts wsL_texts) := goodIn_app (goodIn_of _ (by decide +kernel)) ggL_acts_L_texts
set_option maxRecDepth 20000 in
theorem ggL_acts_L_boards : GoodIn wsL_acts wsL_boards := goodIn_r _ [413, 1, 2, 3, 4, 5, 9, 10, 11, 12, 13, 14, 15, 16, 17, 18, 19, 20, 21, 22, 23, 24, 25, 26, 27, 28, 29, 30, 31, 32, 33, 34, 35, 36, 37, 38, 39, 40, 41, 42, 43, 44, 45, 46, 47, 48, 49, 50, 51, 52, 53, 54, 55, 56, 57, 58, 59, 60, 61, 62, 63, 64, 65, 66, 67, 68, 69, 70, 71, 72, 73, 74, 75, 76, 77, 78, 79, 80, 81, 82, 83, 84, 85, 86, 87, 88, 89, 90, 91, 92, 93, 94, 95, 96, 97, 98, 99, 100, 101, 102, 103, 104, 105, 106, 107, 108, 109, 110, 111, 112, 113, 114, 115, 116, 117, 118, 119, 120, 121, 122, 123, 124, 125, 126, 127, 128, 129, 130, 131, 132, 133, 134, 339, 340, 341, 342, 343, 344, 345, 346, 347, 348, 349, 350, 351, 352, 139, 140, 141, 353, 354, 355, 356, 357, 358, 204, 205, 206, 364, 365, 366, 367, 368, 369, 370, 371, 372, 373, 374, 375, 376, 377, 378, 379, 380, 381, 382, 383, 384, 385, 386, 387, 388, 389, 414, 415, 416, 417, 240, 241, 242, 243, 244, 245, 246, 247, 248, 249, 250, 251, 252, 253, 254, 255, 157, 158, 159, 160, 161, 162, 163, 164, 165, 166, 167, 168, 169, 170, 171, 172, 150, 173, 174, 175, 176, 177, 178, 179, 180, 181, 182, 183, 184, 185, 399, 418, 419, 420, 421, 203, 268, 269, 270, 271, 272, 273, 274, 275, 276, 226, 277, 278, 279, 280, 422, 423, 424, 425, 426, 427, 428, 429, 430, 431, 432, 433, 434, 435, 436, 437, 438, 439, 440, 441, 442, 443, 444, 445, 446, 447, 448, 449, 450, 451, 452, 453, 454, 455] rfl (by decide +kernel)
set_option maxRecDepth 20000 in
theorem gL_acts_L_boards : GoodIn wsL_acts (va_wsS RL 118 yL_boards wsL_boards) := goodIn_app (goodIn_of _ (by decide +kernel)) ggL_acts_L_boards
theorem dL_acts_0 : decode cL_acts 0 = .ok (.iload_n 1, 1) := by decide +kernel
theorem dL_acts_1 : decode cL_acts 1 = .ok (.bipush 30, 2) := by decide +kernel
theorem dL_acts_3 : decode cL_acts 3 = .ok (.invokestatic 48, 3) := by decide +kernel
theorem dL_acts_6 : decode cL_acts 6 = .ok (.istore_n 3, 1) := by decide +kernel
theorem dL_acts_7 : decode cL_acts 7 = .ok (.iload_n 3, 1) := by decide +kernel
theorem dL_acts_8 : decode cL_acts 8 = .ok (.bipush 10, 2) := by decide +kernel
theorem dL_acts_10 : decode cL_acts 10 = .ok (.if_icmp .ge 9, 3) := by decide +kernel
theorem dL_acts_13 : decode cL_acts 13 = .ok (.aload_n 0, 1) := by decide +kernel
theorem dL_acts_14 : decode cL_acts 14 = .ok (.iload_n 2, 1) := by decide +kernel
theorem dL_acts_15 : decode cL_acts 15 = .ok (.invokestatic 98, 3) := by decide +kernel
theorem dL_acts_18 : decode cL_acts 18 = .ok (.ireturn, 1) := by decide +kernel
theorem dL_acts_19 : decode cL_acts 19 = .ok (.iload_n 3, 1) := by decide +kernel
theorem dL_acts_20 : decode cL_acts 20 = .ok (.bipush 19, 2) := by decide +kernel
theorem dL_acts_22 : decode cL_acts 22 = .ok (.if_icmp .ge 30, 3) := by decide +kernel
theorem dL_acts_25 : decode cL_acts 25 = .ok (.aload_n 0, 1) := by decide +kernel
theorem dL_acts_26 : decode cL_acts 26 = .ok (.iload_n 3, 1) := by decide +kernel
theorem dL_acts_27 : decode cL_acts 27 = .ok (.bipush 15, 2) := by decide +kernel
theorem dL_acts_29 : decode cL_acts 29 = .ok (.if_icmp .ge 7, 3) := by decide +kernel
theorem dL_acts_32 : decode cL_acts 32 = .ok (.iconst 0, 1) := by decide +kernel
theorem dL_acts_33 : decode cL_acts 33 = .ok (.goto 14, 3) := by decide +kernel
theorem dL_acts_36 : decode cL_acts 36 = .ok (.iload_n 3, 1) := by decide +kernel
theorem dL_acts_37 : decode cL_acts 37 = .ok (.bipush 17, 2) := by decide +kernel
theorem dL_acts_39 : decode cL_acts 39 = .ok (.if_icmp .ge 7, 3) := by decide +kernel
theorem dL_acts_42 : decode cL_acts 42 = .ok (.iconst 1, 1) := by decide +kernel
theorem dL_acts_43 : decode cL_acts 43 = .ok (.goto 4, 3) := by decide +kernel
theorem dL_acts_46 : decode cL_acts 46 = .ok (.iconst 2, 1) := by decide +kernel
theorem dL_acts_47 : decode cL_acts 47 = .ok (.iload_n 2, 1) := by decide +kernel
theorem dL_acts_48 : decode cL_acts 48 = .ok (.invokestatic 102, 3) := by decide +kernel
theorem dL_acts_51 : decode cL_acts 51 = .ok (.ireturn, 1) := by decide +kernel
theorem dL_acts_52 : decode cL_acts 52 = .ok (.iload_n 3, 1) := by decide +kernel
theorem dL_acts_53 : decode cL_acts 53 = .ok (.bipush 21, 2) := by decide +kernel
theorem dL_acts_55 : decode cL_acts 55 = .ok (.if_icmp .ge 119, 3) := by decide +kernel
theorem dL_acts_58 : decode cL_acts 58 = .ok (.iload_n 2, 1) := by decide +kernel
theorem dL_acts_59 : decode cL_acts 59 = .ok (.bipush 8, 2) := by decide +kernel
theorem dL_acts_61 : decode cL_acts 61 = .ok (.invokestatic 48, 3) := by decide +kernel
theorem dL_acts_64 : decode cL_acts 64 = .ok (.istore 4, 2) := by decide +kernel
theorem dL_acts_66 : decode cL_acts 66 = .ok (.iload_n 2, 1) := by decide +kernel
theorem dL_acts_67 : decode cL_acts 67 = .ok (.iconst 3, 1) := by decide +kernel
theorem dL_acts_68 : decode cL_acts 68 = .ok (.ishr, 1) := by decide +kernel
theorem dL_acts_69 : decode cL_acts 69 = .ok (.bipush 11, 2) := by decide +kernel
theorem dL_acts_71 : decode cL_acts 71 = .ok (.invokestatic 48, 3) := by decide +kernel
theorem dL_acts_74 : decode cL_acts 74 = .ok (.istore 5, 2) := by decide +kernel
theorem dL_acts_76 : decode cL_acts 76 = .ok (.iload 4, 2) := by decide +kernel
theorem dL_acts_78 : decode cL_acts 78 = .ok (.bipush 7, 2) := by decide +kernel
theorem dL_acts_80 : decode cL_acts 80 = .ok (.if_icmp .eq 10, 3) := by decide +kernel
theorem dL_acts_83 : decode cL_acts 83 = .ok (.iload 5, 2) := by decide +kernel
theorem dL_acts_85 : decode cL_acts 85 = .ok (.bipush 10, 2) := by decide +kernel
theorem dL_acts_87 : decode cL_acts 87 = .ok (.if_icmp .ne 7, 3) := by decide +kernel
theorem dL_acts_90 : decode cL_acts 90 = .ok (.iconst 1, 1) := by decide +kernel
theorem dL_acts_91 : decode cL_acts 91 = .ok (.goto 4, 3) := by decide +kernel
theorem dL_acts_94 : decode cL_acts 94 = .ok (.iconst 0, 1) := by decide +kernel
theorem dL_acts_95 : decode cL_acts 95 = .ok (.istore 6, 2) := by decide +kernel
theorem dL_acts_97 : decode cL_acts 97 = .ok (.iload 4, 2) := by decide +kernel
theorem dL_acts_99 : decode cL_acts 99 = .ok (.bipush 7, 2) := by decide +kernel
theorem dL_acts_101 : decode cL_acts 101 = .ok (.if_icmp .ne 7, 3) := by decide +kernel
theorem dL_acts_104 : decode cL_acts 104 = .ok (.iconst 0, 1) := by decide +kernel
theorem dL_acts_105 : decode cL_acts 105 = .ok (.goto 10, 3) := by decide +kernel
theorem dL_acts_108 : decode cL_acts 108 = .ok (.aload_n 0, 1) := by decide +kernel
theorem dL_acts_109 : decode cL_acts 109 = .ok (.iload 4, 2) := by decide +kernel
theorem dL_acts_111 : decode cL_acts 111 = .ok (.iconst 0, 1) := by decide +kernel
theorem dL_acts_112 : decode cL_acts 112 = .ok (.invokevirtual 23, 3) := by decide +kernel
theorem dL_acts_115 : decode cL_acts 115 = .ok (.istore 7, 2) := by decide +kernel
theorem dL_acts_117 : decode cL_acts 117 = .ok (.aload_n 0, 1) := by decide +kernel
theorem dL_acts_118 : decode cL_acts 118 = .ok (.iload 4, 2) := by decide +kernel
theorem dL_acts_120 : decode cL_acts 120 = .ok (.iload 5, 2) := by decide +kernel
theorem dL_acts_122 : decode cL_acts 122 = .ok (.invokevirtual 106, 3) := by decide +kernel
theorem dL_acts_125 : decode cL_acts 125 = .ok (.iload 6, 2) := by decide +kernel
theorem dL_acts_127 : decode cL_acts 127 = .ok (.ifCond .eq 7, 3) := by decide +kernel
theorem dL_acts_130 : decode cL_acts 130 = .ok (.iconst (-1), 1) := by decide +kernel
theorem dL_acts_131 : decode cL_acts 131 = .ok (.goto 5, 3) := by decide +kernel
theorem dL_acts_134 : decode cL_acts 134 = .ok (.iload 7, 2) := by decide +kernel
theorem dL_acts_136 : decode cL_acts 136 = .ok (.if_icmp .ne 36, 3) := by decide +kernel
theorem dL_acts_139 : decode cL_acts 139 = .ok (.iload 4, 2) := by decide +kernel
theorem dL_acts_141 : decode cL_acts 141 = .ok (.bipush 7, 2) := by decide +kernel
theorem dL_acts_143 : decode cL_acts 143 = .ok (.if_icmp .eq 25, 3) := by decide +kernel
theorem dL_acts_146 : decode cL_acts 146 = .ok (.aload_n 0, 1) := by decide +kernel
theorem dL_acts_147 : decode cL_acts 147 = .ok (.iload 4, 2) := by decide +kernel
theorem dL_acts_149 : decode cL_acts 149 = .ok (.iconst 0, 1) := by decide +kernel
theorem dL_acts_150 : decode cL_acts 150 = .ok (.invokevirtual 23, 3) := by decide +kernel
theorem dL_acts_153 : decode cL_acts 153 = .ok (.iload 6, 2) := by decide +kernel
theorem dL_acts_155 : decode cL_acts 155 = .ok (.ifCond .eq 8, 3) := by decide +kernel
theorem dL_acts_158 : decode cL_acts 158 = .ok (.iload 7, 2) := by decide +kernel
theorem dL_acts_160 : decode cL_acts 160 = .ok (.goto 5, 3) := by decide +kernel
theorem dL_acts_163 : decode cL_acts 163 = .ok (.iload 5, 2) := by decide +kernel
theorem dL_acts_165 : decode cL_acts 165 = .ok (.if_icmp .ne 7, 3) := by decide +kernel
theorem dL_acts_168 : decode cL_acts 168 = .ok (.iconst 1, 1) := by decide +kernel
theorem dL_acts_169 : decode cL_acts 169 = .ok (.goto 4, 3) := by decide +kernel
theorem dL_acts_172 : decode cL_acts 172 = .ok (.iconst 0, 1) := by decide +kernel
theorem dL_acts_173 : decode cL_acts 173 = .ok (.ireturn, 1) := by decide +kernel
theorem dL_acts_174 : decode cL_acts 174 = .ok (.iload_n 3, 1) := by decide +kernel
theorem dL_acts_175 : decode cL_acts 175 = .ok (.bipush 23, 2) := by decide +kernel
theorem dL_acts_177 : decode cL_acts 177 = .ok (.if_icmp .ge 141, 3) := by decide +kernel
theorem dL_acts_180 : decode cL_acts 180 = .ok (.iload_n 2, 1) := by decide +kernel
theorem dL_acts_181 : decode cL_acts 181 = .ok (.iconst 3, 1) := by decide +kernel
theorem dL_acts_182 : decode cL_acts 182 = .ok (.invokestatic 48, 3) := by decide +kernel
theorem dL_acts_185 : decode cL_acts 185 = .ok (.istore 4, 2) := by decide +kernel
theorem dL_acts_187 : decode cL_acts 187 = .ok (.iload_n 2, 1) := by decide +kernel
theorem dL_acts_188 : decode cL_acts 188 = .ok (.iconst 2, 1) := by decide +kernel
theorem dL_acts_189 : decode cL_acts 189 = .ok (.ishr, 1) := by decide +kernel
theorem dL_acts_190 : decode cL_acts 190 = .ok (.bipush 11, 2) := by decide +kernel
theorem dL_acts_192 : decode cL_acts 192 = .ok (.invokestatic 48, 3) := by decide +kernel
theorem dL_acts_195 : decode cL_acts 195 = .ok (.istore 5, 2) := by decide +kernel
theorem dL_acts_197 : decode cL_acts 197 = .ok (.iload 4, 2) := by decide +kernel
theorem dL_acts_199 : decode cL_acts 199 = .ok (.iconst 2, 1) := by decide +kernel
theorem dL_acts_200 : decode cL_acts 200 = .ok (.if_icmp .eq 32, 3) := by decide +kernel
theorem dL_acts_203 : decode cL_acts 203 = .ok (.iload 4, 2) := by decide +kernel
theorem dL_acts_205 : decode cL_acts 205 = .ok (.ifCond .ne 9, 3) := by decide +kernel
theorem dL_acts_208 : decode cL_acts 208 = .ok (.iload 5, 2) := by decide +kernel
theorem dL_acts_210 : decode cL_acts 210 = .ok (.iconst 2, 1) := by decide +kernel
theorem dL_acts_211 : decode cL_acts 211 = .ok (.if_icmp .gt 21, 3) := by decide +kernel
theorem dL_acts_214 : decode cL_acts 214 = .ok (.iload 4, 2) := by decide +kernel
theorem dL_acts_216 : decode cL_acts 216 = .ok (.iconst 1, 1) := by decide +kernel
theorem dL_acts_217 : decode cL_acts 217 = .ok (.if_icmp .ne 19, 3) := by decide +kernel
theorem dL_acts_220 : decode cL_acts 220 = .ok (.iload 5, 2) := by decide +kernel
theorem dL_acts_222 : decode cL_acts 222 = .ok (.ifCond .eq 10, 3) := by decide +kernel
theorem dL_acts_225 : decode cL_acts 225 = .ok (.iload 5, 2) := by decide +kernel
theorem dL_acts_227 : decode cL_acts 227 = .ok (.bipush 10, 2) := by decide +kernel
theorem dL_acts_229 : decode cL_acts 229 = .ok (.if_icmp .ne 7, 3) := by decide +kernel
theorem dL_acts_232 : decode cL_acts 232 = .ok (.iconst 1, 1) := by decide +kernel
theorem dL_acts_233 : decode cL_acts 233 = .ok (.goto 4, 3) := by decide +kernel
theorem dL_acts_236 : decode cL_acts 236 = .ok (.iconst 0, 1) := by decide +kernel
theorem dL_acts_237 : decode cL_acts 237 = .ok (.istore 6, 2) := by decide +kernel
theorem dL_acts_239 : decode cL_acts 239 = .ok (.iload 4, 2) := by decide +kernel
theorem dL_acts_241 : decode cL_acts 241 = .ok (.iconst 2, 1) := by decide +kernel
theorem dL_acts_242 : decode cL_acts 242 = .ok (.if_icmp .ne 7, 3) := by decide +kernel
theorem dL_acts_245 : decode cL_acts 245 = .ok (.iconst 0, 1) := by decide +kernel
theorem dL_acts_246 : decode cL_acts 246 = .ok (.goto 12, 3) := by decide +kernel
theorem dL_acts_249 : decode cL_acts 249 = .ok (.aload_n 0, 1) := by decide +kernel
theorem dL_acts_250 : decode cL_acts 250 = .ok (.bipush 15, 2) := by decide +kernel
theorem dL_acts_252 : decode cL_acts 252 = .ok (.iload 4, 2) := by decide +kernel
theorem dL_acts_254 : decode cL_acts 254 = .ok (.iadd, 1) := by decide +kernel
theorem dL_acts_255 : decode cL_acts 255 = .ok (.invokevirtual 13, 3) := by decide +kernel
theorem dL_acts_258 : decode cL_acts 258 = .ok (.istore 7, 2) := by decide +kernel
theorem dL_acts_260 : decode cL_acts 260 = .ok (.aload_n 0, 1) := by decide +kernel
theorem dL_acts_261 : decode cL_acts 261 = .ok (.iload 4, 2) := by decide +kernel
theorem dL_acts_263 : decode cL_acts 263 = .ok (.iload 5, 2) := by decide +kernel
theorem dL_acts_265 : decode cL_acts 265 = .ok (.invokevirtual 109, 3) := by decide +kernel
theorem dL_acts_268 : decode cL_acts 268 = .ok (.iload 6, 2) := by decide +kernel
theorem dL_acts_270 : decode cL_acts 270 = .ok (.ifCond .eq 7, 3) := by decide +kernel
theorem dL_acts_273 : decode cL_acts 273 = .ok (.iconst (-1), 1) := by decide +kernel
theorem dL_acts_274 : decode cL_acts 274 = .ok (.goto 5, 3) := by decide +kernel
theorem dL_acts_277 : decode cL_acts 277 = .ok (.iload 7, 2) := by decide +kernel
theorem dL_acts_279 : decode cL_acts 279 = .ok (.if_icmp .ne 37, 3) := by decide +kernel
theorem dL_acts_282 : decode cL_acts 282 = .ok (.iload 4, 2) := by decide +kernel
theorem dL_acts_284 : decode cL_acts 284 = .ok (.iconst 2, 1) := by decide +kernel
theorem dL_acts_285 : decode cL_acts 285 = .ok (.if_icmp .eq 27, 3) := by decide +kernel
theorem dL_acts_288 : decode cL_acts 288 = .ok (.aload_n 0, 1) := by decide +kernel
theorem dL_acts_289 : decode cL_acts 289 = .ok (.bipush 15, 2) := by decide +kernel
theorem dL_acts_291 : decode cL_acts 291 = .ok (.iload 4, 2) := by decide +kernel
theorem dL_acts_293 : decode cL_acts 293 = .ok (.iadd, 1) := by decide +kernel
theorem dL_acts_294 : decode cL_acts 294 = .ok (.invokevirtual 13, 3) := by decide +kernel
theorem dL_acts_297 : decode cL_acts 297 = .ok (.iload 6, 2) := by decide +kernel
theorem dL_acts_299 : decode cL_acts 299 = .ok (.ifCond .eq 8, 3) := by decide +kernel
theorem dL_acts_302 : decode cL_acts 302 = .ok (.iload 7, 2) := by decide +kernel
theorem dL_acts_304 : decode cL_acts 304 = .ok (.goto 5, 3) := by decide +kernel
theorem dL_acts_307 : decode cL_acts 307 = .ok (.iload 5, 2) := by decide +kernel
theorem dL_acts_309 : decode cL_acts 309 = .ok (.if_icmp .ne 7, 3) := by decide +kernel
theorem dL_acts_312 : decode cL_acts 312 = .ok (.iconst 1, 1) := by decide +kernel
theorem dL_acts_313 : decode cL_acts 313 = .ok (.goto 4, 3) := by decide +kernel
theorem dL_acts_316 : decode cL_acts 316 = .ok (.iconst 0, 1) := by decide +kernel
theorem dL_acts_317 : decode cL_acts 317 = .ok (.ireturn, 1) := by decide +kernel
theorem dL_acts_318 : decode cL_acts 318 = .ok (.iload_n 3, 1) := by decide +kernel
theorem dL_acts_319 : decode cL_acts 319 = .ok (.bipush 23, 2) := by decide +kernel
theorem dL_acts_321 : decode cL_acts 321 = .ok (.if_icmp .ne 49, 3) := by decide +kernel
theorem dL_acts_324 : decode cL_acts 324 = .ok (.aload_n 0, 1) := by decide +kernel
theorem dL_acts_325 : decode cL_acts 325 = .ok (.invokevirtual 112, 3) := by decide +kernel
theorem dL_acts_328 : decode cL_acts 328 = .ok (.bipush 20, 2) := by decide +kernel
theorem dL_acts_330 : decode cL_acts 330 = .ok (.if_icmp .ne 38, 3) := by decide +kernel
theorem dL_acts_333 : decode cL_acts 333 = .ok (.aload_n 0, 1) := by decide +kernel
theorem dL_acts_334 : decode cL_acts 334 = .ok (.iconst 1, 1) := by decide +kernel
theorem dL_acts_335 : decode cL_acts 335 = .ok (.invokevirtual 13, 3) := by decide +kernel
theorem dL_acts_338 : decode cL_acts 338 = .ok (.bipush 20, 2) := by decide +kernel
theorem dL_acts_340 : decode cL_acts 340 = .ok (.if_icmp .ne 28, 3) := by decide +kernel
theorem dL_acts_343 : decode cL_acts 343 = .ok (.aload_n 0, 1) := by decide +kernel
theorem dL_acts_344 : decode cL_acts 344 = .ok (.iconst 2, 1) := by decide +kernel
theorem dL_acts_345 : decode cL_acts 345 = .ok (.invokevirtual 13, 3) := by decide +kernel
theorem dL_acts_348 : decode cL_acts 348 = .ok (.aload_n 0, 1) := by decide +kernel
theorem dL_acts_349 : decode cL_acts 349 = .ok (.iconst 3, 1) := by decide +kernel
theorem dL_acts_350 : decode cL_acts 350 = .ok (.invokevirtual 13, 3) := by decide +kernel
theorem dL_acts_353 : decode cL_acts 353 = .ok (.iadd, 1) := by decide +kernel
theorem dL_acts_354 : decode cL_acts 354 = .ok (.aload_n 0, 1) := by decide +kernel
theorem dL_acts_355 : decode cL_acts 355 = .ok (.bipush 8, 2) := by decide +kernel
theorem dL_acts_357 : decode cL_acts 357 = .ok (.invokevirtual 13, 3) := by decide +kernel
theorem dL_acts_360 : decode cL_acts 360 = .ok (.iadd, 1) := by decide +kernel
theorem dL_acts_361 : decode cL_acts 361 = .ok (.ifCond .ne 7, 3) := by decide +kernel
theorem dL_acts_364 : decode cL_acts 364 = .ok (.iconst 1, 1) := by decide +kernel
theorem dL_acts_365 : decode cL_acts 365 = .ok (.goto 4, 3) := by decide +kernel
theorem dL_acts_368 : decode cL_acts 368 = .ok (.iconst 0, 1) := by decide +kernel
theorem dL_acts_369 : decode cL_acts 369 = .ok (.ireturn, 1) := by decide +kernel
theorem dL_acts_370 : decode cL_acts 370 = .ok (.iload_n 3, 1) := by decide +kernel
theorem dL_acts_371 : decode cL_acts 371 = .ok (.bipush 27, 2) := by decide +kernel
theorem dL_acts_373 : decode cL_acts 373 = .ok (.if_icmp .ge 11, 3) := by decide +kernel
theorem dL_acts_376 : decode cL_acts 376 = .ok (.aload_n 0, 1) := by decide +kernel
theorem dL_acts_377 : decode cL_acts 377 = .ok (.iload_n 2, 1) := by decide +kernel
theorem dL_acts_378 : decode cL_acts 378 = .ok (.invokestatic 115, 3) := by decide +kernel
theorem dL_acts_381 : decode cL_acts 381 = .ok (.goto 8, 3) := by decide +kernel
theorem dL_acts_384 : decode cL_acts 384 = .ok (.aload_n 0, 1) := by decide +kernel
theorem dL_acts_385 : decode cL_acts 385 = .ok (.iload_n 2, 1) := by decide +kernel
theorem dL_acts_386 : decode cL_acts 386 = .ok (.invokestatic 118, 3) := by decide +kernel
theorem dL_acts_389 : decode cL_acts 389 = .ok (.ireturn, 1) := by decide +kernel
