set_option maxRecDepth 20000 in
theorem ggL_law_X6_init : GoodIn wsL_law wsX6_init := goodIn_r _ [8, 9, 10, 11, 12, 13, 14, 15, 16, 17, 18, 19, 20, 21, 22, 23, 24, 25, 26, 27, 28, 29, 30, 31, 32, 33, 34, 35, 36, 37, 38, 39, 40, 41, 42, 43, 44, 45, 46, 47, 48, 49, 50, 51, 52, 53, 54, 55, 56, 57, 58, 59, 60, 61, 62, 63, 64, 65, 66, 67, 68, 69, 70, 71, 72, 73, 74, 75, 76, 77, 78, 79, 80, 81, 82, 83, 84, 85, 86, 87, 88, 89, 90, 91, 92, 93, 94, 95, 96, 97, 98, 99, 100, 101, 102, 103, 104, 809, 810, 811, 812, 813, 814, 815, 816, 817, 818, 819, 782, 783, 784, 785, 786, 787, 788, 789, 790, 791, 820, 821, 822, 823, 824, 825, 826, 827, 828, 829, 830, 831, 832, 833, 834] rfl (by decide +kernel)
set_option maxRecDepth 20000 in
theorem gL_law_X6_init : GoodIn wsL_law (wsX6_init) := ggL_law_X6_init
set_option maxRecDepth 20000 in
theorem ggL_law_X7_init : GoodIn wsL_law wsX7_init := goodIn_r _ [107, 108, 10, 11, 76, 109, 110, 111, 112, 113, 114, 115, 116, 792, 793, 794, 795, 796, 797, 798, 799, 800, 801, 802, 803, 804, 805, 806, 807, 808] rfl (by decide +kernel)
set_option maxRecDepth 20000 in
theorem gL_law_X7_init : GoodIn wsL_law (wsX7_init) := ggL_law_X7_init
set_option maxRecDepth 20000 in
theorem ggL_law_X6_shoot : GoodIn wsL_law wsX6_shoot := goodIn_r _ [120, 22, 15, 121, 122, 2, 123, 124, 125, 126, 21, 127, 89, 88, 128, 129, 130, 131, 132, 133, 134, 135, 136, 137, 138, 14, 139, 41, 45, 46, 47, 48, 49, 50, 51, 52, 53, 54, 140, 141, 142, 40, 143, 63, 64, 65, 66, 67, 68, 69, 70, 144, 145, 146, 44, 147, 77, 148, 149, 57, 150, 151, 152, 153, 154, 155, 156, 157, 158, 159, 160, 161, 162, 163, 164, 165, 166, 167, 168, 169, 170, 171, 172, 173, 174, 175, 176, 177, 178, 179, 180, 181, 182, 183, 184, 185, 186, 187, 188, 189, 190, 191, 80, 81, 82, 192, 193, 194, 195, 196, 197, 198, 199, 200, 201, 202, 203, 56, 58, 204, 205, 206, 207, 208, 209, 210, 211, 212, 213, 782, 783, 784, 785, 786, 787, 788, 789, 790, 791, 820, 821, 809, 810, 811, 812, 813, 814, 815, 816, 817, 818, 819, 826, 827, 828, 829, 830, 831, 832, 833, 834] rfl (by decide +kernel)
set_option maxRecDepth 20000 in
theorem gL_law_X6_shoot : GoodIn wsL_law (wsV RL 13 RX6 yX6_shoot wsX6_shoot) := goodIn_app (goodIn_of _ (by decide +kernel)) ggL_law_X6_shoot
set_option maxRecDepth 20000 in
theorem ggL_law_X7_shoot : GoodIn wsL_law wsX7_shoot := goodIn_r _ [217, 218, 219, 5, 220, 221, 222, 223, 224, 225, 226, 227, 228, 111, 109, 229, 230, 231, 232, 233, 234, 235, 236, 237, 238, 239, 240, 241, 242, 243, 244, 245, 246, 247, 248, 249, 250, 251, 252, 253, 254, 255, 256, 257, 258, 259, 260, 261, 262, 263, 264, 265, 266, 267, 268, 269, 270, 271, 272, 273, 274, 275, 792, 793, 794, 795, 796, 797, 798, 799, 800, 801, 802, 803, 804, 805, 806, 807, 808] rfl (by decide +kernel)
set_option maxRecDepth 20000 in
theorem gL_law_X7_shoot : GoodIn wsL_law (wsV RL 17 RX7 yX7_shoot wsX7_shoot) := goodIn_app (goodIn_of _ (by decide +kernel)) ggL_law_X7_shoot
set_option maxRecDepth 20000 in
theorem ggL_law_X6_bend : GoodIn wsL_law wsX6_bend := goodIn_r _ [279, 22, 15, 121, 122, 2, 123, 124, 125, 126, 21, 127, 89, 88, 128, 129, 130, 131, 132, 133, 134, 135, 136, 137, 138, 14, 139, 41, 45, 46, 47, 48, 49, 50, 51, 52, 53, 54, 140, 141, 142, 40, 143, 63, 64, 65, 66, 67, 68, 69, 70, 144, 145, 146, 44, 147, 77, 148, 149, 57, 150, 151, 152, 153, 154, 155, 280, 281, 282, 283, 284, 285, 172, 173, 174, 175, 176, 177, 178, 286, 193, 194, 195, 287, 197, 198, 199, 187, 188, 189, 190, 213, 782, 783, 784, 785, 786, 787, 788, 789, 790, 791, 820, 821, 809, 810, 811, 812, 813, 814, 815, 816, 817, 818, 819, 826, 827, 828, 829, 830, 831, 832, 833, 834] rfl (by decide +kernel)
set_option maxRecDepth 20000 in
theorem gL_law_X6_bend : GoodIn wsL_law (wsV RL 18 RX6 yX6_bend wsX6_bend) := goodIn_app (goodIn_of _ (by decide +kernel)) ggL_law_X6_bend
set_option maxRecDepth 20000 in
theorem ggL_law_X7_bend : GoodIn wsL_law wsX7_bend := goodIn_r _ [291, 109, 292, 293, 5, 294, 221, 222, 223, 224, 225, 226, 227, 228, 111, 229, 230, 231, 245, 246, 247, 248, 249, 250, 251, 252, 792, 793, 794, 795, 796, 797, 798, 799, 800, 801, 802, 803, 804, 805, 806, 807, 808] rfl (by decide +kernel)
set_option maxRecDepth 20000 in
theorem gL_law_X7_bend : GoodIn wsL_law (wsV RL 21 RX7 yX7_bend wsX7_bend) := goodIn_app (goodIn_of _ (by decide +kernel)) ggL_law_X7_bend
set_option maxRecDepth 20000 in
theorem ggL_law_X6_pull : GoodIn wsL_law wsX6_pull := goodIn_r _ [298, 22, 15, 299, 121, 122, 2, 123, 124, 125, 126, 21, 127, 89, 88, 128, 129, 130, 131, 132, 133, 134, 135, 136, 137, 138, 14, 139, 41, 45, 46, 47, 48, 49, 50, 51, 52, 53, 54, 140, 141, 142, 40, 143, 63, 64, 65, 66, 67, 68, 69, 70, 144, 145, 146, 44, 147, 77, 148, 149, 57, 150, 151, 152, 153, 154, 155, 300, 301, 302, 303, 175, 176, 177, 178, 191, 80, 81, 82, 304, 305, 306, 307, 308, 309, 310, 311, 782, 783, 784, 785, 786, 787, 788, 789, 790, 791, 809, 810, 811, 812, 813, 814, 815, 816, 817, 818, 819, 820, 821, 826, 827, 828, 829, 830, 831, 832, 833, 834] rfl (by decide +kernel)
set_option maxRecDepth 20000 in
theorem gL_law_X6_pull : GoodIn wsL_law (wsV RL 22 RX6 yX6_pull wsX6_pull) := goodIn_app (goodIn_of _ (by decide +kernel)) ggL_law_X6_pull
set_option maxRecDepth 20000 in
theorem ggL_law_X7_pull : GoodIn wsL_law wsX7_pull := goodIn_r _ [315, 292, 293, 5, 294, 221, 222, 223, 224, 225, 226, 227, 228, 111, 109, 229, 230, 231, 245, 246, 247, 248, 249, 250, 251, 252, 316, 317, 318, 319, 792, 793, 794, 795, 796, 797, 798, 799, 800, 801, 802, 803, 804, 805, 806, 807, 808] rfl (by decide +kernel)
set_option maxRecDepth 20000 in
theorem gL_law_X7_pull : GoodIn wsL_law (wsV RL 26 RX7 yX7_pull wsX7_pull) := goodIn_app (goodIn_of _ (by decide +kernel)) ggL_law_X7_pull
