set_option maxRecDepth 20000 in
theorem ggL_law_X6_append : GoodIn wsL_law wsX6_append := goodIn_r _ [390, 30, 391, 121, 122, 2, 123, 392, 393, 394, 29, 395, 102, 103, 396, 80, 81, 44, 82, 77, 782, 783, 784, 785, 786, 787, 788, 789, 790, 791, 824, 825, 834] rfl (by decide +kernel)
set_option maxRecDepth 20000 in
theorem gL_law_X6_append : GoodIn wsL_law (wsV RL 45 RX6 yX6_append wsX6_append) := goodIn_app (goodIn_of _ (by decide +kernel)) ggL_law_X6_append
set_option maxRecDepth 20000 in
theorem ggL_law_X7_append : GoodIn wsL_law wsX7_append := goodIn_r _ [400, 401, 113, 221, 222, 5, 223, 792, 793, 794, 795, 796, 797, 798, 799, 800, 801, 802, 803, 804, 805, 806, 807, 808] rfl (by decide +kernel)
set_option maxRecDepth 20000 in
theorem gL_law_X7_append : GoodIn wsL_law (wsV RL 48 RX7 yX7_append wsX7_append) := goodIn_app (goodIn_of _ (by decide +kernel)) ggL_law_X7_append
set_option maxRecDepth 20000 in
theorem ggL_law_X6_clear : GoodIn wsL_law wsX6_clear := goodIn_r _ [405, 30, 391, 406, 407, 408, 29, 409, 103, 782, 783, 784, 785, 786, 787, 788, 789, 790, 791, 824, 825] rfl (by decide +kernel)
set_option maxRecDepth 20000 in
theorem gL_law_X6_clear : GoodIn wsL_law (wsV RL 49 RX6 yX6_clear wsX6_clear) := goodIn_app (goodIn_of _ (by decide +kernel)) ggL_law_X6_clear
set_option maxRecDepth 20000 in
theorem ggL_law_X7_clear : GoodIn wsL_law wsX7_clear := goodIn_r _ [413, 401, 792, 793, 794, 795, 796, 797, 798, 799, 800, 801, 802, 803, 804, 805, 806, 807, 808] rfl (by decide +kernel)
set_option maxRecDepth 20000 in
theorem gL_law_X7_clear : GoodIn wsL_law (wsV RL 52 RX7 yX7_clear wsX7_clear) := goodIn_app (goodIn_of _ (by decide +kernel)) ggL_law_X7_clear
set_option maxRecDepth 20000 in
theorem ggL_law_X6_fault : GoodIn wsL_law wsX6_fault := goodIn_r _ [417, 30, 418, 419, 420, 29, 421, 103, 422, 423, 424, 425, 102, 426, 176, 177, 44, 178, 77, 427, 428, 429, 430, 431, 432, 433, 434, 435, 436, 437, 438, 439, 122, 2, 123, 782, 783, 784, 785, 786, 787, 788, 789, 790, 791, 824, 825, 834] rfl (by decide +kernel)
set_option maxRecDepth 20000 in
theorem gL_law_X6_fault : GoodIn wsL_law (wsV RL 53 RX6 yX6_fault wsX6_fault) := goodIn_app (goodIn_of _ (by decide +kernel)) ggL_law_X6_fault
set_option maxRecDepth 20000 in
theorem ggL_law_X7_fault : GoodIn wsL_law wsX7_fault := goodIn_r _ [443, 444, 221, 222, 5, 223, 445, 446, 447, 448, 401, 449, 450, 451, 452, 113, 453, 454, 455, 456, 457, 458, 459, 460, 461, 462, 463, 464, 465, 466, 218, 219, 220, 467, 468, 469, 470, 792, 793, 794, 795, 796, 797, 798, 799, 800, 801, 802, 803, 804, 805, 806, 807, 808] rfl (by decide +kernel)
set_option maxRecDepth 20000 in
theorem gL_law_X7_fault : GoodIn wsL_law (wsV RL 56 RX7 yX7_fault wsX7_fault) := goodIn_app (goodIn_of _ (by decide +kernel)) ggL_law_X7_fault
set_option maxRecDepth 20000 in
theorem ggL_law_X6_board : GoodIn wsL_law wsX6_board := goodIn_r _ [474, 30, 22, 15, 299, 418, 419, 420, 29, 421, 103, 422, 423, 424, 425, 102, 426, 176, 177, 44, 178, 77, 427, 428, 429, 124, 125, 126, 21, 127, 89, 88, 128, 129, 130, 131, 132, 133, 134, 135, 136, 137, 138, 14, 139, 41, 45, 46, 47, 48, 49, 50, 51, 52, 53, 54, 140, 141, 142, 40, 143, 63, 64, 65, 66, 67, 68, 69, 70, 144, 145, 146, 147, 148, 149, 57, 150, 151, 152, 153, 154, 155, 475, 476, 477, 478, 479, 191, 80, 81, 82, 406, 407, 408, 409, 480, 481, 482, 483, 484, 305, 306, 307, 308, 309, 310, 311, 782, 783, 784, 785, 786, 787, 788, 789, 790, 791, 809, 810, 811, 812, 813, 814, 815, 816, 817, 818, 819, 824, 825, 834, 820, 821, 826, 827, 828, 829, 830, 831, 832, 833] rfl (by decide +kernel)
set_option maxRecDepth 20000 in
theorem gL_law_X6_board : GoodIn wsL_law (wsV RL 57 RX6 yX6_board wsX6_board) := goodIn_app (goodIn_of _ (by decide +kernel)) ggL_law_X6_board
set_option maxRecDepth 20000 in
theorem ggL_law_X7_board : GoodIn wsL_law wsX7_board := goodIn_r _ [488, 113, 401, 445, 446, 447, 5, 448, 444, 449, 450, 451, 452, 453, 454, 455, 224, 225, 226, 227, 228, 111, 109, 229, 230, 231, 249, 250, 251, 252, 316, 317, 318, 319, 245, 246, 247, 248, 792, 793, 794, 795, 796, 797, 798, 799, 800, 801, 802, 803, 804, 805, 806, 807, 808] rfl (by decide +kernel)
set_option maxRecDepth 20000 in
theorem gL_law_X7_board : GoodIn wsL_law (wsV RL 60 RX7 yX7_board wsX7_board) := goodIn_app (goodIn_of _ (by decide +kernel)) ggL_law_X7_board
