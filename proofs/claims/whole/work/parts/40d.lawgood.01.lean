set_option maxRecDepth 20000 in
theorem ggL_law_X6_bell : GoodIn wsL_law wsX6_bell := goodIn_r _ [323, 22, 15, 299, 121, 122, 2, 123, 124, 125, 126, 21, 127, 89, 88, 128, 129, 130, 131, 132, 133, 134, 135, 136, 137, 138, 14, 139, 41, 45, 46, 47, 48, 49, 50, 51, 52, 53, 54, 140, 141, 142, 40, 143, 63, 64, 65, 66, 67, 68, 69, 70, 144, 145, 146, 44, 147, 77, 148, 149, 57, 150, 151, 152, 153, 154, 155, 324, 325, 326, 327, 175, 176, 177, 178, 191, 80, 81, 82, 328, 329, 330, 331, 308, 309, 310, 311, 782, 783, 784, 785, 786, 787, 788, 789, 790, 791, 809, 810, 811, 812, 813, 814, 815, 816, 817, 818, 819, 820, 821, 826, 827, 828, 829, 830, 831, 832, 833, 834] rfl (by decide +kernel)
set_option maxRecDepth 20000 in
theorem gL_law_X6_bell : GoodIn wsL_law (wsV RL 27 RX6 yX6_bell wsX6_bell) := goodIn_app (goodIn_of _ (by decide +kernel)) ggL_law_X6_bell
set_option maxRecDepth 20000 in
theorem ggL_law_X7_bell : GoodIn wsL_law wsX7_bell := goodIn_r _ [335, 292, 293, 5, 294, 221, 222, 223, 224, 225, 226, 227, 228, 111, 109, 229, 230, 231, 245, 246, 247, 248, 249, 250, 251, 252, 336, 337, 338, 339, 792, 793, 794, 795, 796, 797, 798, 799, 800, 801, 802, 803, 804, 805, 806, 807, 808] rfl (by decide +kernel)
set_option maxRecDepth 20000 in
theorem gL_law_X7_bell : GoodIn wsL_law (wsV RL 30 RX7 yX7_bell wsX7_bell) := goodIn_app (goodIn_of _ (by decide +kernel)) ggL_law_X7_bell
set_option maxRecDepth 20000 in
theorem ggL_law_X6_worth : GoodIn wsL_law wsX6_worth := goodIn_r _ [343, 22, 15, 344, 121, 122, 2, 123, 124, 125, 126, 21, 127, 89, 88, 128, 129, 130, 131, 132, 133, 134, 135, 136, 137, 138, 14, 139, 41, 45, 46, 47, 48, 49, 50, 51, 52, 53, 54, 140, 141, 142, 40, 143, 63, 64, 65, 66, 67, 68, 69, 70, 144, 145, 146, 44, 147, 77, 148, 149, 57, 150, 151, 152, 153, 154, 155, 345, 176, 177, 178, 346, 80, 81, 82, 782, 783, 784, 785, 786, 787, 788, 789, 790, 791, 809, 810, 811, 812, 813, 814, 815, 816, 817, 818, 819, 820, 821, 826, 827, 828, 829, 830, 831, 832, 833, 834] rfl (by decide +kernel)
set_option maxRecDepth 20000 in
theorem gL_law_X6_worth : GoodIn wsL_law (wsV RL 31 RX6 yX6_worth wsX6_worth) := goodIn_app (goodIn_of _ (by decide +kernel)) ggL_law_X6_worth
set_option maxRecDepth 20000 in
theorem ggL_law_X7_worth : GoodIn wsL_law wsX7_worth := goodIn_r _ [350, 218, 219, 5, 220, 221, 222, 223, 224, 225, 226, 227, 228, 111, 109, 229, 230, 231, 272, 273, 274, 275, 264, 265, 266, 267, 792, 793, 794, 795, 796, 797, 798, 799, 800, 801, 802, 803, 804, 805, 806, 807, 808] rfl (by decide +kernel)
set_option maxRecDepth 20000 in
theorem gL_law_X7_worth : GoodIn wsL_law (wsV RL 35 RX7 yX7_worth wsX7_worth) := goodIn_app (goodIn_of _ (by decide +kernel)) ggL_law_X7_worth
set_option maxRecDepth 20000 in
theorem ggL_law_X6_set : GoodIn wsL_law wsX6_set := goodIn_r _ [354, 22, 15, 299, 355, 356, 121, 122, 2, 123, 124, 125, 126, 21, 127, 89, 88, 128, 129, 130, 131, 132, 133, 134, 135, 136, 137, 138, 14, 139, 41, 45, 46, 47, 48, 49, 50, 51, 52, 53, 54, 140, 141, 142, 40, 143, 63, 64, 65, 66, 67, 68, 69, 70, 144, 145, 146, 44, 147, 77, 148, 149, 57, 150, 151, 152, 153, 154, 155, 782, 783, 784, 785, 786, 787, 788, 789, 790, 791, 809, 810, 811, 812, 813, 814, 815, 816, 817, 818, 819, 826, 827, 828, 829, 830, 831, 832, 833, 820, 821, 834] rfl (by decide +kernel)
set_option maxRecDepth 20000 in
theorem gL_law_X6_set : GoodIn wsL_law (wsV RL 36 RX6 yX6_set wsX6_set) := goodIn_app (goodIn_of _ (by decide +kernel)) ggL_law_X6_set
set_option maxRecDepth 20000 in
theorem ggL_law_X7_set : GoodIn wsL_law wsX7_set := goodIn_r _ [360, 109, 221, 222, 5, 223, 224, 225, 226, 227, 228, 111, 229, 230, 231, 792, 793, 794, 795, 796, 797, 798, 799, 800, 801, 802, 803, 804, 805, 806, 807, 808] rfl (by decide +kernel)
set_option maxRecDepth 20000 in
theorem gL_law_X7_set : GoodIn wsL_law (wsV RL 39 RX7 yX7_set wsX7_set) := goodIn_app (goodIn_of _ (by decide +kernel)) ggL_law_X7_set
set_option maxRecDepth 20000 in
theorem ggL_law_X6_empty : GoodIn wsL_law wsX6_empty := goodIn_r _ [364, 22, 15, 365, 124, 125, 126, 21, 127, 89, 88, 128, 129, 130, 131, 132, 133, 134, 135, 136, 137, 138, 14, 139, 41, 45, 46, 47, 48, 49, 50, 51, 52, 53, 54, 140, 141, 142, 40, 143, 63, 64, 65, 66, 67, 68, 69, 70, 144, 145, 146, 44, 147, 77, 148, 149, 57, 150, 151, 152, 153, 154, 155, 366, 367, 368, 369, 370, 309, 310, 311, 371, 372, 373, 374, 375, 376, 377, 378, 782, 783, 784, 785, 786, 787, 788, 789, 790, 791, 809, 810, 811, 812, 813, 814, 815, 816, 817, 818, 819, 820, 821, 826, 827, 828, 829, 830, 831, 832, 833, 834] rfl (by decide +kernel)
set_option maxRecDepth 20000 in
theorem gL_law_X6_empty : GoodIn wsL_law (wsV RL 40 RX6 yX6_empty wsX6_empty) := goodIn_app (goodIn_of _ (by decide +kernel)) ggL_law_X6_empty
set_option maxRecDepth 20000 in
theorem ggL_law_X7_empty : GoodIn wsL_law wsX7_empty := goodIn_r _ [382, 224, 225, 226, 5, 227, 228, 111, 109, 229, 230, 231, 383, 384, 385, 386, 272, 273, 274, 275, 264, 265, 266, 267, 792, 793, 794, 795, 796, 797, 798, 799, 800, 801, 802, 803, 804, 805, 806, 807, 808] rfl (by decide +kernel)
set_option maxRecDepth 20000 in
theorem gL_law_X7_empty : GoodIn wsL_law (wsV RL 44 RX7 yX7_empty wsX7_empty) := goodIn_app (goodIn_of _ (by decide +kernel)) ggL_law_X7_empty
