set_option maxRecDepth 20000 in
theorem ggL_law_X6_shots : GoodIn wsL_law wsX6_shots := goodIn_r _ [492, 30, 22, 15, 493, 430, 431, 432, 29, 433, 103, 422, 423, 424, 425, 102, 426, 176, 177, 44, 178, 77, 434, 435, 436, 437, 438, 439, 122, 2, 123, 124, 125, 126, 21, 127, 89, 88, 128, 129, 130, 131, 132, 133, 134, 135, 136, 137, 138, 14, 139, 41, 45, 46, 47, 48, 49, 50, 51, 52, 53, 54, 140, 141, 142, 40, 143, 63, 64, 65, 66, 67, 68, 69, 70, 144, 145, 146, 147, 148, 149, 57, 150, 151, 152, 153, 154, 155, 494, 495, 496, 497, 31, 391, 475, 366, 367, 368, 369, 370, 309, 310, 311, 371, 372, 373, 374, 375, 376, 377, 378, 498, 156, 157, 158, 159, 160, 161, 162, 163, 164, 165, 166, 167, 168, 169, 170, 171, 172, 173, 174, 175, 179, 180, 181, 182, 183, 184, 185, 186, 187, 188, 189, 190, 191, 80, 81, 82, 192, 193, 194, 195, 196, 197, 198, 199, 200, 201, 202, 203, 56, 58, 204, 205, 206, 207, 208, 209, 210, 211, 212, 213, 499, 500, 501, 502, 32, 33, 406, 407, 408, 409, 782, 783, 784, 785, 786, 787, 788, 789, 790, 791, 809, 810, 811, 812, 813, 814, 815, 816, 817, 818, 819, 824, 825, 834, 820, 821, 826, 827, 828, 829, 830, 831, 832, 833] rfl (by decide +kernel)
set_option maxRecDepth 20000 in
theorem gL_law_X6_shots : GoodIn wsL_law (wsV RL 61 RX6 yX6_shots wsX6_shots) := goodIn_app (goodIn_of _ (by decide +kernel)) ggL_law_X6_shots
set_option maxRecDepth 20000 in
theorem ggL_law_X7_shots : GoodIn wsL_law wsX7_shots := goodIn_r _ [506, 109, 444, 507, 401, 466, 465, 114, 456, 457, 458, 5, 459, 460, 461, 462, 463, 464, 449, 450, 451, 452, 113, 218, 219, 220, 221, 222, 223, 467, 468, 469, 470, 224, 225, 226, 227, 228, 111, 229, 230, 231, 383, 384, 385, 386, 272, 273, 274, 275, 264, 265, 266, 267, 232, 233, 234, 235, 236, 237, 238, 239, 240, 241, 242, 243, 244, 245, 246, 247, 248, 249, 250, 251, 252, 253, 254, 255, 256, 257, 258, 259, 260, 261, 262, 263, 268, 269, 270, 271, 792, 793, 794, 795, 796, 797, 798, 799, 800, 801, 802, 803, 804, 805, 806, 807, 808] rfl (by decide +kernel)
set_option maxRecDepth 20000 in
theorem gL_law_X7_shots : GoodIn wsL_law (wsV RL 64 RX7 yX7_shots wsX7_shots) := goodIn_app (goodIn_of _ (by decide +kernel)) ggL_law_X7_shots
set_option maxRecDepth 20000 in
theorem ggL_law_X6_why : GoodIn wsL_law wsX6_why := goodIn_r _ [511, 31, 32, 33, 121, 122, 2, 123, 782, 783, 784, 785, 786, 787, 788, 789, 790, 791] rfl (by decide +kernel)
set_option maxRecDepth 20000 in
theorem gL_law_X6_why : GoodIn wsL_law (wsV RL 65 RX6 yX6_why wsX6_why) := goodIn_app (goodIn_of _ (by decide +kernel)) ggL_law_X6_why
set_option maxRecDepth 20000 in
theorem ggL_law_X7_why : GoodIn wsL_law wsX7_why := goodIn_r _ [515, 507, 114, 221, 222, 5, 223, 792, 793, 794, 795, 796, 797, 798, 799, 800, 801, 802, 803, 804, 805, 806, 807, 808] rfl (by decide +kernel)
set_option maxRecDepth 20000 in
theorem gL_law_X7_why : GoodIn wsL_law (wsV RL 68 RX7 yX7_why wsX7_why) := goodIn_app (goodIn_of _ (by decide +kernel)) ggL_law_X7_why
set_option maxRecDepth 20000 in
theorem ggL_law_X6_sign : GoodIn wsL_law wsX6_sign := goodIn_r _ [519, 15, 299, 121, 122, 2, 123, 520, 521, 522, 40, 523, 65, 63, 171, 172, 173, 174, 64, 175, 176, 177, 44, 178, 77, 782, 783, 784, 785, 786, 787, 788, 789, 790, 791, 809, 810, 811, 812, 813, 814, 815, 816, 817, 818, 819, 826, 827, 828, 829, 830, 831, 832, 833, 834] rfl (by decide +kernel)
set_option maxRecDepth 20000 in
theorem gL_law_X6_sign : GoodIn wsL_law (wsV RL 69 RX6 yX6_sign wsX6_sign) := goodIn_app (goodIn_of _ (by decide +kernel)) ggL_law_X6_sign
set_option maxRecDepth 20000 in
theorem ggL_law_X7_sign : GoodIn wsL_law wsX7_sign := goodIn_r _ [527, 292, 293, 5, 294, 221, 222, 223, 245, 246, 247, 248, 109, 792, 793, 794, 795, 796, 797, 798, 799, 800, 801, 802, 803, 804, 805, 806, 807, 808] rfl (by decide +kernel)
set_option maxRecDepth 20000 in
theorem gL_law_X7_sign : GoodIn wsL_law (wsV RL 72 RX7 yX7_sign wsX7_sign) := goodIn_app (goodIn_of _ (by decide +kernel)) ggL_law_X7_sign
set_option maxRecDepth 20000 in
theorem ggL_law_X6_pin : GoodIn wsL_law wsX6_pin := goodIn_r _ [531, 15, 299, 532, 533, 534, 535, 26, 121, 122, 2, 123, 536, 172, 173, 40, 174, 64, 175, 176, 177, 44, 178, 77, 345, 537, 538, 539, 25, 540, 541, 542, 543, 544, 545, 546, 547, 548, 549, 550, 551, 552, 553, 165, 166, 554, 555, 556, 557, 171, 179, 180, 181, 182, 63, 68, 200, 201, 202, 149, 57, 150, 203, 56, 58, 782, 783, 784, 785, 786, 787, 788, 789, 790, 791, 809, 810, 811, 812, 813, 814, 815, 816, 817, 818, 819, 826, 827, 828, 829, 830, 831, 832, 833, 834] rfl (by decide +kernel)
set_option maxRecDepth 20000 in
theorem gL_law_X6_pin : GoodIn wsL_law (wsV RL 73 RX6 yX6_pin wsX6_pin) := goodIn_app (goodIn_of _ (by decide +kernel)) ggL_law_X6_pin
set_option maxRecDepth 20000 in
theorem ggL_law_X7_pin : GoodIn wsL_law wsX7_pin := goodIn_r _ [561, 292, 293, 5, 294, 221, 222, 223, 245, 246, 247, 248, 109, 562, 563, 564, 565, 566, 567, 568, 569, 253, 254, 255, 256, 261, 262, 263, 792, 793, 794, 795, 796, 797, 798, 799, 800, 801, 802, 803, 804, 805, 806, 807, 808] rfl (by decide +kernel)
set_option maxRecDepth 20000 in
theorem gL_law_X7_pin : GoodIn wsL_law (wsV RL 76 RX7 yX7_pin wsX7_pin) := goodIn_app (goodIn_of _ (by decide +kernel)) ggL_law_X7_pin
