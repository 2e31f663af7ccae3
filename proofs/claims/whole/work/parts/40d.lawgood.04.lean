set_option maxRecDepth 20000 in
theorem ggL_law_X6_pocket : GoodIn wsL_law wsX6_pocket := goodIn_r _ [573, 15, 344, 574, 575, 26, 299, 121, 122, 2, 123, 345, 176, 177, 44, 178, 77, 576, 210, 211, 14, 212, 46, 48, 213, 577, 578, 579, 25, 580, 552, 553, 581, 582, 583, 584, 165, 166, 554, 555, 556, 40, 557, 171, 172, 173, 174, 64, 175, 179, 180, 181, 182, 63, 68, 200, 201, 202, 149, 57, 150, 203, 56, 58, 585, 586, 587, 588, 589, 590, 591, 782, 783, 784, 785, 786, 787, 788, 789, 790, 791, 809, 810, 811, 812, 813, 814, 815, 816, 817, 818, 819, 834, 826, 827, 828, 829, 830, 831, 832, 833] rfl (by decide +kernel)
set_option maxRecDepth 20000 in
theorem gL_law_X6_pocket : GoodIn wsL_law (wsV RL 77 RX6 yX6_pocket wsX6_pocket) := goodIn_app (goodIn_of _ (by decide +kernel)) ggL_law_X6_pocket
set_option maxRecDepth 20000 in
theorem ggL_law_X7_pocket : GoodIn wsL_law wsX7_pocket := goodIn_r _ [595, 218, 219, 5, 220, 221, 222, 223, 272, 273, 274, 275, 109, 268, 269, 270, 271, 596, 597, 598, 599, 562, 563, 564, 565, 566, 567, 568, 569, 245, 246, 247, 248, 253, 254, 255, 256, 261, 262, 263, 792, 793, 794, 795, 796, 797, 798, 799, 800, 801, 802, 803, 804, 805, 806, 807, 808] rfl (by decide +kernel)
set_option maxRecDepth 20000 in
theorem gL_law_X7_pocket : GoodIn wsL_law (wsV RL 80 RX7 yX7_pocket wsX7_pocket) := goodIn_app (goodIn_of _ (by decide +kernel)) ggL_law_X7_pocket
set_option maxRecDepth 20000 in
theorem ggL_law_X6_reach : GoodIn wsL_law wsX6_reach := goodIn_r _ [603, 26, 15, 299, 604, 605, 606, 25, 607, 541, 542, 543, 544, 545, 546, 547, 548, 549, 2, 550, 551, 552, 553, 165, 166, 554, 555, 556, 40, 557, 171, 172, 173, 174, 64, 175, 176, 177, 44, 178, 77, 179, 180, 181, 182, 63, 68, 200, 201, 202, 149, 57, 150, 203, 56, 58, 608, 609, 610, 611, 612, 578, 579, 580, 581, 582, 583, 584, 782, 783, 784, 785, 786, 787, 788, 789, 790, 791, 809, 810, 811, 812, 813, 814, 815, 816, 817, 818, 819, 826, 827, 828, 829, 830, 831, 832, 833, 834] rfl (by decide +kernel)
set_option maxRecDepth 20000 in
theorem gL_law_X6_reach : GoodIn wsL_law (wsV RL 81 RX6 yX6_reach wsX6_reach) := goodIn_app (goodIn_of _ (by decide +kernel)) ggL_law_X6_reach
set_option maxRecDepth 20000 in
theorem ggL_law_X7_reach : GoodIn wsL_law wsX7_reach := goodIn_r _ [616, 221, 222, 5, 223, 617, 618, 619, 620, 562, 563, 564, 565, 566, 567, 568, 569, 245, 246, 247, 248, 109, 253, 254, 255, 256, 261, 262, 263, 792, 793, 794, 795, 796, 797, 798, 799, 800, 801, 802, 803, 804, 805, 806, 807, 808] rfl (by decide +kernel)
set_option maxRecDepth 20000 in
theorem gL_law_X7_reach : GoodIn wsL_law (wsV RL 84 RX7 yX7_reach wsX7_reach) := goodIn_app (goodIn_of _ (by decide +kernel)) ggL_law_X7_reach
set_option maxRecDepth 20000 in
theorem ggL_law_X6_ways : GoodIn wsL_law wsX6_ways := goodIn_r _ [624, 26, 15, 299, 121, 122, 2, 123, 625, 626, 627, 25, 628, 95, 96, 629, 372, 373, 44, 374, 77, 375, 376, 377, 378, 165, 166, 554, 555, 556, 40, 557, 171, 172, 173, 174, 64, 175, 176, 177, 178, 552, 553, 179, 180, 181, 182, 63, 68, 200, 201, 202, 149, 57, 150, 203, 56, 58, 630, 631, 632, 633, 634, 549, 550, 551, 635, 188, 189, 190, 636, 145, 146, 147, 148, 151, 152, 153, 154, 637, 638, 639, 640, 641, 642, 643, 644, 645, 782, 783, 784, 785, 786, 787, 788, 789, 790, 791, 809, 810, 811, 812, 813, 814, 815, 816, 817, 818, 819, 822, 823, 834, 826, 827, 828, 829, 830, 831, 832, 833] rfl (by decide +kernel)
set_option maxRecDepth 20000 in
theorem gL_law_X6_ways : GoodIn wsL_law (wsV RL 85 RX6 yX6_ways wsX6_ways) := goodIn_app (goodIn_of _ (by decide +kernel)) ggL_law_X6_ways
set_option maxRecDepth 20000 in
theorem ggL_law_X7_ways : GoodIn wsL_law wsX7_ways := goodIn_r _ [649, 218, 219, 5, 220, 221, 222, 223, 650, 651, 652, 653, 115, 654, 655, 656, 657, 116, 245, 246, 247, 248, 109, 253, 254, 255, 256, 261, 262, 263, 792, 793, 794, 795, 796, 797, 798, 799, 800, 801, 802, 803, 804, 805, 806, 807, 808] rfl (by decide +kernel)
set_option maxRecDepth 20000 in
theorem gL_law_X7_ways : GoodIn wsL_law (wsV RL 88 RX7 yX7_ways wsX7_ways) := goodIn_app (goodIn_of _ (by decide +kernel)) ggL_law_X7_ways
set_option maxRecDepth 20000 in
theorem ggL_law_X6_count : GoodIn wsL_law wsX6_count := goodIn_r _ [661, 15, 493, 365, 574, 662, 299, 26, 663, 309, 310, 44, 311, 77, 480, 481, 482, 40, 483, 484, 305, 306, 307, 64, 308, 664, 665, 666, 667, 63, 171, 172, 173, 174, 175, 176, 177, 178, 668, 669, 670, 671, 672, 673, 57, 674, 328, 329, 330, 331, 65, 675, 676, 677, 14, 678, 209, 210, 211, 212, 46, 48, 213, 604, 605, 606, 25, 607, 541, 542, 543, 544, 545, 546, 547, 548, 549, 2, 550, 551, 552, 553, 165, 166, 554, 555, 556, 557, 179, 180, 181, 182, 68, 200, 201, 202, 149, 150, 203, 56, 58, 585, 586, 587, 588, 589, 590, 591, 679, 680, 681, 682, 683, 684, 685, 686, 687, 355, 356, 30, 391, 22, 688, 782, 783, 784, 785, 786, 787, 788, 789, 790, 791, 809, 810, 811, 812, 813, 814, 815, 816, 817, 818, 819, 834, 826, 827, 828, 829, 830, 831, 832, 833, 824, 825, 820, 821] rfl (by decide +kernel)
set_option maxRecDepth 20000 in
theorem gL_law_X6_count : GoodIn wsL_law (wsV RL 89 RX6 yX6_count wsX6_count) := goodIn_app (goodIn_of _ (by decide +kernel)) ggL_law_X6_count
set_option maxRecDepth 20000 in
theorem ggL_law_X7_count : GoodIn wsL_law wsX7_count := goodIn_r _ [692, 109, 401, 228, 693, 694, 695, 5, 696, 272, 273, 274, 275, 316, 317, 318, 319, 245, 246, 247, 248, 697, 698, 699, 700, 701, 702, 703, 704, 336, 337, 338, 339, 705, 706, 707, 708, 268, 269, 270, 271, 617, 618, 619, 620, 562, 563, 564, 565, 566, 567, 568, 569, 253, 254, 255, 256, 261, 262, 263, 221, 222, 223, 709, 710, 711, 792, 793, 794, 795, 796, 797, 798, 799, 800, 801, 802, 803, 804, 805, 806, 807, 808] rfl (by decide +kernel)
set_option maxRecDepth 20000 in
theorem gL_law_X7_count : GoodIn wsL_law (wsV RL 92 RX7 yX7_count wsX7_count) := goodIn_app (goodIn_of _ (by decide +kernel)) ggL_law_X7_count
