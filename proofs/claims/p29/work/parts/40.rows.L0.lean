theorem dL_lot_0 : decode cL_lot 0 = .ok (.iload_n 1, 1) := by decide +kernel
theorem dL_lot_1 : decode cL_lot 1 = .ok (.aload_n 0, 1) := by decide +kernel
theorem dL_lot_2 : decode cL_lot 2 = .ok (.arraylength, 1) := by decide +kernel
theorem dL_lot_3 : decode cL_lot 3 = .ok (.if_icmp .ge 9, 3) := by decide +kernel
theorem dL_lot_6 : decode cL_lot 6 = .ok (.aload_n 0, 1) := by decide +kernel
theorem dL_lot_7 : decode cL_lot 7 = .ok (.iload_n 1, 1) := by decide +kernel
theorem dL_lot_8 : decode cL_lot 8 = .ok (.iaload, 1) := by decide +kernel
theorem dL_lot_9 : decode cL_lot 9 = .ok (.goto 15, 3) := by decide +kernel
theorem dL_lot_12 : decode cL_lot 12 = .ok (.ldc 7, 2) := by decide +kernel
theorem dL_lot_14 : decode cL_lot 14 = .ok (.iload_n 1, 1) := by decide +kernel
theorem dL_lot_15 : decode cL_lot 15 = .ok (.sipush 4801, 3) := by decide +kernel
theorem dL_lot_18 : decode cL_lot 18 = .ok (.iadd, 1) := by decide +kernel
theorem dL_lot_19 : decode cL_lot 19 = .ok (.imul, 1) := by decide +kernel
theorem dL_lot_20 : decode cL_lot 20 = .ok (.sipush 4591, 3) := by decide +kernel
theorem dL_lot_23 : decode cL_lot 23 = .ok (.iadd, 1) := by decide +kernel
theorem dL_lot_24 : decode cL_lot 24 = .ok (.ireturn, 1) := by decide +kernel
theorem dL_low_0 : decode cL_low 0 = .ok (.iload_n 0, 1) := by decide +kernel
theorem dL_low_1 : decode cL_low 1 = .ok (.ldc 8, 2) := by decide +kernel
theorem dL_low_3 : decode cL_low 3 = .ok (.iand, 1) := by decide +kernel
theorem dL_low_4 : decode cL_low 4 = .ok (.iload_n 1, 1) := by decide +kernel
theorem dL_low_5 : decode cL_low 5 = .ok (.irem, 1) := by decide +kernel
theorem dL_low_6 : decode cL_low 6 = .ok (.ireturn, 1) := by decide +kernel
set_option maxRecDepth 20000 in
theorem ggL_look_X6_count : GoodIn wsL_look wsX6_count := goodIn_r _ [7, 8, 9, 10, 11, 12, 13, 14, 15, 16, 17, 18, 19, 20, 21, 22, 23, 24, 25, 26, 27, 28, 29, 30, 31, 32, 33, 34, 35, 36, 37, 38, 39, 40, 41, 42, 43, 44, 45, 46, 47, 48, 49, 50, 51, 52, 53, 54, 55, 56, 57, 58, 59, 60, 61, 62, 63, 64, 65, 66, 67, 68, 69, 70, 71, 72, 73, 74, 75, 76, 77, 78, 79, 80, 81, 82, 83, 6, 84, 85, 86, 87, 88, 89, 90, 91, 92, 93, 94, 95, 96, 97, 98, 99, 100, 101, 102, 103, 104, 105, 106, 107, 108, 109, 110, 111, 112, 113, 114, 115, 116, 117, 118, 119, 120, 121, 122, 123, 124, 125, 126, 127, 128, 161, 162, 163, 164, 165, 166, 167, 168, 169, 170, 171, 172, 173, 174, 175, 176, 177, 178, 179, 180, 181, 182, 183, 184, 185, 186, 187, 188, 189, 190, 191, 192, 193, 194] rfl (by decide +kernel)
set_option maxRecDepth 20000 in
theorem gL_look_X6_count : GoodIn wsL_look (wsV RL 13 RX6 yX6_count wsX6_count) := goodIn_app (goodIn_of _ (by decide +kernel)) ggL_look_X6_count
set_option maxRecDepth 20000 in
theorem ggL_look_X6_pin : GoodIn wsL_look wsX6_pin := goodIn_r _ [132, 8, 13, 133, 134, 135, 136, 14, 137, 138, 6, 139, 140, 38, 39, 24, 40, 30, 41, 42, 43, 18, 44, 20, 141, 142, 143, 144, 73, 145, 75, 76, 77, 78, 79, 80, 81, 82, 83, 84, 85, 86, 87, 88, 89, 90, 91, 92, 93, 37, 94, 95, 96, 97, 36, 98, 99, 100, 101, 102, 51, 103, 104, 105, 106, 161, 162, 163, 164, 165, 166, 167, 168, 169, 170, 171, 172, 173, 174, 175, 176, 177, 178, 179, 180, 181, 183, 184, 185, 186, 187, 188, 189, 190, 182] rfl (by decide +kernel)
set_option maxRecDepth 20000 in
theorem gL_look_X6_pin : GoodIn wsL_look (wsV RL 19 RX6 yX6_pin wsX6_pin) := goodIn_app (goodIn_of _ (by decide +kernel)) ggL_look_X6_pin
set_option maxRecDepth 20000 in
theorem ggL_look_X6_pocket : GoodIn wsL_look wsX6_pocket := goodIn_r _ [149, 8, 150, 11, 151, 14, 13, 137, 138, 6, 139, 141, 42, 43, 18, 44, 20, 152, 64, 65, 61, 66, 67, 68, 69, 153, 154, 155, 73, 156, 86, 87, 157, 158, 159, 160, 88, 89, 90, 91, 92, 24, 93, 37, 38, 39, 40, 30, 41, 94, 95, 96, 97, 36, 98, 99, 100, 101, 102, 51, 103, 104, 105, 106, 107, 108, 109, 110, 111, 112, 113, 161, 162, 163, 164, 165, 166, 167, 168, 169, 170, 171, 172, 173, 174, 175, 176, 177, 178, 179, 180, 181, 182, 183, 184, 185, 186, 187, 188, 189, 190] rfl (by decide +kernel)
set_option maxRecDepth 20000 in
theorem gL_look_X6_pocket : GoodIn wsL_look (wsV RL 23 RX6 yX6_pocket wsX6_pocket) := goodIn_app (goodIn_of _ (by decide +kernel)) ggL_look_X6_pocket
theorem dL_look_0 : decode cL_look 0 = .ok (.ldc2_w 9, 3) := by decide +kernel
theorem dL_look_3 : decode cL_look 3 = .ok (.lstore_n 1, 1) := by decide +kernel
theorem dL_look_4 : decode cL_look 4 = .ok (.iconst 0, 1) := by decide +kernel
theorem dL_look_5 : decode cL_look 5 = .ok (.istore_n 3, 1) := by decide +kernel
theorem dL_look_6 : decode cL_look 6 = .ok (.iload_n 3, 1) := by decide +kernel
theorem dL_look_7 : decode cL_look 7 = .ok (.bipush 17, 2) := by decide +kernel
theorem dL_look_9 : decode cL_look 9 = .ok (.if_icmp .ge 22, 3) := by decide +kernel
theorem dL_look_12 : decode cL_look 12 = .ok (.ldc2_w 11, 3) := by decide +kernel
theorem dL_look_15 : decode cL_look 15 = .ok (.lload_n 1, 1) := by decide +kernel
theorem dL_look_16 : decode cL_look 16 = .ok (.lmul, 1) := by decide +kernel
theorem dL_look_17 : decode cL_look 17 = .ok (.aload_n 0, 1) := by decide +kernel
theorem dL_look_18 : decode cL_look 18 = .ok (.iload_n 3, 1) := by decide +kernel
theorem dL_look_19 : decode cL_look 19 = .ok (.invokevirtual 13, 3) := by decide +kernel
theorem dL_look_22 : decode cL_look 22 = .ok (.i2l, 1) := by decide +kernel
theorem dL_look_23 : decode cL_look 23 = .ok (.ladd, 1) := by decide +kernel
theorem dL_look_24 : decode cL_look 24 = .ok (.lstore_n 1, 1) := by decide +kernel
theorem dL_look_25 : decode cL_look 25 = .ok (.iinc 3 1, 3) := by decide +kernel
theorem dL_look_28 : decode cL_look 28 = .ok (.goto (-22), 3) := by decide +kernel
theorem dL_look_31 : decode cL_look 31 = .ok (.iconst 0, 1) := by decide +kernel
theorem dL_look_32 : decode cL_look 32 = .ok (.istore_n 3, 1) := by decide +kernel
theorem dL_look_33 : decode cL_look 33 = .ok (.iload_n 3, 1) := by decide +kernel
theorem dL_look_34 : decode cL_look 34 = .ok (.bipush 35, 2) := by decide +kernel
theorem dL_look_36 : decode cL_look 36 = .ok (.if_icmp .ge 39, 3) := by decide +kernel
theorem dL_look_39 : decode cL_look 39 = .ok (.iconst 0, 1) := by decide +kernel
theorem dL_look_40 : decode cL_look 40 = .ok (.istore 4, 2) := by decide +kernel
theorem dL_look_42 : decode cL_look 42 = .ok (.iload 4, 2) := by decide +kernel
theorem dL_look_44 : decode cL_look 44 = .ok (.iconst 4, 1) := by decide +kernel
theorem dL_look_45 : decode cL_look 45 = .ok (.if_icmp .ge 24, 3) := by decide +kernel
theorem dL_look_48 : decode cL_look 48 = .ok (.ldc2_w 11, 3) := by decide +kernel
theorem dL_look_51 : decode cL_look 51 = .ok (.lload_n 1, 1) := by decide +kernel
theorem dL_look_52 : decode cL_look 52 = .ok (.lmul, 1) := by decide +kernel
theorem dL_look_53 : decode cL_look 53 = .ok (.aload_n 0, 1) := by decide +kernel
theorem dL_look_54 : decode cL_look 54 = .ok (.iload_n 3, 1) := by decide +kernel
theorem dL_look_55 : decode cL_look 55 = .ok (.iload 4, 2) := by decide +kernel
theorem dL_look_57 : decode cL_look 57 = .ok (.invokevirtual 19, 3) := by decide +kernel
theorem dL_look_60 : decode cL_look 60 = .ok (.i2l, 1) := by decide +kernel
theorem dL_look_61 : decode cL_look 61 = .ok (.ladd, 1) := by decide +kernel
theorem dL_look_62 : decode cL_look 62 = .ok (.lstore_n 1, 1) := by decide +kernel
theorem dL_look_63 : decode cL_look 63 = .ok (.iinc 4 1, 3) := by decide +kernel
theorem dL_look_66 : decode cL_look 66 = .ok (.goto (-24), 3) := by decide +kernel
theorem dL_look_69 : decode cL_look 69 = .ok (.iinc 3 1, 3) := by decide +kernel
theorem dL_look_72 : decode cL_look 72 = .ok (.goto (-39), 3) := by decide +kernel
theorem dL_look_75 : decode cL_look 75 = .ok (.iconst 0, 1) := by decide +kernel
theorem dL_look_76 : decode cL_look 76 = .ok (.istore_n 3, 1) := by decide +kernel
theorem dL_look_77 : decode cL_look 77 = .ok (.iload_n 3, 1) := by decide +kernel
theorem dL_look_78 : decode cL_look 78 = .ok (.bipush 28, 2) := by decide +kernel
theorem dL_look_80 : decode cL_look 80 = .ok (.if_icmp .ge 27, 3) := by decide +kernel
theorem dL_look_83 : decode cL_look 83 = .ok (.ldc2_w 11, 3) := by decide +kernel
theorem dL_look_86 : decode cL_look 86 = .ok (.lload_n 1, 1) := by decide +kernel
theorem dL_look_87 : decode cL_look 87 = .ok (.lmul, 1) := by decide +kernel
theorem dL_look_88 : decode cL_look 88 = .ok (.aload_n 0, 1) := by decide +kernel
theorem dL_look_89 : decode cL_look 89 = .ok (.iload_n 3, 1) := by decide +kernel
theorem dL_look_90 : decode cL_look 90 = .ok (.iconst 4, 1) := by decide +kernel
theorem dL_look_91 : decode cL_look 91 = .ok (.idiv, 1) := by decide +kernel
theorem dL_look_92 : decode cL_look 92 = .ok (.iload_n 3, 1) := by decide +kernel
theorem dL_look_93 : decode cL_look 93 = .ok (.iconst 4, 1) := by decide +kernel
theorem dL_look_94 : decode cL_look 94 = .ok (.irem, 1) := by decide +kernel
theorem dL_look_95 : decode cL_look 95 = .ok (.invokevirtual 23, 3) := by decide +kernel
theorem dL_look_98 : decode cL_look 98 = .ok (.i2l, 1) := by decide +kernel
theorem dL_look_99 : decode cL_look 99 = .ok (.ladd, 1) := by decide +kernel
theorem dL_look_100 : decode cL_look 100 = .ok (.lstore_n 1, 1) := by decide +kernel
theorem dL_look_101 : decode cL_look 101 = .ok (.iinc 3 1, 3) := by decide +kernel
theorem dL_look_104 : decode cL_look 104 = .ok (.goto (-27), 3) := by decide +kernel
theorem dL_look_107 : decode cL_look 107 = .ok (.lload_n 1, 1) := by decide +kernel
theorem dL_look_108 : decode cL_look 108 = .ok (.lreturn, 1) := by decide +kernel
theorem dL_ones_0 : decode cL_ones 0 = .ok (.iconst 0, 1) := by decide +kernel
theorem dL_ones_1 : decode cL_ones 1 = .ok (.istore_n 1, 1) := by decide +kernel
theorem dL_ones_2 : decode cL_ones 2 = .ok (.iconst 0, 1) := by decide +kernel
theorem dL_ones_3 : decode cL_ones 3 = .ok (.istore_n 2, 1) := by decide +kernel
theorem dL_ones_4 : decode cL_ones 4 = .ok (.iload_n 2, 1) := by decide +kernel
theorem dL_ones_5 : decode cL_ones 5 = .ok (.bipush 7, 2) := by decide +kernel
theorem dL_ones_7 : decode cL_ones 7 = .ok (.if_icmp .ge 17, 3) := by decide +kernel
theorem dL_ones_10 : decode cL_ones 10 = .ok (.iload_n 1, 1) := by decide +kernel
theorem dL_ones_11 : decode cL_ones 11 = .ok (.iload_n 0, 1) := by decide +kernel
theorem dL_ones_12 : decode cL_ones 12 = .ok (.iload_n 2, 1) := by decide +kernel
theorem dL_ones_13 : decode cL_ones 13 = .ok (.ishr, 1) := by decide +kernel
theorem dL_ones_14 : decode cL_ones 14 = .ok (.iconst 1, 1) := by decide +kernel
theorem dL_ones_15 : decode cL_ones 15 = .ok (.iand, 1) := by decide +kernel
theorem dL_ones_16 : decode cL_ones 16 = .ok (.iadd, 1) := by decide +kernel
theorem dL_ones_17 : decode cL_ones 17 = .ok (.istore_n 1, 1) := by decide +kernel
theorem dL_ones_18 : decode cL_ones 18 = .ok (.iinc 2 1, 3) := by decide +kernel
theorem dL_ones_21 : decode cL_ones 21 = .ok (.goto (-17), 3) := by decide +kernel
theorem dL_ones_24 : decode cL_ones 24 = .ok (.iload_n 1, 1) := by decide +kernel
theorem dL_ones_25 : decode cL_ones 25 = .ok (.ireturn, 1) := by decide +kernel
set_option maxRecDepth 20000 in
theorem ggL_sent_X6_pin : GoodIn wsL_sent wsX6_pin := goodIn_r _ [5, 6, 7, 8, 9, 10, 11, 12, 13, 14, 4, 15, 16, 17, 18, 19, 20, 21, 22, 23, 24, 25, 26, 27, 28, 29, 30, 31, 32, 33, 34, 35, 36, 37, 38, 39, 40, 41, 42, 43, 44, 45, 46, 47, 48, 49, 50, 51, 52, 53, 54, 55, 56, 57, 58, 59, 60, 61, 62, 63, 64, 65, 66, 67, 68, 144, 145, 146, 147, 148, 149, 150, 151, 152, 153, 154, 155, 156, 157, 158, 159, 160, 161, 162, 163, 164, 165, 166, 167, 168, 169, 170, 171, 172, 173] rfl (by decide +kernel)
set_option maxRecDepth 20000 in
theorem gL_sent_X6_pin : GoodIn wsL_sent (wsV RL 19 RX6 yX6_pin wsX6_pin) := goodIn_app (goodIn_of _ (by decide +kernel)) ggL_sent_X6_pin
set_option maxRecDepth 20000 in
theorem ggL_sent_X6_count : GoodIn wsL_sent wsX6_count := goodIn_r _ [72, 6, 73, 74, 75, 76, 7, 12, 77, 78, 79, 25, 80, 27, 81, 82, 83, 19, 84, 85, 86, 87, 88, 21, 89, 90, 91, 92, 93, 58, 53, 17, 18, 20, 22, 23, 24, 26, 94, 95, 96, 97, 98, 99, 64, 100, 101, 102, 103, 104, 105, 106, 107, 108, 109, 110, 111, 112, 113, 114, 115, 116, 117, 118, 119, 120, 32, 121, 34, 35, 36, 37, 38, 39, 40, 41, 42, 4, 43, 44, 45, 46, 47, 48, 49, 50, 51, 52, 54, 55, 56, 57, 59, 60, 61, 62, 63, 65, 66, 67, 68, 122, 123, 124, 125, 126, 127, 128, 129, 130, 131, 132, 133, 134, 135, 136, 137, 138, 139, 140, 141, 142, 143, 144, 145, 146, 147, 148, 149, 150, 151, 152, 153, 154, 155, 156, 157, 158, 159, 160, 161, 162, 163, 164, 173, 165, 166, 167, 168, 169, 170, 171, 172, 174, 175, 176, 177] rfl (by decide +kernel)
set_option maxRecDepth 20000 in
theorem gL_sent_X6_count : GoodIn wsL_sent (wsV RL 13 RX6 yX6_count wsX6_count) := goodIn_app (goodIn_of _ (by decide +kernel)) ggL_sent_X6_count
theorem dL_sent_0 : decode cL_sent 0 = .ok (.iload_n 1, 1) := by decide +kernel
theorem dL_sent_1 : decode cL_sent 1 = .ok (.bipush 7, 2) := by decide +kernel
theorem dL_sent_3 : decode cL_sent 3 = .ok (.irem, 1) := by decide +kernel
theorem dL_sent_4 : decode cL_sent 4 = .ok (.istore_n 2, 1) := by decide +kernel
theorem dL_sent_5 : decode cL_sent 5 = .ok (.iconst 1, 1) := by decide +kernel
theorem dL_sent_6 : decode cL_sent 6 = .ok (.iload_n 2, 1) := by decide +kernel
theorem dL_sent_7 : decode cL_sent 7 = .ok (.ifCond .le 9, 3) := by decide +kernel
theorem dL_sent_10 : decode cL_sent 10 = .ok (.iload_n 2, 1) := by decide +kernel
theorem dL_sent_11 : decode cL_sent 11 = .ok (.iconst 1, 1) := by decide +kernel
theorem dL_sent_12 : decode cL_sent 12 = .ok (.isub, 1) := by decide +kernel
theorem dL_sent_13 : decode cL_sent 13 = .ok (.goto 4, 3) := by decide +kernel
theorem dL_sent_16 : decode cL_sent 16 = .ok (.iconst 0, 1) := by decide +kernel
theorem dL_sent_17 : decode cL_sent 17 = .ok (.ishl, 1) := by decide +kernel
theorem dL_sent_18 : decode cL_sent 18 = .ok (.istore_n 3, 1) := by decide +kernel
theorem dL_sent_19 : decode cL_sent 19 = .ok (.iconst 1, 1) := by decide +kernel
theorem dL_sent_20 : decode cL_sent 20 = .ok (.iload_n 2, 1) := by decide +kernel
theorem dL_sent_21 : decode cL_sent 21 = .ok (.bipush 6, 2) := by decide +kernel
theorem dL_sent_23 : decode cL_sent 23 = .ok (.if_icmp .ge 9, 3) := by decide +kernel
theorem dL_sent_26 : decode cL_sent 26 = .ok (.iload_n 2, 1) := by decide +kernel
theorem dL_sent_27 : decode cL_sent 27 = .ok (.iconst 1, 1) := by decide +kernel
theorem dL_sent_28 : decode cL_sent 28 = .ok (.iadd, 1) := by decide +kernel
theorem dL_sent_29 : decode cL_sent 29 = .ok (.goto 5, 3) := by decide +kernel
theorem dL_sent_32 : decode cL_sent 32 = .ok (.bipush 6, 2) := by decide +kernel
theorem dL_sent_34 : decode cL_sent 34 = .ok (.ishl, 1) := by decide +kernel
theorem dL_sent_35 : decode cL_sent 35 = .ok (.istore 4, 2) := by decide +kernel
theorem dL_sent_37 : decode cL_sent 37 = .ok (.aload_n 0, 1) := by decide +kernel
theorem dL_sent_38 : decode cL_sent 38 = .ok (.iload_n 1, 1) := by decide +kernel
theorem dL_sent_39 : decode cL_sent 39 = .ok (.iconst 0, 1) := by decide +kernel
theorem dL_sent_40 : decode cL_sent 40 = .ok (.invokevirtual 19, 3) := by decide +kernel
theorem dL_sent_43 : decode cL_sent 43 = .ok (.istore 5, 2) := by decide +kernel
theorem dL_sent_45 : decode cL_sent 45 = .ok (.aload_n 0, 1) := by decide +kernel
theorem dL_sent_46 : decode cL_sent 46 = .ok (.bipush 15, 2) := by decide +kernel
theorem dL_sent_48 : decode cL_sent 48 = .ok (.invokevirtual 13, 3) := by decide +kernel
theorem dL_sent_51 : decode cL_sent 51 = .ok (.istore 6, 2) := by decide +kernel
theorem dL_sent_53 : decode cL_sent 53 = .ok (.iload 5, 2) := by decide +kernel
theorem dL_sent_55 : decode cL_sent 55 = .ok (.bipush (-4), 2) := by decide +kernel
theorem dL_sent_57 : decode cL_sent 57 = .ok (.if_icmp .ne 9, 3) := by decide +kernel
theorem dL_sent_60 : decode cL_sent 60 = .ok (.iconst 1, 1) := by decide +kernel
theorem dL_sent_61 : decode cL_sent 61 = .ok (.iload_n 2, 1) := by decide +kernel
theorem dL_sent_62 : decode cL_sent 62 = .ok (.ishl, 1) := by decide +kernel
theorem dL_sent_63 : decode cL_sent 63 = .ok (.goto 45, 3) := by decide +kernel
theorem dL_sent_66 : decode cL_sent 66 = .ok (.iload 5, 2) := by decide +kernel
theorem dL_sent_68 : decode cL_sent 68 = .ok (.iconst 3, 1) := by decide +kernel
theorem dL_sent_69 : decode cL_sent 69 = .ok (.if_icmp .lt 14, 3) := by decide +kernel
theorem dL_sent_72 : decode cL_sent 72 = .ok (.iload 5, 2) := by decide +kernel
theorem dL_sent_74 : decode cL_sent 74 = .ok (.iconst 3, 1) := by decide +kernel
theorem dL_sent_75 : decode cL_sent 75 = .ok (.if_icmp .ne 12, 3) := by decide +kernel
theorem dL_sent_78 : decode cL_sent 78 = .ok (.iload 6, 2) := by decide +kernel
theorem dL_sent_80 : decode cL_sent 80 = .ok (.ifCond .ne 7, 3) := by decide +kernel
theorem dL_sent_83 : decode cL_sent 83 = .ok (.iload_n 3, 1) := by decide +kernel
theorem dL_sent_84 : decode cL_sent 84 = .ok (.goto 24, 3) := by decide +kernel
theorem dL_sent_87 : decode cL_sent 87 = .ok (.iload 5, 2) := by decide +kernel
theorem dL_sent_89 : decode cL_sent 89 = .ok (.iconst 3, 1) := by decide +kernel
theorem dL_sent_90 : decode cL_sent 90 = .ok (.if_icmp .gt 9, 3) := by decide +kernel
theorem dL_sent_93 : decode cL_sent 93 = .ok (.iload 6, 2) := by decide +kernel
theorem dL_sent_95 : decode cL_sent 95 = .ok (.iconst 2, 1) := by decide +kernel
theorem dL_sent_96 : decode cL_sent 96 = .ok (.if_icmp .ne 8, 3) := by decide +kernel
theorem dL_sent_99 : decode cL_sent 99 = .ok (.iload 4, 2) := by decide +kernel
theorem dL_sent_101 : decode cL_sent 101 = .ok (.goto 7, 3) := by decide +kernel
theorem dL_sent_104 : decode cL_sent 104 = .ok (.iload_n 3, 1) := by decide +kernel
theorem dL_sent_105 : decode cL_sent 105 = .ok (.iload 4, 2) := by decide +kernel
theorem dL_sent_107 : decode cL_sent 107 = .ok (.ior, 1) := by decide +kernel
theorem dL_sent_108 : decode cL_sent 108 = .ok (.ireturn, 1) := by decide +kernel
