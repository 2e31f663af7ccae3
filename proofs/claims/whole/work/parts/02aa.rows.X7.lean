theorem dX7_init_0 : decode cX7_init 0 = .ok (.aload_n 0, 1) := by decide +kernel
theorem dX7_init_1 : decode cX7_init 1 = .ok (.invokespecial 1, 3) := by decide +kernel
theorem dX7_init_4 : decode cX7_init 4 = .ok (.aload_n 0, 1) := by decide +kernel
theorem dX7_init_5 : decode cX7_init 5 = .ok (.sipush 206, 3) := by decide +kernel
theorem dX7_init_8 : decode cX7_init 8 = .ok (.newarray .int, 2) := by decide +kernel
theorem dX7_init_10 : decode cX7_init 10 = .ok (.putfield 7, 3) := by decide +kernel
theorem dX7_init_13 : decode cX7_init 13 = .ok (.aload_n 0, 1) := by decide +kernel
theorem dX7_init_14 : decode cX7_init 14 = .ok (.sipush 206, 3) := by decide +kernel
theorem dX7_init_17 : decode cX7_init 17 = .ok (.newarray .int, 2) := by decide +kernel
theorem dX7_init_19 : decode cX7_init 19 = .ok (.putfield 13, 3) := by decide +kernel
theorem dX7_init_22 : decode cX7_init 22 = .ok (.aload_n 0, 1) := by decide +kernel
theorem dX7_init_23 : decode cX7_init 23 = .ok (.sipush 824, 3) := by decide +kernel
theorem dX7_init_26 : decode cX7_init 26 = .ok (.newarray .int, 2) := by decide +kernel
theorem dX7_init_28 : decode cX7_init 28 = .ok (.putfield 16, 3) := by decide +kernel
theorem dX7_init_31 : decode cX7_init 31 = .ok (.aload_n 0, 1) := by decide +kernel
theorem dX7_init_32 : decode cX7_init 32 = .ok (.sipush 206, 3) := by decide +kernel
theorem dX7_init_35 : decode cX7_init 35 = .ok (.newarray .int, 2) := by decide +kernel
theorem dX7_init_37 : decode cX7_init 37 = .ok (.putfield 19, 3) := by decide +kernel
theorem dX7_init_40 : decode cX7_init 40 = .ok (.aload_n 0, 1) := by decide +kernel
theorem dX7_init_41 : decode cX7_init 41 = .ok (.bipush 60, 2) := by decide +kernel
theorem dX7_init_43 : decode cX7_init 43 = .ok (.newarray .int, 2) := by decide +kernel
theorem dX7_init_45 : decode cX7_init 45 = .ok (.putfield 22, 3) := by decide +kernel
theorem dX7_init_48 : decode cX7_init 48 = .ok (.aload_n 0, 1) := by decide +kernel
theorem dX7_init_49 : decode cX7_init 49 = .ok (.iconst 3, 1) := by decide +kernel
theorem dX7_init_50 : decode cX7_init 50 = .ok (.newarray .int, 2) := by decide +kernel
theorem dX7_init_52 : decode cX7_init 52 = .ok (.putfield 25, 3) := by decide +kernel
theorem dX7_init_55 : decode cX7_init 55 = .ok (.aload_n 0, 1) := by decide +kernel
theorem dX7_init_56 : decode cX7_init 56 = .ok (.bipush 7, 2) := by decide +kernel
theorem dX7_init_58 : decode cX7_init 58 = .ok (.newarray .int, 2) := by decide +kernel
theorem dX7_init_60 : decode cX7_init 60 = .ok (.putfield 28, 3) := by decide +kernel
theorem dX7_init_63 : decode cX7_init 63 = .ok (.aload_n 0, 1) := by decide +kernel
theorem dX7_init_64 : decode cX7_init 64 = .ok (.bipush 7, 2) := by decide +kernel
theorem dX7_init_66 : decode cX7_init 66 = .ok (.newarray .int, 2) := by decide +kernel
theorem dX7_init_68 : decode cX7_init 68 = .ok (.putfield 31, 3) := by decide +kernel
theorem dX7_init_71 : decode cX7_init 71 = .ok (.aload_n 0, 1) := by decide +kernel
theorem dX7_init_72 : decode cX7_init 72 = .ok (.getfield 7, 3) := by decide +kernel
theorem dX7_init_75 : decode cX7_init 75 = .ok (.iconst 1, 1) := by decide +kernel
theorem dX7_init_76 : decode cX7_init 76 = .ok (.bipush 20, 2) := by decide +kernel
theorem dX7_init_78 : decode cX7_init 78 = .ok (.iastore, 1) := by decide +kernel
theorem dX7_init_79 : decode cX7_init 79 = .ok (.aload_n 0, 1) := by decide +kernel
theorem dX7_init_80 : decode cX7_init 80 = .ok (.getfield 7, 3) := by decide +kernel
theorem dX7_init_83 : decode cX7_init 83 = .ok (.bipush 8, 2) := by decide +kernel
theorem dX7_init_85 : decode cX7_init 85 = .ok (.iconst 1, 1) := by decide +kernel
theorem dX7_init_86 : decode cX7_init 86 = .ok (.iastore, 1) := by decide +kernel
theorem dX7_init_87 : decode cX7_init 87 = .ok (.aload_n 0, 1) := by decide +kernel
theorem dX7_init_88 : decode cX7_init 88 = .ok (.getfield 7, 3) := by decide +kernel
theorem dX7_init_91 : decode cX7_init 91 = .ok (.bipush 9, 2) := by decide +kernel
theorem dX7_init_93 : decode cX7_init 93 = .ok (.iconst 3, 1) := by decide +kernel
theorem dX7_init_94 : decode cX7_init 94 = .ok (.iastore, 1) := by decide +kernel
theorem dX7_init_95 : decode cX7_init 95 = .ok (.iconst 0, 1) := by decide +kernel
theorem dX7_init_96 : decode cX7_init 96 = .ok (.istore_n 1, 1) := by decide +kernel
theorem dX7_init_97 : decode cX7_init 97 = .ok (.iload_n 1, 1) := by decide +kernel
theorem dX7_init_98 : decode cX7_init 98 = .ok (.bipush 7, 2) := by decide +kernel
theorem dX7_init_100 : decode cX7_init 100 = .ok (.if_icmp .ge 36, 3) := by decide +kernel
theorem dX7_init_103 : decode cX7_init 103 = .ok (.aload_n 0, 1) := by decide +kernel
theorem dX7_init_104 : decode cX7_init 104 = .ok (.getfield 7, 3) := by decide +kernel
theorem dX7_init_107 : decode cX7_init 107 = .ok (.sipush 185, 3) := by decide +kernel
theorem dX7_init_110 : decode cX7_init 110 = .ok (.iconst 3, 1) := by decide +kernel
theorem dX7_init_111 : decode cX7_init 111 = .ok (.iload_n 1, 1) := by decide +kernel
theorem dX7_init_112 : decode cX7_init 112 = .ok (.imul, 1) := by decide +kernel
theorem dX7_init_113 : decode cX7_init 113 = .ok (.iadd, 1) := by decide +kernel
theorem dX7_init_114 : decode cX7_init 114 = .ok (.iload_n 1, 1) := by decide +kernel
theorem dX7_init_115 : decode cX7_init 115 = .ok (.iconst 3, 1) := by decide +kernel
theorem dX7_init_116 : decode cX7_init 116 = .ok (.if_icmp .le 7, 3) := by decide +kernel
theorem dX7_init_119 : decode cX7_init 119 = .ok (.iload_n 1, 1) := by decide +kernel
theorem dX7_init_120 : decode cX7_init 120 = .ok (.goto 7, 3) := by decide +kernel
theorem dX7_init_123 : decode cX7_init 123 = .ok (.bipush 6, 2) := by decide +kernel
theorem dX7_init_125 : decode cX7_init 125 = .ok (.iload_n 1, 1) := by decide +kernel
theorem dX7_init_126 : decode cX7_init 126 = .ok (.isub, 1) := by decide +kernel
theorem dX7_init_127 : decode cX7_init 127 = .ok (.iconst 2, 1) := by decide +kernel
theorem dX7_init_128 : decode cX7_init 128 = .ok (.isub, 1) := by decide +kernel
theorem dX7_init_129 : decode cX7_init 129 = .ok (.iastore, 1) := by decide +kernel
theorem dX7_init_130 : decode cX7_init 130 = .ok (.iinc 1 1, 3) := by decide +kernel
theorem dX7_init_133 : decode cX7_init 133 = .ok (.goto (-36), 3) := by decide +kernel
theorem dX7_init_136 : decode cX7_init 136 = .ok (.return_, 1) := by decide +kernel
theorem dX7_in_0 : decode cX7_in 0 = .ok (.iload_n 0, 1) := by decide +kernel
theorem dX7_in_1 : decode cX7_in 1 = .ok (.iload_n 1, 1) := by decide +kernel
theorem dX7_in_2 : decode cX7_in 2 = .ok (.if_icmp .lt 12, 3) := by decide +kernel
theorem dX7_in_5 : decode cX7_in 5 = .ok (.iload_n 0, 1) := by decide +kernel
theorem dX7_in_6 : decode cX7_in 6 = .ok (.iload_n 2, 1) := by decide +kernel
theorem dX7_in_7 : decode cX7_in 7 = .ok (.if_icmp .gt 7, 3) := by decide +kernel
theorem dX7_in_10 : decode cX7_in 10 = .ok (.iconst 1, 1) := by decide +kernel
theorem dX7_in_11 : decode cX7_in 11 = .ok (.goto 4, 3) := by decide +kernel
theorem dX7_in_14 : decode cX7_in 14 = .ok (.iconst 0, 1) := by decide +kernel
theorem dX7_in_15 : decode cX7_in 15 = .ok (.ireturn, 1) := by decide +kernel
theorem dX7_copies_0 : decode cX7_copies 0 = .ok (.iconst 0, 1) := by decide +kernel
theorem dX7_copies_1 : decode cX7_copies 1 = .ok (.istore 4, 2) := by decide +kernel
theorem dX7_copies_3 : decode cX7_copies 3 = .ok (.iload 4, 2) := by decide +kernel
theorem dX7_copies_5 : decode cX7_copies 5 = .ok (.sipush 206, 3) := by decide +kernel
theorem dX7_copies_8 : decode cX7_copies 8 = .ok (.if_icmp .ge 21, 3) := by decide +kernel
theorem dX7_copies_11 : decode cX7_copies 11 = .ok (.aload_n 2, 1) := by decide +kernel
theorem dX7_copies_12 : decode cX7_copies 12 = .ok (.iload_n 3, 1) := by decide +kernel
theorem dX7_copies_13 : decode cX7_copies 13 = .ok (.iload 4, 2) := by decide +kernel
theorem dX7_copies_15 : decode cX7_copies 15 = .ok (.iadd, 1) := by decide +kernel
theorem dX7_copies_16 : decode cX7_copies 16 = .ok (.aload_n 0, 1) := by decide +kernel
theorem dX7_copies_17 : decode cX7_copies 17 = .ok (.iload_n 1, 1) := by decide +kernel
theorem dX7_copies_18 : decode cX7_copies 18 = .ok (.iload 4, 2) := by decide +kernel
theorem dX7_copies_20 : decode cX7_copies 20 = .ok (.iadd, 1) := by decide +kernel
theorem dX7_copies_21 : decode cX7_copies 21 = .ok (.iaload, 1) := by decide +kernel
theorem dX7_copies_22 : decode cX7_copies 22 = .ok (.iastore, 1) := by decide +kernel
theorem dX7_copies_23 : decode cX7_copies 23 = .ok (.iinc 4 1, 3) := by decide +kernel
theorem dX7_copies_26 : decode cX7_copies 26 = .ok (.goto (-23), 3) := by decide +kernel
theorem dX7_copies_29 : decode cX7_copies 29 = .ok (.return_, 1) := by decide +kernel
set_option maxRecDepth 20000 in
theorem ggX7_records_X7_copies : GoodIn wsX7_records wsX7_copies := goodIn_r _ [7] rfl (by decide +kernel)
set_option maxRecDepth 20000 in
theorem gX7_records_X7_copies : GoodIn wsX7_records (va_wsS RX7 38 yX7_copies wsX7_copies) := goodIn_app (goodIn_of _ (by decide +kernel)) ggX7_records_X7_copies
theorem dX7_records_0 : decode cX7_records 0 = .ok (.aload_n 0, 1) := by decide +kernel
theorem dX7_records_1 : decode cX7_records 1 = .ok (.getfield 34, 3) := by decide +kernel
theorem dX7_records_4 : decode cX7_records 4 = .ok (.iconst 4, 1) := by decide +kernel
theorem dX7_records_5 : decode cX7_records 5 = .ok (.if_icmp .ne 44, 3) := by decide +kernel
theorem dX7_records_8 : decode cX7_records 8 = .ok (.iconst 0, 1) := by decide +kernel
theorem dX7_records_9 : decode cX7_records 9 = .ok (.istore_n 1, 1) := by decide +kernel
theorem dX7_records_10 : decode cX7_records 10 = .ok (.iload_n 1, 1) := by decide +kernel
theorem dX7_records_11 : decode cX7_records 11 = .ok (.sipush 618, 3) := by decide +kernel
theorem dX7_records_14 : decode cX7_records 14 = .ok (.if_icmp .ge 25, 3) := by decide +kernel
theorem dX7_records_17 : decode cX7_records 17 = .ok (.aload_n 0, 1) := by decide +kernel
theorem dX7_records_18 : decode cX7_records 18 = .ok (.getfield 16, 3) := by decide +kernel
theorem dX7_records_21 : decode cX7_records 21 = .ok (.iload_n 1, 1) := by decide +kernel
theorem dX7_records_22 : decode cX7_records 22 = .ok (.aload_n 0, 1) := by decide +kernel
theorem dX7_records_23 : decode cX7_records 23 = .ok (.getfield 16, 3) := by decide +kernel
theorem dX7_records_26 : decode cX7_records 26 = .ok (.iload_n 1, 1) := by decide +kernel
theorem dX7_records_27 : decode cX7_records 27 = .ok (.sipush 206, 3) := by decide +kernel
theorem dX7_records_30 : decode cX7_records 30 = .ok (.iadd, 1) := by decide +kernel
theorem dX7_records_31 : decode cX7_records 31 = .ok (.iaload, 1) := by decide +kernel
theorem dX7_records_32 : decode cX7_records 32 = .ok (.iastore, 1) := by decide +kernel
theorem dX7_records_33 : decode cX7_records 33 = .ok (.iinc 1 1, 3) := by decide +kernel
theorem dX7_records_36 : decode cX7_records 36 = .ok (.goto (-26), 3) := by decide +kernel
theorem dX7_records_39 : decode cX7_records 39 = .ok (.aload_n 0, 1) := by decide +kernel
theorem dX7_records_40 : decode cX7_records 40 = .ok (.dup, 1) := by decide +kernel
theorem dX7_records_41 : decode cX7_records 41 = .ok (.getfield 34, 3) := by decide +kernel
theorem dX7_records_44 : decode cX7_records 44 = .ok (.iconst 1, 1) := by decide +kernel
theorem dX7_records_45 : decode cX7_records 45 = .ok (.isub, 1) := by decide +kernel
theorem dX7_records_46 : decode cX7_records 46 = .ok (.putfield 34, 3) := by decide +kernel
theorem dX7_records_49 : decode cX7_records 49 = .ok (.aload_n 0, 1) := by decide +kernel
theorem dX7_records_50 : decode cX7_records 50 = .ok (.getfield 7, 3) := by decide +kernel
theorem dX7_records_53 : decode cX7_records 53 = .ok (.iconst 0, 1) := by decide +kernel
theorem dX7_records_54 : decode cX7_records 54 = .ok (.aload_n 0, 1) := by decide +kernel
theorem dX7_records_55 : decode cX7_records 55 = .ok (.getfield 16, 3) := by decide +kernel
theorem dX7_records_58 : decode cX7_records 58 = .ok (.sipush 206, 3) := by decide +kernel
theorem dX7_records_61 : decode cX7_records 61 = .ok (.aload_n 0, 1) := by decide +kernel
theorem dX7_records_62 : decode cX7_records 62 = .ok (.getfield 34, 3) := by decide +kernel
theorem dX7_records_65 : decode cX7_records 65 = .ok (.imul, 1) := by decide +kernel
theorem dX7_records_66 : decode cX7_records 66 = .ok (.invokestatic 38, 3) := by decide +kernel
theorem dX7_records_69 : decode cX7_records 69 = .ok (.aload_n 0, 1) := by decide +kernel
theorem dX7_records_70 : decode cX7_records 70 = .ok (.dup, 1) := by decide +kernel
theorem dX7_records_71 : decode cX7_records 71 = .ok (.getfield 34, 3) := by decide +kernel
theorem dX7_records_74 : decode cX7_records 74 = .ok (.iconst 1, 1) := by decide +kernel
theorem dX7_records_75 : decode cX7_records 75 = .ok (.iadd, 1) := by decide +kernel
theorem dX7_records_76 : decode cX7_records 76 = .ok (.putfield 34, 3) := by decide +kernel
theorem dX7_records_79 : decode cX7_records 79 = .ok (.return_, 1) := by decide +kernel
theorem dX7_ones_0 : decode cX7_ones 0 = .ok (.iconst 0, 1) := by decide +kernel
theorem dX7_ones_1 : decode cX7_ones 1 = .ok (.istore_n 1, 1) := by decide +kernel
theorem dX7_ones_2 : decode cX7_ones 2 = .ok (.iconst 0, 1) := by decide +kernel
theorem dX7_ones_3 : decode cX7_ones 3 = .ok (.istore_n 2, 1) := by decide +kernel
theorem dX7_ones_4 : decode cX7_ones 4 = .ok (.iload_n 2, 1) := by decide +kernel
theorem dX7_ones_5 : decode cX7_ones 5 = .ok (.bipush 7, 2) := by decide +kernel
theorem dX7_ones_7 : decode cX7_ones 7 = .ok (.if_icmp .ge 17, 3) := by decide +kernel
theorem dX7_ones_10 : decode cX7_ones 10 = .ok (.iload_n 1, 1) := by decide +kernel
theorem dX7_ones_11 : decode cX7_ones 11 = .ok (.iload_n 0, 1) := by decide +kernel
theorem dX7_ones_12 : decode cX7_ones 12 = .ok (.iload_n 2, 1) := by decide +kernel
theorem dX7_ones_13 : decode cX7_ones 13 = .ok (.ishr, 1) := by decide +kernel
theorem dX7_ones_14 : decode cX7_ones 14 = .ok (.iconst 1, 1) := by decide +kernel
theorem dX7_ones_15 : decode cX7_ones 15 = .ok (.iand, 1) := by decide +kernel
theorem dX7_ones_16 : decode cX7_ones 16 = .ok (.iadd, 1) := by decide +kernel
theorem dX7_ones_17 : decode cX7_ones 17 = .ok (.istore_n 1, 1) := by decide +kernel
theorem dX7_ones_18 : decode cX7_ones 18 = .ok (.iinc 2 1, 3) := by decide +kernel
theorem dX7_ones_21 : decode cX7_ones 21 = .ok (.goto (-17), 3) := by decide +kernel
theorem dX7_ones_24 : decode cX7_ones 24 = .ok (.iload_n 1, 1) := by decide +kernel
theorem dX7_ones_25 : decode cX7_ones 25 = .ok (.ireturn, 1) := by decide +kernel
set_option maxRecDepth 20000 in
theorem ggX7_isPin_X7_in : GoodIn wsX7_isPin wsX7_in := goodIn_r _ [4] rfl (by decide +kernel)
set_option maxRecDepth 20000 in
theorem gX7_isPin_X7_in : GoodIn wsX7_isPin (va_wsS RX7 42 yX7_in wsX7_in) := goodIn_app (goodIn_of _ (by decide +kernel)) ggX7_isPin_X7_in
theorem dX7_isPin_0 : decode cX7_isPin 0 = .ok (.iload_n 0, 1) := by decide +kernel
theorem dX7_isPin_1 : decode cX7_isPin 1 = .ok (.iconst 0, 1) := by decide +kernel
theorem dX7_isPin_2 : decode cX7_isPin 2 = .ok (.bipush 34, 2) := by decide +kernel
theorem dX7_isPin_4 : decode cX7_isPin 4 = .ok (.invokestatic 42, 3) := by decide +kernel
theorem dX7_isPin_7 : decode cX7_isPin 7 = .ok (.ireturn, 1) := by decide +kernel
set_option maxRecDepth 20000 in
theorem ggX7_isPlace_X7_in : GoodIn wsX7_isPlace wsX7_in := goodIn_r _ [4] rfl (by decide +kernel)
set_option maxRecDepth 20000 in
theorem gX7_isPlace_X7_in : GoodIn wsX7_isPlace (va_wsS RX7 42 yX7_in wsX7_in) := goodIn_app (goodIn_of _ (by decide +kernel)) ggX7_isPlace_X7_in
theorem dX7_isPlace_0 : decode cX7_isPlace 0 = .ok (.iload_n 0, 1) := by decide +kernel
theorem dX7_isPlace_1 : decode cX7_isPlace 1 = .ok (.iconst 0, 1) := by decide +kernel
theorem dX7_isPlace_2 : decode cX7_isPlace 2 = .ok (.bipush 6, 2) := by decide +kernel
theorem dX7_isPlace_4 : decode cX7_isPlace 4 = .ok (.invokestatic 42, 3) := by decide +kernel
theorem dX7_isPlace_7 : decode cX7_isPlace 7 = .ok (.ireturn, 1) := by decide +kernel
theorem dX7_of_0 : decode cX7_of 0 = .ok (.aload_n 0, 1) := by decide +kernel
theorem dX7_of_1 : decode cX7_of 1 = .ok (.getfield 7, 3) := by decide +kernel
theorem dX7_of_4 : decode cX7_of 4 = .ok (.bipush 10, 2) := by decide +kernel
theorem dX7_of_6 : decode cX7_of 6 = .ok (.iconst 5, 1) := by decide +kernel
theorem dX7_of_7 : decode cX7_of 7 = .ok (.iload_n 1, 1) := by decide +kernel
theorem dX7_of_8 : decode cX7_of 8 = .ok (.imul, 1) := by decide +kernel
theorem dX7_of_9 : decode cX7_of 9 = .ok (.iadd, 1) := by decide +kernel
theorem dX7_of_10 : decode cX7_of 10 = .ok (.iload_n 2, 1) := by decide +kernel
theorem dX7_of_11 : decode cX7_of 11 = .ok (.iadd, 1) := by decide +kernel
theorem dX7_of_12 : decode cX7_of 12 = .ok (.iaload, 1) := by decide +kernel
theorem dX7_of_13 : decode cX7_of 13 = .ok (.ireturn, 1) := by decide +kernel
theorem dX7_lays_0 : decode cX7_lays 0 = .ok (.aload_n 0, 1) := by decide +kernel
theorem dX7_lays_1 : decode cX7_lays 1 = .ok (.getfield 7, 3) := by decide +kernel
theorem dX7_lays_4 : decode cX7_lays 4 = .ok (.bipush 10, 2) := by decide +kernel
theorem dX7_lays_6 : decode cX7_lays 6 = .ok (.iconst 5, 1) := by decide +kernel
theorem dX7_lays_7 : decode cX7_lays 7 = .ok (.iload_n 1, 1) := by decide +kernel
theorem dX7_lays_8 : decode cX7_lays 8 = .ok (.imul, 1) := by decide +kernel
theorem dX7_lays_9 : decode cX7_lays 9 = .ok (.iadd, 1) := by decide +kernel
theorem dX7_lays_10 : decode cX7_lays 10 = .ok (.iload_n 2, 1) := by decide +kernel
theorem dX7_lays_11 : decode cX7_lays 11 = .ok (.iadd, 1) := by decide +kernel
theorem dX7_lays_12 : decode cX7_lays 12 = .ok (.iload_n 3, 1) := by decide +kernel
theorem dX7_lays_13 : decode cX7_lays 13 = .ok (.iastore, 1) := by decide +kernel
theorem dX7_lays_14 : decode cX7_lays 14 = .ok (.return_, 1) := by decide +kernel
theorem dX7_inPocket_0 : decode cX7_inPocket 0 = .ok (.aload_n 0, 1) := by decide +kernel
theorem dX7_inPocket_1 : decode cX7_inPocket 1 = .ok (.getfield 7, 3) := by decide +kernel
theorem dX7_inPocket_4 : decode cX7_inPocket 4 = .ok (.sipush 185, 3) := by decide +kernel
theorem dX7_inPocket_7 : decode cX7_inPocket 7 = .ok (.iconst 3, 1) := by decide +kernel
theorem dX7_inPocket_8 : decode cX7_inPocket 8 = .ok (.iload_n 1, 1) := by decide +kernel
theorem dX7_inPocket_9 : decode cX7_inPocket 9 = .ok (.imul, 1) := by decide +kernel
theorem dX7_inPocket_10 : decode cX7_inPocket 10 = .ok (.iadd, 1) := by decide +kernel
theorem dX7_inPocket_11 : decode cX7_inPocket 11 = .ok (.iload_n 2, 1) := by decide +kernel
theorem dX7_inPocket_12 : decode cX7_inPocket 12 = .ok (.iadd, 1) := by decide +kernel
theorem dX7_inPocket_13 : decode cX7_inPocket 13 = .ok (.iaload, 1) := by decide +kernel
theorem dX7_inPocket_14 : decode cX7_inPocket 14 = .ok (.ireturn, 1) := by decide +kernel
theorem dX7_adds_0 : decode cX7_adds 0 = .ok (.aload_n 0, 1) := by decide +kernel
theorem dX7_adds_1 : decode cX7_adds 1 = .ok (.getfield 7, 3) := by decide +kernel
theorem dX7_adds_4 : decode cX7_adds 4 = .ok (.sipush 185, 3) := by decide +kernel
theorem dX7_adds_7 : decode cX7_adds 7 = .ok (.iconst 3, 1) := by decide +kernel
theorem dX7_adds_8 : decode cX7_adds 8 = .ok (.iload_n 1, 1) := by decide +kernel
theorem dX7_adds_9 : decode cX7_adds 9 = .ok (.imul, 1) := by decide +kernel
theorem dX7_adds_10 : decode cX7_adds 10 = .ok (.iadd, 1) := by decide +kernel
theorem dX7_adds_11 : decode cX7_adds 11 = .ok (.iload_n 2, 1) := by decide +kernel
theorem dX7_adds_12 : decode cX7_adds 12 = .ok (.iadd, 1) := by decide +kernel
theorem dX7_adds_13 : decode cX7_adds 13 = .ok (.dup2, 1) := by decide +kernel
theorem dX7_adds_14 : decode cX7_adds 14 = .ok (.iaload, 1) := by decide +kernel
theorem dX7_adds_15 : decode cX7_adds 15 = .ok (.iload_n 3, 1) := by decide +kernel
theorem dX7_adds_16 : decode cX7_adds 16 = .ok (.iadd, 1) := by decide +kernel
theorem dX7_adds_17 : decode cX7_adds 17 = .ok (.iastore, 1) := by decide +kernel
theorem dX7_adds_18 : decode cX7_adds 18 = .ok (.return_, 1) := by decide +kernel
set_option maxRecDepth 20000 in
theorem ggX7_isFull_X7_inPocket : GoodIn wsX7_isFull wsX7_inPocket := goodIn_r _ [6, 1, 7, 8, 9, 10, 11, 12, 13, 14, 15, 16, 17, 18, 19, 20, 21, 22, 23] rfl (by decide +kernel)
set_option maxRecDepth 20000 in
theorem gX7_isFull_X7_inPocket : GoodIn wsX7_isFull (wsV RX7 46 RX7 yX7_inPocket wsX7_inPocket) := goodIn_app (goodIn_of _ (by decide +kernel)) ggX7_isFull_X7_inPocket
theorem dX7_isFull_0 : decode cX7_isFull 0 = .ok (.aload_n 0, 1) := by decide +kernel
theorem dX7_isFull_1 : decode cX7_isFull 1 = .ok (.iload_n 1, 1) := by decide +kernel
theorem dX7_isFull_2 : decode cX7_isFull 2 = .ok (.iconst 1, 1) := by decide +kernel
theorem dX7_isFull_3 : decode cX7_isFull 3 = .ok (.invokevirtual 46, 3) := by decide +kernel
theorem dX7_isFull_6 : decode cX7_isFull 6 = .ok (.aload_n 0, 1) := by decide +kernel
theorem dX7_isFull_7 : decode cX7_isFull 7 = .ok (.getfield 7, 3) := by decide +kernel
theorem dX7_isFull_10 : decode cX7_isFull 10 = .ok (.bipush 9, 2) := by decide +kernel
theorem dX7_isFull_12 : decode cX7_isFull 12 = .ok (.iaload, 1) := by decide +kernel
theorem dX7_isFull_13 : decode cX7_isFull 13 = .ok (.if_icmp .lt 7, 3) := by decide +kernel
theorem dX7_isFull_16 : decode cX7_isFull 16 = .ok (.iconst 1, 1) := by decide +kernel
theorem dX7_isFull_17 : decode cX7_isFull 17 = .ok (.goto 4, 3) := by decide +kernel
theorem dX7_isFull_20 : decode cX7_isFull 20 = .ok (.iconst 0, 1) := by decide +kernel
theorem dX7_isFull_21 : decode cX7_isFull 21 = .ok (.ireturn, 1) := by decide +kernel
set_option maxRecDepth 20000 in
theorem ggX7_sends_X7_of : GoodIn wsX7_sends wsX7_of := goodIn_r _ [6, 1, 7, 8, 9, 10, 11, 12, 13, 14, 15, 16, 17, 18, 19, 20, 21, 22, 23] rfl (by decide +kernel)
set_option maxRecDepth 20000 in
theorem gX7_sends_X7_of : GoodIn wsX7_sends (wsV RX7 50 RX7 yX7_of wsX7_of) := goodIn_app (goodIn_of _ (by decide +kernel)) ggX7_sends_X7_of
theorem dX7_sends_0 : decode cX7_sends 0 = .ok (.aload_n 0, 1) := by decide +kernel
theorem dX7_sends_1 : decode cX7_sends 1 = .ok (.iload_n 1, 1) := by decide +kernel
theorem dX7_sends_2 : decode cX7_sends 2 = .ok (.iconst 0, 1) := by decide +kernel
theorem dX7_sends_3 : decode cX7_sends 3 = .ok (.invokevirtual 50, 3) := by decide +kernel
theorem dX7_sends_6 : decode cX7_sends 6 = .ok (.istore_n 2, 1) := by decide +kernel
theorem dX7_sends_7 : decode cX7_sends 7 = .ok (.iload_n 2, 1) := by decide +kernel
theorem dX7_sends_8 : decode cX7_sends 8 = .ok (.ifCond .ge 7, 3) := by decide +kernel
theorem dX7_sends_11 : decode cX7_sends 11 = .ok (.iconst (-1), 1) := by decide +kernel
theorem dX7_sends_12 : decode cX7_sends 12 = .ok (.goto 20, 3) := by decide +kernel
theorem dX7_sends_15 : decode cX7_sends 15 = .ok (.iload_n 2, 1) := by decide +kernel
theorem dX7_sends_16 : decode cX7_sends 16 = .ok (.ifCond .le 7, 3) := by decide +kernel
theorem dX7_sends_19 : decode cX7_sends 19 = .ok (.iconst 1, 1) := by decide +kernel
theorem dX7_sends_20 : decode cX7_sends 20 = .ok (.goto 12, 3) := by decide +kernel
theorem dX7_sends_23 : decode cX7_sends 23 = .ok (.aload_n 0, 1) := by decide +kernel
theorem dX7_sends_24 : decode cX7_sends 24 = .ok (.getfield 7, 3) := by decide +kernel
theorem dX7_sends_27 : decode cX7_sends 27 = .ok (.bipush 8, 2) := by decide +kernel
theorem dX7_sends_29 : decode cX7_sends 29 = .ok (.iaload, 1) := by decide +kernel
theorem dX7_sends_30 : decode cX7_sends 30 = .ok (.iconst 1, 1) := by decide +kernel
theorem dX7_sends_31 : decode cX7_sends 31 = .ok (.isub, 1) := by decide +kernel
theorem dX7_sends_32 : decode cX7_sends 32 = .ok (.ireturn, 1) := by decide +kernel
set_option maxRecDepth 20000 in
theorem ggX7_moved_X7_in : GoodIn wsX7_moved wsX7_in := goodIn_r _ [4] rfl (by decide +kernel)
set_option maxRecDepth 20000 in
theorem gX7_moved_X7_in : GoodIn wsX7_moved (va_wsS RX7 42 yX7_in wsX7_in) := goodIn_app (goodIn_of _ (by decide +kernel)) ggX7_moved_X7_in
theorem dX7_moved_0 : decode cX7_moved 0 = .ok (.iload_n 0, 1) := by decide +kernel
theorem dX7_moved_1 : decode cX7_moved 1 = .ok (.iload_n 1, 1) := by decide +kernel
theorem dX7_moved_2 : decode cX7_moved 2 = .ok (.iadd, 1) := by decide +kernel
theorem dX7_moved_3 : decode cX7_moved 3 = .ok (.iconst 0, 1) := by decide +kernel
theorem dX7_moved_4 : decode cX7_moved 4 = .ok (.bipush 6, 2) := by decide +kernel
theorem dX7_moved_6 : decode cX7_moved 6 = .ok (.invokestatic 42, 3) := by decide +kernel
theorem dX7_moved_9 : decode cX7_moved 9 = .ok (.ifCond .eq 9, 3) := by decide +kernel
theorem dX7_moved_12 : decode cX7_moved 12 = .ok (.iload_n 0, 1) := by decide +kernel
theorem dX7_moved_13 : decode cX7_moved 13 = .ok (.iload_n 1, 1) := by decide +kernel
theorem dX7_moved_14 : decode cX7_moved 14 = .ok (.iadd, 1) := by decide +kernel
theorem dX7_moved_15 : decode cX7_moved 15 = .ok (.goto 4, 3) := by decide +kernel
theorem dX7_moved_18 : decode cX7_moved 18 = .ok (.iload_n 0, 1) := by decide +kernel
theorem dX7_moved_19 : decode cX7_moved 19 = .ok (.ireturn, 1) := by decide +kernel
set_option maxRecDepth 20000 in
theorem ggX7_bends_X7_of : GoodIn wsX7_bends wsX7_of := goodIn_r _ [6, 1, 14, 15, 16, 17, 18, 19, 20, 21, 22, 23, 24, 25, 26, 27, 28, 29, 30] rfl (by decide +kernel)
set_option maxRecDepth 20000 in
theorem gX7_bends_X7_of : GoodIn wsX7_bends (wsV RX7 50 RX7 yX7_of wsX7_of) := goodIn_app (goodIn_of _ (by decide +kernel)) ggX7_bends_X7_of
set_option maxRecDepth 20000 in
theorem ggX7_bends_X7_in : GoodIn wsX7_bends wsX7_in := goodIn_r _ [9] rfl (by decide +kernel)
set_option maxRecDepth 20000 in
theorem gX7_bends_X7_in : GoodIn wsX7_bends (va_wsS RX7 42 yX7_in wsX7_in) := goodIn_app (goodIn_of _ (by decide +kernel)) ggX7_bends_X7_in
set_option maxRecDepth 20000 in
theorem ggX7_bends_X7_lays : GoodIn wsX7_bends wsX7_lays := goodIn_r _ [13, 1, 14, 15, 16, 17, 18, 19, 20, 21, 22, 23, 24, 25, 26, 27, 28, 29, 30] rfl (by decide +kernel)
set_option maxRecDepth 20000 in
theorem gX7_bends_X7_lays : GoodIn wsX7_bends (wsV RX7 53 RX7 yX7_lays wsX7_lays) := goodIn_app (goodIn_of _ (by decide +kernel)) ggX7_bends_X7_lays
theorem dX7_bends_0 : decode cX7_bends 0 = .ok (.aload_n 0, 1) := by decide +kernel
theorem dX7_bends_1 : decode cX7_bends 1 = .ok (.iload_n 1, 1) := by decide +kernel
theorem dX7_bends_2 : decode cX7_bends 2 = .ok (.iconst 0, 1) := by decide +kernel
theorem dX7_bends_3 : decode cX7_bends 3 = .ok (.invokevirtual 50, 3) := by decide +kernel
theorem dX7_bends_6 : decode cX7_bends 6 = .ok (.iload_n 2, 1) := by decide +kernel
theorem dX7_bends_7 : decode cX7_bends 7 = .ok (.iadd, 1) := by decide +kernel
theorem dX7_bends_8 : decode cX7_bends 8 = .ok (.istore_n 3, 1) := by decide +kernel
theorem dX7_bends_9 : decode cX7_bends 9 = .ok (.iload_n 3, 1) := by decide +kernel
theorem dX7_bends_10 : decode cX7_bends 10 = .ok (.bipush (-3), 2) := by decide +kernel
theorem dX7_bends_12 : decode cX7_bends 12 = .ok (.iconst 3, 1) := by decide +kernel
theorem dX7_bends_13 : decode cX7_bends 13 = .ok (.invokestatic 42, 3) := by decide +kernel
theorem dX7_bends_16 : decode cX7_bends 16 = .ok (.ifCond .eq 21, 3) := by decide +kernel
theorem dX7_bends_19 : decode cX7_bends 19 = .ok (.aload_n 0, 1) := by decide +kernel
theorem dX7_bends_20 : decode cX7_bends 20 = .ok (.iload_n 1, 1) := by decide +kernel
theorem dX7_bends_21 : decode cX7_bends 21 = .ok (.iconst 0, 1) := by decide +kernel
theorem dX7_bends_22 : decode cX7_bends 22 = .ok (.iload_n 3, 1) := by decide +kernel
theorem dX7_bends_23 : decode cX7_bends 23 = .ok (.invokevirtual 53, 3) := by decide +kernel
theorem dX7_bends_26 : decode cX7_bends 26 = .ok (.aload_n 0, 1) := by decide +kernel
theorem dX7_bends_27 : decode cX7_bends 27 = .ok (.getfield 7, 3) := by decide +kernel
theorem dX7_bends_30 : decode cX7_bends 30 = .ok (.bipush 6, 2) := by decide +kernel
theorem dX7_bends_32 : decode cX7_bends 32 = .ok (.dup2, 1) := by decide +kernel
theorem dX7_bends_33 : decode cX7_bends 33 = .ok (.iaload, 1) := by decide +kernel
theorem dX7_bends_34 : decode cX7_bends 34 = .ok (.iconst 1, 1) := by decide +kernel
theorem dX7_bends_35 : decode cX7_bends 35 = .ok (.iadd, 1) := by decide +kernel
theorem dX7_bends_36 : decode cX7_bends 36 = .ok (.iastore, 1) := by decide +kernel
theorem dX7_bends_37 : decode cX7_bends 37 = .ok (.return_, 1) := by decide +kernel
set_option maxRecDepth 20000 in
theorem ggX7_falls_X7_of : GoodIn wsX7_falls wsX7_of := goodIn_r _ [6, 7, 26, 27, 28, 29, 30, 31, 32, 33, 34, 35, 36, 37, 38, 39, 40, 41, 42] rfl (by decide +kernel)
set_option maxRecDepth 20000 in
theorem gX7_falls_X7_of : GoodIn wsX7_falls (wsV RX7 50 RX7 yX7_of wsX7_of) := goodIn_app (goodIn_of _ (by decide +kernel)) ggX7_falls_X7_of
set_option maxRecDepth 20000 in
theorem ggX7_falls_X7_lays : GoodIn wsX7_falls wsX7_lays := goodIn_r _ [11, 7, 26, 27, 28, 29, 30, 31, 32, 33, 34, 35, 36, 37, 38, 39, 40, 41, 42] rfl (by decide +kernel)
set_option maxRecDepth 20000 in
theorem gX7_falls_X7_lays : GoodIn wsX7_falls (wsV RX7 53 RX7 yX7_lays wsX7_lays) := goodIn_app (goodIn_of _ (by decide +kernel)) ggX7_falls_X7_lays
set_option maxRecDepth 20000 in
theorem ggX7_falls_X7_sends : GoodIn wsX7_falls wsX7_sends := goodIn_r _ [15, 7, 2, 3, 4, 5, 6, 26, 27, 28, 29, 30, 31, 32, 33, 34, 35, 36, 37, 38, 39, 40, 41, 42] rfl (by decide +kernel)
set_option maxRecDepth 20000 in
theorem gX7_falls_X7_sends : GoodIn wsX7_falls (wsV RX7 60 RX7 yX7_sends wsX7_sends) := goodIn_app (goodIn_of _ (by decide +kernel)) ggX7_falls_X7_sends
set_option maxRecDepth 20000 in
theorem ggX7_falls_X7_bends : GoodIn wsX7_falls wsX7_bends := goodIn_r _ [19, 7, 2, 3, 4, 5, 6, 20, 21, 22, 8, 9, 10, 11, 26, 27, 28, 29, 30, 31, 32, 33, 34, 35, 36, 37, 38, 39, 40, 41, 42] rfl (by decide +kernel)
set_option maxRecDepth 20000 in
theorem gX7_falls_X7_bends : GoodIn wsX7_falls (wsV RX7 64 RX7 yX7_bends wsX7_bends) := goodIn_app (goodIn_of _ (by decide +kernel)) ggX7_falls_X7_bends
set_option maxRecDepth 20000 in
theorem ggX7_falls_X7_moved : GoodIn wsX7_falls wsX7_moved := goodIn_r _ [25, 20, 21, 5, 22] rfl (by decide +kernel)
set_option maxRecDepth 20000 in
theorem gX7_falls_X7_moved : GoodIn wsX7_falls (va_wsS RX7 68 yX7_moved wsX7_moved) := goodIn_app (goodIn_of _ (by decide +kernel)) ggX7_falls_X7_moved
theorem dX7_falls_0 : decode cX7_falls 0 = .ok (.aload_n 0, 1) := by decide +kernel
theorem dX7_falls_1 : decode cX7_falls 1 = .ok (.iload_n 1, 1) := by decide +kernel
theorem dX7_falls_2 : decode cX7_falls 2 = .ok (.iconst 4, 1) := by decide +kernel
theorem dX7_falls_3 : decode cX7_falls 3 = .ok (.aload_n 0, 1) := by decide +kernel
theorem dX7_falls_4 : decode cX7_falls 4 = .ok (.iload_n 1, 1) := by decide +kernel
theorem dX7_falls_5 : decode cX7_falls 5 = .ok (.iconst 4, 1) := by decide +kernel
theorem dX7_falls_6 : decode cX7_falls 6 = .ok (.invokevirtual 50, 3) := by decide +kernel
theorem dX7_falls_9 : decode cX7_falls 9 = .ok (.iconst 1, 1) := by decide +kernel
theorem dX7_falls_10 : decode cX7_falls 10 = .ok (.iadd, 1) := by decide +kernel
theorem dX7_falls_11 : decode cX7_falls 11 = .ok (.invokevirtual 53, 3) := by decide +kernel
theorem dX7_falls_14 : decode cX7_falls 14 = .ok (.aload_n 0, 1) := by decide +kernel
theorem dX7_falls_15 : decode cX7_falls 15 = .ok (.iload_n 1, 1) := by decide +kernel
theorem dX7_falls_16 : decode cX7_falls 16 = .ok (.iconst 1, 1) := by decide +kernel
theorem dX7_falls_17 : decode cX7_falls 17 = .ok (.invokevirtual 50, 3) := by decide +kernel
theorem dX7_falls_20 : decode cX7_falls 20 = .ok (.iconst 1, 1) := by decide +kernel
theorem dX7_falls_21 : decode cX7_falls 21 = .ok (.if_icmp .ne 5, 3) := by decide +kernel
theorem dX7_falls_24 : decode cX7_falls 24 = .ok (.iload_n 2, 1) := by decide +kernel
theorem dX7_falls_25 : decode cX7_falls 25 = .ok (.ireturn, 1) := by decide +kernel
theorem dX7_falls_26 : decode cX7_falls 26 = .ok (.aload_n 0, 1) := by decide +kernel
theorem dX7_falls_27 : decode cX7_falls 27 = .ok (.dup, 1) := by decide +kernel
theorem dX7_falls_28 : decode cX7_falls 28 = .ok (.getfield 57, 3) := by decide +kernel
theorem dX7_falls_31 : decode cX7_falls 31 = .ok (.aload_n 0, 1) := by decide +kernel
theorem dX7_falls_32 : decode cX7_falls 32 = .ok (.iload_n 1, 1) := by decide +kernel
theorem dX7_falls_33 : decode cX7_falls 33 = .ok (.iconst 2, 1) := by decide +kernel
theorem dX7_falls_34 : decode cX7_falls 34 = .ok (.invokevirtual 50, 3) := by decide +kernel
theorem dX7_falls_37 : decode cX7_falls 37 = .ok (.iadd, 1) := by decide +kernel
theorem dX7_falls_38 : decode cX7_falls 38 = .ok (.putfield 57, 3) := by decide +kernel
theorem dX7_falls_41 : decode cX7_falls 41 = .ok (.aload_n 0, 1) := by decide +kernel
theorem dX7_falls_42 : decode cX7_falls 42 = .ok (.iload_n 1, 1) := by decide +kernel
theorem dX7_falls_43 : decode cX7_falls 43 = .ok (.invokevirtual 60, 3) := by decide +kernel
theorem dX7_falls_46 : decode cX7_falls 46 = .ok (.istore 4, 2) := by decide +kernel
theorem dX7_falls_48 : decode cX7_falls 48 = .ok (.iload 4, 2) := by decide +kernel
theorem dX7_falls_50 : decode cX7_falls 50 = .ok (.ifCond .ne 33, 3) := by decide +kernel
theorem dX7_falls_53 : decode cX7_falls 53 = .ok (.aload_n 0, 1) := by decide +kernel
theorem dX7_falls_54 : decode cX7_falls 54 = .ok (.iload_n 1, 1) := by decide +kernel
theorem dX7_falls_55 : decode cX7_falls 55 = .ok (.iconst 3, 1) := by decide +kernel
theorem dX7_falls_56 : decode cX7_falls 56 = .ok (.invokevirtual 50, 3) := by decide +kernel
theorem dX7_falls_59 : decode cX7_falls 59 = .ok (.ifCond .ne 7, 3) := by decide +kernel
theorem dX7_falls_62 : decode cX7_falls 62 = .ok (.iconst (-1), 1) := by decide +kernel
theorem dX7_falls_63 : decode cX7_falls 63 = .ok (.goto 4, 3) := by decide +kernel
theorem dX7_falls_66 : decode cX7_falls 66 = .ok (.iconst 1, 1) := by decide +kernel
theorem dX7_falls_67 : decode cX7_falls 67 = .ok (.istore 4, 2) := by decide +kernel
theorem dX7_falls_69 : decode cX7_falls 69 = .ok (.aload_n 0, 1) := by decide +kernel
theorem dX7_falls_70 : decode cX7_falls 70 = .ok (.iload_n 1, 1) := by decide +kernel
theorem dX7_falls_71 : decode cX7_falls 71 = .ok (.iconst 3, 1) := by decide +kernel
theorem dX7_falls_72 : decode cX7_falls 72 = .ok (.iconst 1, 1) := by decide +kernel
theorem dX7_falls_73 : decode cX7_falls 73 = .ok (.aload_n 0, 1) := by decide +kernel
theorem dX7_falls_74 : decode cX7_falls 74 = .ok (.iload_n 1, 1) := by decide +kernel
theorem dX7_falls_75 : decode cX7_falls 75 = .ok (.iconst 3, 1) := by decide +kernel
theorem dX7_falls_76 : decode cX7_falls 76 = .ok (.invokevirtual 50, 3) := by decide +kernel
theorem dX7_falls_79 : decode cX7_falls 79 = .ok (.isub, 1) := by decide +kernel
theorem dX7_falls_80 : decode cX7_falls 80 = .ok (.invokevirtual 53, 3) := by decide +kernel
theorem dX7_falls_83 : decode cX7_falls 83 = .ok (.iload_n 3, 1) := by decide +kernel
theorem dX7_falls_84 : decode cX7_falls 84 = .ok (.ifCond .eq 10, 3) := by decide +kernel
theorem dX7_falls_87 : decode cX7_falls 87 = .ok (.aload_n 0, 1) := by decide +kernel
theorem dX7_falls_88 : decode cX7_falls 88 = .ok (.iload_n 1, 1) := by decide +kernel
theorem dX7_falls_89 : decode cX7_falls 89 = .ok (.iload 4, 2) := by decide +kernel
theorem dX7_falls_91 : decode cX7_falls 91 = .ok (.invokevirtual 64, 3) := by decide +kernel
theorem dX7_falls_94 : decode cX7_falls 94 = .ok (.iload_n 2, 1) := by decide +kernel
theorem dX7_falls_95 : decode cX7_falls 95 = .ok (.iload 4, 2) := by decide +kernel
theorem dX7_falls_97 : decode cX7_falls 97 = .ok (.invokestatic 68, 3) := by decide +kernel
theorem dX7_falls_100 : decode cX7_falls 100 = .ok (.ireturn, 1) := by decide +kernel
set_option maxRecDepth 20000 in
theorem ggX7_fallsAll_X7_falls : GoodIn wsX7_fallsAll wsX7_falls := goodIn_r _ [6, 1, 7, 8, 9, 5, 10, 11, 12, 13, 14, 15, 16, 17, 18, 19, 20, 21, 22, 23, 24, 25, 26, 27, 28, 29, 30, 31, 32, 33, 34, 35, 36, 37, 38, 39, 40, 41, 42, 43, 44, 45, 46] rfl (by decide +kernel)
set_option maxRecDepth 20000 in
theorem gX7_fallsAll_X7_falls : GoodIn wsX7_fallsAll (wsV RX7 71 RX7 yX7_falls wsX7_falls) := goodIn_app (goodIn_of _ (by decide +kernel)) ggX7_fallsAll_X7_falls
theorem dX7_fallsAll_0 : decode cX7_fallsAll 0 = .ok (.aload_n 0, 1) := by decide +kernel
theorem dX7_fallsAll_1 : decode cX7_fallsAll 1 = .ok (.iconst 0, 1) := by decide +kernel
theorem dX7_fallsAll_2 : decode cX7_fallsAll 2 = .ok (.putfield 57, 3) := by decide +kernel
theorem dX7_fallsAll_5 : decode cX7_fallsAll 5 = .ok (.iload_n 1, 1) := by decide +kernel
theorem dX7_fallsAll_6 : decode cX7_fallsAll 6 = .ok (.istore_n 3, 1) := by decide +kernel
theorem dX7_fallsAll_7 : decode cX7_fallsAll 7 = .ok (.iconst 0, 1) := by decide +kernel
theorem dX7_fallsAll_8 : decode cX7_fallsAll 8 = .ok (.istore 4, 2) := by decide +kernel
theorem dX7_fallsAll_10 : decode cX7_fallsAll 10 = .ok (.iload 4, 2) := by decide +kernel
theorem dX7_fallsAll_12 : decode cX7_fallsAll 12 = .ok (.iconst 5, 1) := by decide +kernel
theorem dX7_fallsAll_13 : decode cX7_fallsAll 13 = .ok (.if_icmp .ge 23, 3) := by decide +kernel
theorem dX7_fallsAll_16 : decode cX7_fallsAll 16 = .ok (.aload_n 0, 1) := by decide +kernel
theorem dX7_fallsAll_17 : decode cX7_fallsAll 17 = .ok (.bipush 7, 2) := by decide +kernel
theorem dX7_fallsAll_19 : decode cX7_fallsAll 19 = .ok (.iload 4, 2) := by decide +kernel
theorem dX7_fallsAll_21 : decode cX7_fallsAll 21 = .ok (.imul, 1) := by decide +kernel
theorem dX7_fallsAll_22 : decode cX7_fallsAll 22 = .ok (.iload_n 3, 1) := by decide +kernel
theorem dX7_fallsAll_23 : decode cX7_fallsAll 23 = .ok (.iadd, 1) := by decide +kernel
theorem dX7_fallsAll_24 : decode cX7_fallsAll 24 = .ok (.iload_n 3, 1) := by decide +kernel
theorem dX7_fallsAll_25 : decode cX7_fallsAll 25 = .ok (.iload_n 2, 1) := by decide +kernel
theorem dX7_fallsAll_26 : decode cX7_fallsAll 26 = .ok (.invokevirtual 71, 3) := by decide +kernel
theorem dX7_fallsAll_29 : decode cX7_fallsAll 29 = .ok (.istore_n 3, 1) := by decide +kernel
theorem dX7_fallsAll_30 : decode cX7_fallsAll 30 = .ok (.iinc 4 1, 3) := by decide +kernel
theorem dX7_fallsAll_33 : decode cX7_fallsAll 33 = .ok (.goto (-23), 3) := by decide +kernel
theorem dX7_fallsAll_36 : decode cX7_fallsAll 36 = .ok (.iload_n 3, 1) := by decide +kernel
theorem dX7_fallsAll_37 : decode cX7_fallsAll 37 = .ok (.ireturn, 1) := by decide +kernel
set_option maxRecDepth 20000 in
theorem ggX7_goShoot_X7_fallsAll : GoodIn wsX7_goShoot wsX7_fallsAll := goodIn_r _ [7, 2, 8, 9, 10, 6, 11, 12, 13, 14, 15, 1, 16, 17, 18, 19, 20, 21, 22, 23, 24, 25, 26, 27, 28, 29, 30, 31, 32, 33, 46, 47, 48, 49, 50, 51, 52, 53, 54, 55, 56, 57, 58, 59, 60, 61, 62] rfl (by decide +kernel)
set_option maxRecDepth 20000 in
theorem gX7_goShoot_X7_fallsAll : GoodIn wsX7_goShoot (wsV RX7 75 RX7 yX7_fallsAll wsX7_fallsAll) := goodIn_app (goodIn_of _ (by decide +kernel)) ggX7_goShoot_X7_fallsAll
set_option maxRecDepth 20000 in
theorem ggX7_goShoot_X7_adds : GoodIn wsX7_goShoot wsX7_adds := goodIn_r _ [37, 1, 46, 47, 48, 49, 50, 51, 52, 53, 54, 55, 56, 57, 58, 59, 60, 61, 62] rfl (by decide +kernel)
set_option maxRecDepth 20000 in
theorem gX7_goShoot_X7_adds : GoodIn wsX7_goShoot (wsV RX7 79 RX7 yX7_adds wsX7_adds) := goodIn_app (goodIn_of _ (by decide +kernel)) ggX7_goShoot_X7_adds
set_option maxRecDepth 20000 in
theorem ggX7_goShoot_X7_isFull : GoodIn wsX7_goShoot wsX7_isFull := goodIn_r _ [41, 1, 42, 43, 44, 6, 45, 46, 47, 48, 49, 50, 51, 52, 53, 54, 55, 56, 57, 58, 59, 60, 61, 62] rfl (by decide +kernel)
set_option maxRecDepth 20000 in
theorem gX7_goShoot_X7_isFull : GoodIn wsX7_goShoot (wsV RX7 82 RX7 yX7_isFull wsX7_isFull) := goodIn_app (goodIn_of _ (by decide +kernel)) ggX7_goShoot_X7_isFull
set_option maxRecDepth 20000 in
theorem ggX7_goShoot_X7_inPocket : GoodIn wsX7_goShoot wsX7_inPocket := goodIn_r _ [45, 1, 46, 47, 48, 49, 50, 51, 52, 53, 54, 55, 56, 57, 58, 59, 60, 61, 62] rfl (by decide +kernel)
set_option maxRecDepth 20000 in
theorem gX7_goShoot_X7_inPocket : GoodIn wsX7_goShoot (wsV RX7 46 RX7 yX7_inPocket wsX7_inPocket) := goodIn_app (goodIn_of _ (by decide +kernel)) ggX7_goShoot_X7_inPocket
theorem dX7_goShoot_0 : decode cX7_goShoot 0 = .ok (.aload_n 0, 1) := by decide +kernel
theorem dX7_goShoot_1 : decode cX7_goShoot 1 = .ok (.getfield 7, 3) := by decide +kernel
theorem dX7_goShoot_4 : decode cX7_goShoot 4 = .ok (.iconst 1, 1) := by decide +kernel
theorem dX7_goShoot_5 : decode cX7_goShoot 5 = .ok (.iaload, 1) := by decide +kernel
theorem dX7_goShoot_6 : decode cX7_goShoot 6 = .ok (.ifCond .ne 16, 3) := by decide +kernel
theorem dX7_goShoot_9 : decode cX7_goShoot 9 = .ok (.aload_n 0, 1) := by decide +kernel
theorem dX7_goShoot_10 : decode cX7_goShoot 10 = .ok (.getfield 7, 3) := by decide +kernel
theorem dX7_goShoot_13 : decode cX7_goShoot 13 = .ok (.bipush 7, 2) := by decide +kernel
theorem dX7_goShoot_15 : decode cX7_goShoot 15 = .ok (.dup2, 1) := by decide +kernel
theorem dX7_goShoot_16 : decode cX7_goShoot 16 = .ok (.iaload, 1) := by decide +kernel
theorem dX7_goShoot_17 : decode cX7_goShoot 17 = .ok (.iconst 1, 1) := by decide +kernel
theorem dX7_goShoot_18 : decode cX7_goShoot 18 = .ok (.iadd, 1) := by decide +kernel
theorem dX7_goShoot_19 : decode cX7_goShoot 19 = .ok (.iastore, 1) := by decide +kernel
theorem dX7_goShoot_20 : decode cX7_goShoot 20 = .ok (.iconst 1, 1) := by decide +kernel
theorem dX7_goShoot_21 : decode cX7_goShoot 21 = .ok (.ireturn, 1) := by decide +kernel
theorem dX7_goShoot_22 : decode cX7_goShoot 22 = .ok (.aload_n 0, 1) := by decide +kernel
theorem dX7_goShoot_23 : decode cX7_goShoot 23 = .ok (.getfield 7, 3) := by decide +kernel
theorem dX7_goShoot_26 : decode cX7_goShoot 26 = .ok (.iconst 1, 1) := by decide +kernel
theorem dX7_goShoot_27 : decode cX7_goShoot 27 = .ok (.dup2, 1) := by decide +kernel
theorem dX7_goShoot_28 : decode cX7_goShoot 28 = .ok (.iaload, 1) := by decide +kernel
theorem dX7_goShoot_29 : decode cX7_goShoot 29 = .ok (.iconst 1, 1) := by decide +kernel
theorem dX7_goShoot_30 : decode cX7_goShoot 30 = .ok (.isub, 1) := by decide +kernel
theorem dX7_goShoot_31 : decode cX7_goShoot 31 = .ok (.iastore, 1) := by decide +kernel
theorem dX7_goShoot_32 : decode cX7_goShoot 32 = .ok (.aload_n 0, 1) := by decide +kernel
theorem dX7_goShoot_33 : decode cX7_goShoot 33 = .ok (.getfield 7, 3) := by decide +kernel
theorem dX7_goShoot_36 : decode cX7_goShoot 36 = .ok (.iconst 3, 1) := by decide +kernel
theorem dX7_goShoot_37 : decode cX7_goShoot 37 = .ok (.dup2, 1) := by decide +kernel
theorem dX7_goShoot_38 : decode cX7_goShoot 38 = .ok (.iaload, 1) := by decide +kernel
theorem dX7_goShoot_39 : decode cX7_goShoot 39 = .ok (.iconst 1, 1) := by decide +kernel
theorem dX7_goShoot_40 : decode cX7_goShoot 40 = .ok (.iadd, 1) := by decide +kernel
theorem dX7_goShoot_41 : decode cX7_goShoot 41 = .ok (.iastore, 1) := by decide +kernel
theorem dX7_goShoot_42 : decode cX7_goShoot 42 = .ok (.aload_n 0, 1) := by decide +kernel
theorem dX7_goShoot_43 : decode cX7_goShoot 43 = .ok (.getfield 7, 3) := by decide +kernel
theorem dX7_goShoot_46 : decode cX7_goShoot 46 = .ok (.iconst 4, 1) := by decide +kernel
theorem dX7_goShoot_47 : decode cX7_goShoot 47 = .ok (.dup2, 1) := by decide +kernel
theorem dX7_goShoot_48 : decode cX7_goShoot 48 = .ok (.iaload, 1) := by decide +kernel
theorem dX7_goShoot_49 : decode cX7_goShoot 49 = .ok (.iload_n 2, 1) := by decide +kernel
theorem dX7_goShoot_50 : decode cX7_goShoot 50 = .ok (.ifCond .eq 7, 3) := by decide +kernel
theorem dX7_goShoot_53 : decode cX7_goShoot 53 = .ok (.iconst 1, 1) := by decide +kernel
theorem dX7_goShoot_54 : decode cX7_goShoot 54 = .ok (.goto 4, 3) := by decide +kernel
theorem dX7_goShoot_57 : decode cX7_goShoot 57 = .ok (.iconst 0, 1) := by decide +kernel
theorem dX7_goShoot_58 : decode cX7_goShoot 58 = .ok (.iadd, 1) := by decide +kernel
theorem dX7_goShoot_59 : decode cX7_goShoot 59 = .ok (.iastore, 1) := by decide +kernel
theorem dX7_goShoot_60 : decode cX7_goShoot 60 = .ok (.aload_n 0, 1) := by decide +kernel
theorem dX7_goShoot_61 : decode cX7_goShoot 61 = .ok (.iload_n 1, 1) := by decide +kernel
theorem dX7_goShoot_62 : decode cX7_goShoot 62 = .ok (.iload_n 2, 1) := by decide +kernel
theorem dX7_goShoot_63 : decode cX7_goShoot 63 = .ok (.invokevirtual 75, 3) := by decide +kernel
theorem dX7_goShoot_66 : decode cX7_goShoot 66 = .ok (.istore_n 3, 1) := by decide +kernel
theorem dX7_goShoot_67 : decode cX7_goShoot 67 = .ok (.aload_n 0, 1) := by decide +kernel
theorem dX7_goShoot_68 : decode cX7_goShoot 68 = .ok (.getfield 57, 3) := by decide +kernel
theorem dX7_goShoot_71 : decode cX7_goShoot 71 = .ok (.istore 4, 2) := by decide +kernel
theorem dX7_goShoot_73 : decode cX7_goShoot 73 = .ok (.aload_n 0, 1) := by decide +kernel
theorem dX7_goShoot_74 : decode cX7_goShoot 74 = .ok (.getfield 7, 3) := by decide +kernel
theorem dX7_goShoot_77 : decode cX7_goShoot 77 = .ok (.iconst 5, 1) := by decide +kernel
theorem dX7_goShoot_78 : decode cX7_goShoot 78 = .ok (.dup2, 1) := by decide +kernel
theorem dX7_goShoot_79 : decode cX7_goShoot 79 = .ok (.iaload, 1) := by decide +kernel
theorem dX7_goShoot_80 : decode cX7_goShoot 80 = .ok (.aload_n 0, 1) := by decide +kernel
theorem dX7_goShoot_81 : decode cX7_goShoot 81 = .ok (.getfield 57, 3) := by decide +kernel
theorem dX7_goShoot_84 : decode cX7_goShoot 84 = .ok (.iadd, 1) := by decide +kernel
theorem dX7_goShoot_85 : decode cX7_goShoot 85 = .ok (.iastore, 1) := by decide +kernel
theorem dX7_goShoot_86 : decode cX7_goShoot 86 = .ok (.aload_n 0, 1) := by decide +kernel
theorem dX7_goShoot_87 : decode cX7_goShoot 87 = .ok (.iload_n 3, 1) := by decide +kernel
theorem dX7_goShoot_88 : decode cX7_goShoot 88 = .ok (.iconst 2, 1) := by decide +kernel
theorem dX7_goShoot_89 : decode cX7_goShoot 89 = .ok (.iconst 1, 1) := by decide +kernel
theorem dX7_goShoot_90 : decode cX7_goShoot 90 = .ok (.invokevirtual 79, 3) := by decide +kernel
theorem dX7_goShoot_93 : decode cX7_goShoot 93 = .ok (.aload_n 0, 1) := by decide +kernel
theorem dX7_goShoot_94 : decode cX7_goShoot 94 = .ok (.iload_n 3, 1) := by decide +kernel
theorem dX7_goShoot_95 : decode cX7_goShoot 95 = .ok (.invokevirtual 82, 3) := by decide +kernel
theorem dX7_goShoot_98 : decode cX7_goShoot 98 = .ok (.ifCond .eq 16, 3) := by decide +kernel
theorem dX7_goShoot_101 : decode cX7_goShoot 101 = .ok (.aload_n 0, 1) := by decide +kernel
theorem dX7_goShoot_102 : decode cX7_goShoot 102 = .ok (.getfield 7, 3) := by decide +kernel
theorem dX7_goShoot_105 : decode cX7_goShoot 105 = .ok (.iconst 2, 1) := by decide +kernel
theorem dX7_goShoot_106 : decode cX7_goShoot 106 = .ok (.dup2, 1) := by decide +kernel
theorem dX7_goShoot_107 : decode cX7_goShoot 107 = .ok (.iaload, 1) := by decide +kernel
theorem dX7_goShoot_108 : decode cX7_goShoot 108 = .ok (.iconst 1, 1) := by decide +kernel
theorem dX7_goShoot_109 : decode cX7_goShoot 109 = .ok (.iadd, 1) := by decide +kernel
theorem dX7_goShoot_110 : decode cX7_goShoot 110 = .ok (.iastore, 1) := by decide +kernel
theorem dX7_goShoot_111 : decode cX7_goShoot 111 = .ok (.goto 21, 3) := by decide +kernel
theorem dX7_goShoot_114 : decode cX7_goShoot 114 = .ok (.iload 4, 2) := by decide +kernel
theorem dX7_goShoot_116 : decode cX7_goShoot 116 = .ok (.aload_n 0, 1) := by decide +kernel
theorem dX7_goShoot_117 : decode cX7_goShoot 117 = .ok (.iload_n 3, 1) := by decide +kernel
theorem dX7_goShoot_118 : decode cX7_goShoot 118 = .ok (.iconst 0, 1) := by decide +kernel
theorem dX7_goShoot_119 : decode cX7_goShoot 119 = .ok (.invokevirtual 46, 3) := by decide +kernel
theorem dX7_goShoot_122 : decode cX7_goShoot 122 = .ok (.iadd, 1) := by decide +kernel
theorem dX7_goShoot_123 : decode cX7_goShoot 123 = .ok (.istore 4, 2) := by decide +kernel
theorem dX7_goShoot_125 : decode cX7_goShoot 125 = .ok (.aload_n 0, 1) := by decide +kernel
theorem dX7_goShoot_126 : decode cX7_goShoot 126 = .ok (.iload_n 3, 1) := by decide +kernel
theorem dX7_goShoot_127 : decode cX7_goShoot 127 = .ok (.iconst 1, 1) := by decide +kernel
theorem dX7_goShoot_128 : decode cX7_goShoot 128 = .ok (.iconst 1, 1) := by decide +kernel
theorem dX7_goShoot_129 : decode cX7_goShoot 129 = .ok (.invokevirtual 79, 3) := by decide +kernel
theorem dX7_goShoot_132 : decode cX7_goShoot 132 = .ok (.aload_n 0, 1) := by decide +kernel
theorem dX7_goShoot_133 : decode cX7_goShoot 133 = .ok (.getfield 7, 3) := by decide +kernel
theorem dX7_goShoot_136 : decode cX7_goShoot 136 = .ok (.iconst 0, 1) := by decide +kernel
theorem dX7_goShoot_137 : decode cX7_goShoot 137 = .ok (.dup2, 1) := by decide +kernel
theorem dX7_goShoot_138 : decode cX7_goShoot 138 = .ok (.iaload, 1) := by decide +kernel
theorem dX7_goShoot_139 : decode cX7_goShoot 139 = .ok (.iload 4, 2) := by decide +kernel
theorem dX7_goShoot_141 : decode cX7_goShoot 141 = .ok (.iadd, 1) := by decide +kernel
theorem dX7_goShoot_142 : decode cX7_goShoot 142 = .ok (.iastore, 1) := by decide +kernel
theorem dX7_goShoot_143 : decode cX7_goShoot 143 = .ok (.bipush 10, 2) := by decide +kernel
theorem dX7_goShoot_145 : decode cX7_goShoot 145 = .ok (.iload 4, 2) := by decide +kernel
theorem dX7_goShoot_147 : decode cX7_goShoot 147 = .ok (.iadd, 1) := by decide +kernel
theorem dX7_goShoot_148 : decode cX7_goShoot 148 = .ok (.ireturn, 1) := by decide +kernel
set_option maxRecDepth 20000 in
theorem ggX7_goEmpty_X7_inPocket : GoodIn wsX7_goEmpty wsX7_inPocket := goodIn_r _ [6, 1, 11, 12, 13, 14, 15, 16, 17, 18, 19, 20, 21, 22, 23, 24, 25, 26, 27] rfl (by decide +kernel)
set_option maxRecDepth 20000 in
theorem gX7_goEmpty_X7_inPocket : GoodIn wsX7_goEmpty (wsV RX7 46 RX7 yX7_inPocket wsX7_inPocket) := goodIn_app (goodIn_of _ (by decide +kernel)) ggX7_goEmpty_X7_inPocket
set_option maxRecDepth 20000 in
theorem ggX7_goEmpty_X7_adds : GoodIn wsX7_goEmpty wsX7_adds := goodIn_r _ [10, 1, 11, 12, 13, 14, 15, 16, 17, 18, 19, 20, 21, 22, 23, 24, 25, 26, 27] rfl (by decide +kernel)
set_option maxRecDepth 20000 in
theorem gX7_goEmpty_X7_adds : GoodIn wsX7_goEmpty (wsV RX7 79 RX7 yX7_adds wsX7_adds) := goodIn_app (goodIn_of _ (by decide +kernel)) ggX7_goEmpty_X7_adds
theorem dX7_goEmpty_0 : decode cX7_goEmpty 0 = .ok (.aload_n 0, 1) := by decide +kernel
theorem dX7_goEmpty_1 : decode cX7_goEmpty 1 = .ok (.getfield 7, 3) := by decide +kernel
theorem dX7_goEmpty_4 : decode cX7_goEmpty 4 = .ok (.iconst 1, 1) := by decide +kernel
theorem dX7_goEmpty_5 : decode cX7_goEmpty 5 = .ok (.dup2, 1) := by decide +kernel
theorem dX7_goEmpty_6 : decode cX7_goEmpty 6 = .ok (.iaload, 1) := by decide +kernel
theorem dX7_goEmpty_7 : decode cX7_goEmpty 7 = .ok (.aload_n 0, 1) := by decide +kernel
theorem dX7_goEmpty_8 : decode cX7_goEmpty 8 = .ok (.getfield 7, 3) := by decide +kernel
theorem dX7_goEmpty_11 : decode cX7_goEmpty 11 = .ok (.iconst 2, 1) := by decide +kernel
theorem dX7_goEmpty_12 : decode cX7_goEmpty 12 = .ok (.iaload, 1) := by decide +kernel
theorem dX7_goEmpty_13 : decode cX7_goEmpty 13 = .ok (.iadd, 1) := by decide +kernel
theorem dX7_goEmpty_14 : decode cX7_goEmpty 14 = .ok (.iastore, 1) := by decide +kernel
theorem dX7_goEmpty_15 : decode cX7_goEmpty 15 = .ok (.aload_n 0, 1) := by decide +kernel
theorem dX7_goEmpty_16 : decode cX7_goEmpty 16 = .ok (.getfield 7, 3) := by decide +kernel
theorem dX7_goEmpty_19 : decode cX7_goEmpty 19 = .ok (.iconst 2, 1) := by decide +kernel
theorem dX7_goEmpty_20 : decode cX7_goEmpty 20 = .ok (.iconst 0, 1) := by decide +kernel
theorem dX7_goEmpty_21 : decode cX7_goEmpty 21 = .ok (.iastore, 1) := by decide +kernel
theorem dX7_goEmpty_22 : decode cX7_goEmpty 22 = .ok (.iconst 0, 1) := by decide +kernel
theorem dX7_goEmpty_23 : decode cX7_goEmpty 23 = .ok (.istore_n 1, 1) := by decide +kernel
theorem dX7_goEmpty_24 : decode cX7_goEmpty 24 = .ok (.iload_n 1, 1) := by decide +kernel
theorem dX7_goEmpty_25 : decode cX7_goEmpty 25 = .ok (.bipush 7, 2) := by decide +kernel
theorem dX7_goEmpty_27 : decode cX7_goEmpty 27 = .ok (.if_icmp .ge 37, 3) := by decide +kernel
theorem dX7_goEmpty_30 : decode cX7_goEmpty 30 = .ok (.aload_n 0, 1) := by decide +kernel
theorem dX7_goEmpty_31 : decode cX7_goEmpty 31 = .ok (.getfield 7, 3) := by decide +kernel
theorem dX7_goEmpty_34 : decode cX7_goEmpty 34 = .ok (.iconst 1, 1) := by decide +kernel
theorem dX7_goEmpty_35 : decode cX7_goEmpty 35 = .ok (.dup2, 1) := by decide +kernel
theorem dX7_goEmpty_36 : decode cX7_goEmpty 36 = .ok (.iaload, 1) := by decide +kernel
theorem dX7_goEmpty_37 : decode cX7_goEmpty 37 = .ok (.aload_n 0, 1) := by decide +kernel
theorem dX7_goEmpty_38 : decode cX7_goEmpty 38 = .ok (.iload_n 1, 1) := by decide +kernel
theorem dX7_goEmpty_39 : decode cX7_goEmpty 39 = .ok (.iconst 1, 1) := by decide +kernel
theorem dX7_goEmpty_40 : decode cX7_goEmpty 40 = .ok (.invokevirtual 46, 3) := by decide +kernel
theorem dX7_goEmpty_43 : decode cX7_goEmpty 43 = .ok (.iadd, 1) := by decide +kernel
theorem dX7_goEmpty_44 : decode cX7_goEmpty 44 = .ok (.iastore, 1) := by decide +kernel
theorem dX7_goEmpty_45 : decode cX7_goEmpty 45 = .ok (.aload_n 0, 1) := by decide +kernel
theorem dX7_goEmpty_46 : decode cX7_goEmpty 46 = .ok (.iload_n 1, 1) := by decide +kernel
theorem dX7_goEmpty_47 : decode cX7_goEmpty 47 = .ok (.iconst 1, 1) := by decide +kernel
theorem dX7_goEmpty_48 : decode cX7_goEmpty 48 = .ok (.aload_n 0, 1) := by decide +kernel
theorem dX7_goEmpty_49 : decode cX7_goEmpty 49 = .ok (.iload_n 1, 1) := by decide +kernel
theorem dX7_goEmpty_50 : decode cX7_goEmpty 50 = .ok (.iconst 1, 1) := by decide +kernel
theorem dX7_goEmpty_51 : decode cX7_goEmpty 51 = .ok (.invokevirtual 46, 3) := by decide +kernel
theorem dX7_goEmpty_54 : decode cX7_goEmpty 54 = .ok (.ineg, 1) := by decide +kernel
theorem dX7_goEmpty_55 : decode cX7_goEmpty 55 = .ok (.invokevirtual 79, 3) := by decide +kernel
theorem dX7_goEmpty_58 : decode cX7_goEmpty 58 = .ok (.iinc 1 1, 3) := by decide +kernel
theorem dX7_goEmpty_61 : decode cX7_goEmpty 61 = .ok (.goto (-37), 3) := by decide +kernel
theorem dX7_goEmpty_64 : decode cX7_goEmpty 64 = .ok (.aload_n 0, 1) := by decide +kernel
theorem dX7_goEmpty_65 : decode cX7_goEmpty 65 = .ok (.getfield 7, 3) := by decide +kernel
theorem dX7_goEmpty_68 : decode cX7_goEmpty 68 = .ok (.iconst 1, 1) := by decide +kernel
theorem dX7_goEmpty_69 : decode cX7_goEmpty 69 = .ok (.iaload, 1) := by decide +kernel
theorem dX7_goEmpty_70 : decode cX7_goEmpty 70 = .ok (.ireturn, 1) := by decide +kernel
set_option maxRecDepth 20000 in
theorem ggX7_shoot_X7_isPlace : GoodIn wsX7_shoot wsX7_isPlace := goodIn_r _ [4, 5, 6, 3, 7] rfl (by decide +kernel)
set_option maxRecDepth 20000 in
theorem gX7_shoot_X7_isPlace : GoodIn wsX7_shoot (va_wsS RX7 86 yX7_isPlace wsX7_isPlace) := goodIn_app (goodIn_of _ (by decide +kernel)) ggX7_shoot_X7_isPlace
set_option maxRecDepth 20000 in
theorem ggX7_shoot_X7_records : GoodIn wsX7_shoot wsX7_records := goodIn_r _ [11, 12, 13, 14, 15, 16, 3, 17, 62, 63, 64, 65, 66, 67, 68, 69, 70, 71, 72, 73, 74, 75, 76, 77, 78] rfl (by decide +kernel)
set_option maxRecDepth 20000 in
theorem gX7_shoot_X7_records : GoodIn wsX7_shoot (wsV RX7 89 RX7 yX7_records wsX7_records) := goodIn_app (goodIn_of _ (by decide +kernel)) ggX7_shoot_X7_records
set_option maxRecDepth 20000 in
theorem ggX7_shoot_X7_goShoot : GoodIn wsX7_shoot wsX7_goShoot := goodIn_r _ [21, 14, 22, 23, 24, 25, 3, 26, 27, 28, 29, 30, 31, 32, 33, 34, 35, 36, 37, 38, 39, 40, 41, 42, 43, 44, 45, 46, 5, 6, 7, 47, 48, 49, 50, 51, 52, 53, 54, 55, 56, 57, 58, 59, 60, 61, 62, 63, 64, 65, 66, 67, 68, 69, 70, 71, 72, 73, 74, 75, 76, 77, 78] rfl (by decide +kernel)
set_option maxRecDepth 20000 in
theorem gX7_shoot_X7_goShoot : GoodIn wsX7_shoot (wsV RX7 92 RX7 yX7_goShoot wsX7_goShoot) := goodIn_app (goodIn_of _ (by decide +kernel)) ggX7_shoot_X7_goShoot
theorem dX7_shoot_0 : decode cX7_shoot 0 = .ok (.iload_n 1, 1) := by decide +kernel
theorem dX7_shoot_1 : decode cX7_shoot 1 = .ok (.invokestatic 86, 3) := by decide +kernel
theorem dX7_shoot_4 : decode cX7_shoot 4 = .ok (.ifCond .ne 5, 3) := by decide +kernel
theorem dX7_shoot_7 : decode cX7_shoot 7 = .ok (.iconst (-1), 1) := by decide +kernel
theorem dX7_shoot_8 : decode cX7_shoot 8 = .ok (.ireturn, 1) := by decide +kernel
theorem dX7_shoot_9 : decode cX7_shoot 9 = .ok (.aload_n 0, 1) := by decide +kernel
theorem dX7_shoot_10 : decode cX7_shoot 10 = .ok (.invokevirtual 89, 3) := by decide +kernel
theorem dX7_shoot_13 : decode cX7_shoot 13 = .ok (.aload_n 0, 1) := by decide +kernel
theorem dX7_shoot_14 : decode cX7_shoot 14 = .ok (.iload_n 1, 1) := by decide +kernel
theorem dX7_shoot_15 : decode cX7_shoot 15 = .ok (.iload_n 2, 1) := by decide +kernel
theorem dX7_shoot_16 : decode cX7_shoot 16 = .ok (.invokevirtual 92, 3) := by decide +kernel
theorem dX7_shoot_19 : decode cX7_shoot 19 = .ok (.ireturn, 1) := by decide +kernel
set_option maxRecDepth 20000 in
theorem ggX7_bend_X7_isPin : GoodIn wsX7_bend wsX7_isPin := goodIn_r _ [5, 6, 7, 4, 8] rfl (by decide +kernel)
set_option maxRecDepth 20000 in
theorem gX7_bend_X7_isPin : GoodIn wsX7_bend (va_wsS RX7 95 yX7_isPin wsX7_isPin) := goodIn_app (goodIn_of _ (by decide +kernel)) ggX7_bend_X7_isPin
set_option maxRecDepth 20000 in
theorem ggX7_bend_X7_records : GoodIn wsX7_bend wsX7_records := goodIn_r _ [12, 13, 14, 1, 15, 16, 4, 17, 26, 27, 28, 29, 30, 31, 32, 33, 34, 35, 36, 37, 38, 39, 40, 41, 42] rfl (by decide +kernel)
set_option maxRecDepth 20000 in
theorem gX7_bend_X7_records : GoodIn wsX7_bend (wsV RX7 89 RX7 yX7_records wsX7_records) := goodIn_app (goodIn_of _ (by decide +kernel)) ggX7_bend_X7_records
set_option maxRecDepth 20000 in
theorem ggX7_bend_X7_of : GoodIn wsX7_bend wsX7_of := goodIn_r _ [21, 1, 26, 27, 28, 29, 30, 31, 32, 33, 34, 35, 36, 37, 38, 39, 40, 41, 42] rfl (by decide +kernel)
set_option maxRecDepth 20000 in
theorem gX7_bend_X7_of : GoodIn wsX7_bend (wsV RX7 50 RX7 yX7_of wsX7_of) := goodIn_app (goodIn_of _ (by decide +kernel)) ggX7_bend_X7_of
set_option maxRecDepth 20000 in
theorem ggX7_bend_X7_in : GoodIn wsX7_bend wsX7_in := goodIn_r _ [8] rfl (by decide +kernel)
set_option maxRecDepth 20000 in
theorem gX7_bend_X7_in : GoodIn wsX7_bend (va_wsS RX7 42 yX7_in wsX7_in) := goodIn_app (goodIn_of _ (by decide +kernel)) ggX7_bend_X7_in
set_option maxRecDepth 20000 in
theorem ggX7_bend_X7_lays : GoodIn wsX7_bend wsX7_lays := goodIn_r _ [25, 1, 26, 27, 28, 29, 30, 31, 32, 33, 34, 35, 36, 37, 38, 39, 40, 41, 42] rfl (by decide +kernel)
set_option maxRecDepth 20000 in
theorem gX7_bend_X7_lays : GoodIn wsX7_bend (wsV RX7 53 RX7 yX7_lays wsX7_lays) := goodIn_app (goodIn_of _ (by decide +kernel)) ggX7_bend_X7_lays
theorem dX7_bend_0 : decode cX7_bend 0 = .ok (.iload_n 1, 1) := by decide +kernel
theorem dX7_bend_1 : decode cX7_bend 1 = .ok (.invokestatic 95, 3) := by decide +kernel
theorem dX7_bend_4 : decode cX7_bend 4 = .ok (.ifCond .ne 5, 3) := by decide +kernel
theorem dX7_bend_7 : decode cX7_bend 7 = .ok (.iconst (-1), 1) := by decide +kernel
theorem dX7_bend_8 : decode cX7_bend 8 = .ok (.ireturn, 1) := by decide +kernel
theorem dX7_bend_9 : decode cX7_bend 9 = .ok (.aload_n 0, 1) := by decide +kernel
theorem dX7_bend_10 : decode cX7_bend 10 = .ok (.invokevirtual 89, 3) := by decide +kernel
theorem dX7_bend_13 : decode cX7_bend 13 = .ok (.aload_n 0, 1) := by decide +kernel
theorem dX7_bend_14 : decode cX7_bend 14 = .ok (.iload_n 1, 1) := by decide +kernel
theorem dX7_bend_15 : decode cX7_bend 15 = .ok (.iconst 0, 1) := by decide +kernel
theorem dX7_bend_16 : decode cX7_bend 16 = .ok (.invokevirtual 50, 3) := by decide +kernel
theorem dX7_bend_19 : decode cX7_bend 19 = .ok (.iload_n 2, 1) := by decide +kernel
theorem dX7_bend_20 : decode cX7_bend 20 = .ok (.ifCond .eq 7, 3) := by decide +kernel
theorem dX7_bend_23 : decode cX7_bend 23 = .ok (.iconst 1, 1) := by decide +kernel
theorem dX7_bend_24 : decode cX7_bend 24 = .ok (.goto 4, 3) := by decide +kernel
theorem dX7_bend_27 : decode cX7_bend 27 = .ok (.iconst (-1), 1) := by decide +kernel
theorem dX7_bend_28 : decode cX7_bend 28 = .ok (.iadd, 1) := by decide +kernel
theorem dX7_bend_29 : decode cX7_bend 29 = .ok (.istore_n 3, 1) := by decide +kernel
theorem dX7_bend_30 : decode cX7_bend 30 = .ok (.aload_n 0, 1) := by decide +kernel
theorem dX7_bend_31 : decode cX7_bend 31 = .ok (.iload_n 1, 1) := by decide +kernel
theorem dX7_bend_32 : decode cX7_bend 32 = .ok (.iconst 1, 1) := by decide +kernel
theorem dX7_bend_33 : decode cX7_bend 33 = .ok (.invokevirtual 50, 3) := by decide +kernel
theorem dX7_bend_36 : decode cX7_bend 36 = .ok (.iconst 1, 1) := by decide +kernel
theorem dX7_bend_37 : decode cX7_bend 37 = .ok (.if_icmp .ne 7, 3) := by decide +kernel
theorem dX7_bend_40 : decode cX7_bend 40 = .ok (.iconst 2, 1) := by decide +kernel
theorem dX7_bend_41 : decode cX7_bend 41 = .ok (.goto 18, 3) := by decide +kernel
theorem dX7_bend_44 : decode cX7_bend 44 = .ok (.iload_n 3, 1) := by decide +kernel
theorem dX7_bend_45 : decode cX7_bend 45 = .ok (.bipush (-3), 2) := by decide +kernel
theorem dX7_bend_47 : decode cX7_bend 47 = .ok (.iconst 3, 1) := by decide +kernel
theorem dX7_bend_48 : decode cX7_bend 48 = .ok (.invokestatic 42, 3) := by decide +kernel
theorem dX7_bend_51 : decode cX7_bend 51 = .ok (.ifCond .eq 7, 3) := by decide +kernel
theorem dX7_bend_54 : decode cX7_bend 54 = .ok (.iconst 0, 1) := by decide +kernel
theorem dX7_bend_55 : decode cX7_bend 55 = .ok (.goto 4, 3) := by decide +kernel
theorem dX7_bend_58 : decode cX7_bend 58 = .ok (.iconst 3, 1) := by decide +kernel
theorem dX7_bend_59 : decode cX7_bend 59 = .ok (.istore 4, 2) := by decide +kernel
theorem dX7_bend_61 : decode cX7_bend 61 = .ok (.iload 4, 2) := by decide +kernel
theorem dX7_bend_63 : decode cX7_bend 63 = .ok (.ifCond .le 17, 3) := by decide +kernel
theorem dX7_bend_66 : decode cX7_bend 66 = .ok (.aload_n 0, 1) := by decide +kernel
theorem dX7_bend_67 : decode cX7_bend 67 = .ok (.getfield 7, 3) := by decide +kernel
theorem dX7_bend_70 : decode cX7_bend 70 = .ok (.bipush 7, 2) := by decide +kernel
theorem dX7_bend_72 : decode cX7_bend 72 = .ok (.dup2, 1) := by decide +kernel
theorem dX7_bend_73 : decode cX7_bend 73 = .ok (.iaload, 1) := by decide +kernel
theorem dX7_bend_74 : decode cX7_bend 74 = .ok (.iconst 1, 1) := by decide +kernel
theorem dX7_bend_75 : decode cX7_bend 75 = .ok (.iadd, 1) := by decide +kernel
theorem dX7_bend_76 : decode cX7_bend 76 = .ok (.iastore, 1) := by decide +kernel
theorem dX7_bend_77 : decode cX7_bend 77 = .ok (.iload 4, 2) := by decide +kernel
theorem dX7_bend_79 : decode cX7_bend 79 = .ok (.ireturn, 1) := by decide +kernel
theorem dX7_bend_80 : decode cX7_bend 80 = .ok (.aload_n 0, 1) := by decide +kernel
theorem dX7_bend_81 : decode cX7_bend 81 = .ok (.iload_n 1, 1) := by decide +kernel
theorem dX7_bend_82 : decode cX7_bend 82 = .ok (.iconst 0, 1) := by decide +kernel
theorem dX7_bend_83 : decode cX7_bend 83 = .ok (.iload_n 3, 1) := by decide +kernel
theorem dX7_bend_84 : decode cX7_bend 84 = .ok (.invokevirtual 53, 3) := by decide +kernel
theorem dX7_bend_87 : decode cX7_bend 87 = .ok (.bipush 10, 2) := by decide +kernel
theorem dX7_bend_89 : decode cX7_bend 89 = .ok (.iload_n 3, 1) := by decide +kernel
theorem dX7_bend_90 : decode cX7_bend 90 = .ok (.iadd, 1) := by decide +kernel
theorem dX7_bend_91 : decode cX7_bend 91 = .ok (.iconst 3, 1) := by decide +kernel
theorem dX7_bend_92 : decode cX7_bend 92 = .ok (.iadd, 1) := by decide +kernel
theorem dX7_bend_93 : decode cX7_bend 93 = .ok (.ireturn, 1) := by decide +kernel
set_option maxRecDepth 20000 in
theorem ggX7_outOnes_X7_of : GoodIn wsX7_outOnes wsX7_of := goodIn_r _ [5, 6, 7, 8, 9, 10, 11, 12, 13, 14, 15, 16, 17, 18, 19, 20, 21, 22, 23] rfl (by decide +kernel)
set_option maxRecDepth 20000 in
theorem gX7_outOnes_X7_of : GoodIn wsX7_outOnes (wsV RX7 50 RX7 yX7_of wsX7_of) := goodIn_app (goodIn_of _ (by decide +kernel)) ggX7_outOnes_X7_of
theorem dX7_outOnes_0 : decode cX7_outOnes 0 = .ok (.iconst 0, 1) := by decide +kernel
theorem dX7_outOnes_1 : decode cX7_outOnes 1 = .ok (.istore_n 1, 1) := by decide +kernel
theorem dX7_outOnes_2 : decode cX7_outOnes 2 = .ok (.iconst 0, 1) := by decide +kernel
theorem dX7_outOnes_3 : decode cX7_outOnes 3 = .ok (.istore_n 2, 1) := by decide +kernel
theorem dX7_outOnes_4 : decode cX7_outOnes 4 = .ok (.iload_n 2, 1) := by decide +kernel
theorem dX7_outOnes_5 : decode cX7_outOnes 5 = .ok (.bipush 35, 2) := by decide +kernel
theorem dX7_outOnes_7 : decode cX7_outOnes 7 = .ok (.if_icmp .ge 18, 3) := by decide +kernel
theorem dX7_outOnes_10 : decode cX7_outOnes 10 = .ok (.iload_n 1, 1) := by decide +kernel
theorem dX7_outOnes_11 : decode cX7_outOnes 11 = .ok (.aload_n 0, 1) := by decide +kernel
theorem dX7_outOnes_12 : decode cX7_outOnes 12 = .ok (.iload_n 2, 1) := by decide +kernel
theorem dX7_outOnes_13 : decode cX7_outOnes 13 = .ok (.iconst 1, 1) := by decide +kernel
theorem dX7_outOnes_14 : decode cX7_outOnes 14 = .ok (.invokevirtual 50, 3) := by decide +kernel
theorem dX7_outOnes_17 : decode cX7_outOnes 17 = .ok (.iadd, 1) := by decide +kernel
theorem dX7_outOnes_18 : decode cX7_outOnes 18 = .ok (.istore_n 1, 1) := by decide +kernel
theorem dX7_outOnes_19 : decode cX7_outOnes 19 = .ok (.iinc 2 1, 3) := by decide +kernel
theorem dX7_outOnes_22 : decode cX7_outOnes 22 = .ok (.goto (-18), 3) := by decide +kernel
theorem dX7_outOnes_25 : decode cX7_outOnes 25 = .ok (.iload_n 1, 1) := by decide +kernel
theorem dX7_outOnes_26 : decode cX7_outOnes 26 = .ok (.ireturn, 1) := by decide +kernel
set_option maxRecDepth 20000 in
theorem ggX7_pull_X7_isPin : GoodIn wsX7_pull wsX7_isPin := goodIn_r _ [4, 5, 6, 3, 7] rfl (by decide +kernel)
set_option maxRecDepth 20000 in
theorem gX7_pull_X7_isPin : GoodIn wsX7_pull (va_wsS RX7 95 yX7_isPin wsX7_isPin) := goodIn_app (goodIn_of _ (by decide +kernel)) ggX7_pull_X7_isPin
set_option maxRecDepth 20000 in
theorem ggX7_pull_X7_records : GoodIn wsX7_pull wsX7_records := goodIn_r _ [11, 12, 13, 14, 15, 16, 3, 17, 30, 31, 32, 33, 34, 35, 36, 37, 38, 39, 40, 41, 42, 43, 44, 45, 46] rfl (by decide +kernel)
set_option maxRecDepth 20000 in
theorem gX7_pull_X7_records : GoodIn wsX7_pull (wsV RX7 89 RX7 yX7_records wsX7_records) := goodIn_app (goodIn_of _ (by decide +kernel)) ggX7_pull_X7_records
set_option maxRecDepth 20000 in
theorem ggX7_pull_X7_of : GoodIn wsX7_pull wsX7_of := goodIn_r _ [21, 14, 30, 31, 32, 33, 34, 35, 36, 37, 38, 39, 40, 41, 42, 43, 44, 45, 46] rfl (by decide +kernel)
set_option maxRecDepth 20000 in
theorem gX7_pull_X7_of : GoodIn wsX7_pull (wsV RX7 50 RX7 yX7_of wsX7_of) := goodIn_app (goodIn_of _ (by decide +kernel)) ggX7_pull_X7_of
set_option maxRecDepth 20000 in
theorem ggX7_pull_X7_lays : GoodIn wsX7_pull wsX7_lays := goodIn_r _ [25, 14, 30, 31, 32, 33, 34, 35, 36, 37, 38, 39, 40, 41, 42, 43, 44, 45, 46] rfl (by decide +kernel)
set_option maxRecDepth 20000 in
theorem gX7_pull_X7_lays : GoodIn wsX7_pull (wsV RX7 53 RX7 yX7_lays wsX7_lays) := goodIn_app (goodIn_of _ (by decide +kernel)) ggX7_pull_X7_lays
set_option maxRecDepth 20000 in
theorem ggX7_pull_X7_outOnes : GoodIn wsX7_pull wsX7_outOnes := goodIn_r _ [29, 18, 19, 20, 3, 21, 14, 30, 31, 32, 33, 34, 35, 36, 37, 38, 39, 40, 41, 42, 43, 44, 45, 46] rfl (by decide +kernel)
set_option maxRecDepth 20000 in
theorem gX7_pull_X7_outOnes : GoodIn wsX7_pull (wsV RX7 98 RX7 yX7_outOnes wsX7_outOnes) := goodIn_app (goodIn_of _ (by decide +kernel)) ggX7_pull_X7_outOnes
theorem dX7_pull_0 : decode cX7_pull 0 = .ok (.iload_n 1, 1) := by decide +kernel
theorem dX7_pull_1 : decode cX7_pull 1 = .ok (.invokestatic 95, 3) := by decide +kernel
theorem dX7_pull_4 : decode cX7_pull 4 = .ok (.ifCond .ne 5, 3) := by decide +kernel
theorem dX7_pull_7 : decode cX7_pull 7 = .ok (.iconst (-1), 1) := by decide +kernel
theorem dX7_pull_8 : decode cX7_pull 8 = .ok (.ireturn, 1) := by decide +kernel
theorem dX7_pull_9 : decode cX7_pull 9 = .ok (.aload_n 0, 1) := by decide +kernel
theorem dX7_pull_10 : decode cX7_pull 10 = .ok (.invokevirtual 89, 3) := by decide +kernel
theorem dX7_pull_13 : decode cX7_pull 13 = .ok (.aload_n 0, 1) := by decide +kernel
theorem dX7_pull_14 : decode cX7_pull 14 = .ok (.iload_n 1, 1) := by decide +kernel
theorem dX7_pull_15 : decode cX7_pull 15 = .ok (.iconst 1, 1) := by decide +kernel
theorem dX7_pull_16 : decode cX7_pull 16 = .ok (.iconst 1, 1) := by decide +kernel
theorem dX7_pull_17 : decode cX7_pull 17 = .ok (.aload_n 0, 1) := by decide +kernel
theorem dX7_pull_18 : decode cX7_pull 18 = .ok (.iload_n 1, 1) := by decide +kernel
theorem dX7_pull_19 : decode cX7_pull 19 = .ok (.iconst 1, 1) := by decide +kernel
theorem dX7_pull_20 : decode cX7_pull 20 = .ok (.invokevirtual 50, 3) := by decide +kernel
theorem dX7_pull_23 : decode cX7_pull 23 = .ok (.isub, 1) := by decide +kernel
theorem dX7_pull_24 : decode cX7_pull 24 = .ok (.invokevirtual 53, 3) := by decide +kernel
theorem dX7_pull_27 : decode cX7_pull 27 = .ok (.aload_n 0, 1) := by decide +kernel
theorem dX7_pull_28 : decode cX7_pull 28 = .ok (.iload_n 1, 1) := by decide +kernel
theorem dX7_pull_29 : decode cX7_pull 29 = .ok (.iconst 0, 1) := by decide +kernel
theorem dX7_pull_30 : decode cX7_pull 30 = .ok (.iconst 0, 1) := by decide +kernel
theorem dX7_pull_31 : decode cX7_pull 31 = .ok (.invokevirtual 53, 3) := by decide +kernel
theorem dX7_pull_34 : decode cX7_pull 34 = .ok (.aload_n 0, 1) := by decide +kernel
theorem dX7_pull_35 : decode cX7_pull 35 = .ok (.iload_n 1, 1) := by decide +kernel
theorem dX7_pull_36 : decode cX7_pull 36 = .ok (.iconst 3, 1) := by decide +kernel
theorem dX7_pull_37 : decode cX7_pull 37 = .ok (.iconst 0, 1) := by decide +kernel
theorem dX7_pull_38 : decode cX7_pull 38 = .ok (.invokevirtual 53, 3) := by decide +kernel
theorem dX7_pull_41 : decode cX7_pull 41 = .ok (.aload_n 0, 1) := by decide +kernel
theorem dX7_pull_42 : decode cX7_pull 42 = .ok (.invokevirtual 98, 3) := by decide +kernel
theorem dX7_pull_45 : decode cX7_pull 45 = .ok (.ireturn, 1) := by decide +kernel
set_option maxRecDepth 20000 in
theorem ggX7_allBells_X7_of : GoodIn wsX7_allBells wsX7_of := goodIn_r _ [5, 6, 7, 8, 9, 10, 11, 12, 13, 14, 15, 16, 17, 18, 19, 20, 21, 22, 23] rfl (by decide +kernel)
set_option maxRecDepth 20000 in
theorem gX7_allBells_X7_of : GoodIn wsX7_allBells (wsV RX7 50 RX7 yX7_of wsX7_of) := goodIn_app (goodIn_of _ (by decide +kernel)) ggX7_allBells_X7_of
theorem dX7_allBells_0 : decode cX7_allBells 0 = .ok (.iconst 0, 1) := by decide +kernel
theorem dX7_allBells_1 : decode cX7_allBells 1 = .ok (.istore_n 1, 1) := by decide +kernel
theorem dX7_allBells_2 : decode cX7_allBells 2 = .ok (.iconst 0, 1) := by decide +kernel
theorem dX7_allBells_3 : decode cX7_allBells 3 = .ok (.istore_n 2, 1) := by decide +kernel
theorem dX7_allBells_4 : decode cX7_allBells 4 = .ok (.iload_n 2, 1) := by decide +kernel
theorem dX7_allBells_5 : decode cX7_allBells 5 = .ok (.bipush 35, 2) := by decide +kernel
theorem dX7_allBells_7 : decode cX7_allBells 7 = .ok (.if_icmp .ge 18, 3) := by decide +kernel
theorem dX7_allBells_10 : decode cX7_allBells 10 = .ok (.iload_n 1, 1) := by decide +kernel
theorem dX7_allBells_11 : decode cX7_allBells 11 = .ok (.aload_n 0, 1) := by decide +kernel
theorem dX7_allBells_12 : decode cX7_allBells 12 = .ok (.iload_n 2, 1) := by decide +kernel
theorem dX7_allBells_13 : decode cX7_allBells 13 = .ok (.iconst 2, 1) := by decide +kernel
theorem dX7_allBells_14 : decode cX7_allBells 14 = .ok (.invokevirtual 50, 3) := by decide +kernel
theorem dX7_allBells_17 : decode cX7_allBells 17 = .ok (.iadd, 1) := by decide +kernel
theorem dX7_allBells_18 : decode cX7_allBells 18 = .ok (.istore_n 1, 1) := by decide +kernel
theorem dX7_allBells_19 : decode cX7_allBells 19 = .ok (.iinc 2 1, 3) := by decide +kernel
theorem dX7_allBells_22 : decode cX7_allBells 22 = .ok (.goto (-18), 3) := by decide +kernel
theorem dX7_allBells_25 : decode cX7_allBells 25 = .ok (.iload_n 1, 1) := by decide +kernel
theorem dX7_allBells_26 : decode cX7_allBells 26 = .ok (.ireturn, 1) := by decide +kernel
set_option maxRecDepth 20000 in
theorem ggX7_bell_X7_isPin : GoodIn wsX7_bell wsX7_isPin := goodIn_r _ [4, 5, 6, 3, 7] rfl (by decide +kernel)
set_option maxRecDepth 20000 in
theorem gX7_bell_X7_isPin : GoodIn wsX7_bell (va_wsS RX7 95 yX7_isPin wsX7_isPin) := goodIn_app (goodIn_of _ (by decide +kernel)) ggX7_bell_X7_isPin
set_option maxRecDepth 20000 in
theorem ggX7_bell_X7_records : GoodIn wsX7_bell wsX7_records := goodIn_r _ [11, 12, 13, 14, 15, 16, 3, 17, 30, 31, 32, 33, 34, 35, 36, 37, 38, 39, 40, 41, 42, 43, 44, 45, 46] rfl (by decide +kernel)
set_option maxRecDepth 20000 in
theorem gX7_bell_X7_records : GoodIn wsX7_bell (wsV RX7 89 RX7 yX7_records wsX7_records) := goodIn_app (goodIn_of _ (by decide +kernel)) ggX7_bell_X7_records
set_option maxRecDepth 20000 in
theorem ggX7_bell_X7_of : GoodIn wsX7_bell wsX7_of := goodIn_r _ [21, 14, 30, 31, 32, 33, 34, 35, 36, 37, 38, 39, 40, 41, 42, 43, 44, 45, 46] rfl (by decide +kernel)
set_option maxRecDepth 20000 in
theorem gX7_bell_X7_of : GoodIn wsX7_bell (wsV RX7 50 RX7 yX7_of wsX7_of) := goodIn_app (goodIn_of _ (by decide +kernel)) ggX7_bell_X7_of
set_option maxRecDepth 20000 in
theorem ggX7_bell_X7_lays : GoodIn wsX7_bell wsX7_lays := goodIn_r _ [25, 14, 30, 31, 32, 33, 34, 35, 36, 37, 38, 39, 40, 41, 42, 43, 44, 45, 46] rfl (by decide +kernel)
set_option maxRecDepth 20000 in
theorem gX7_bell_X7_lays : GoodIn wsX7_bell (wsV RX7 53 RX7 yX7_lays wsX7_lays) := goodIn_app (goodIn_of _ (by decide +kernel)) ggX7_bell_X7_lays
set_option maxRecDepth 20000 in
theorem ggX7_bell_X7_allBells : GoodIn wsX7_bell wsX7_allBells := goodIn_r _ [29, 18, 19, 20, 3, 21, 14, 30, 31, 32, 33, 34, 35, 36, 37, 38, 39, 40, 41, 42, 43, 44, 45, 46] rfl (by decide +kernel)
set_option maxRecDepth 20000 in
theorem gX7_bell_X7_allBells : GoodIn wsX7_bell (wsV RX7 102 RX7 yX7_allBells wsX7_allBells) := goodIn_app (goodIn_of _ (by decide +kernel)) ggX7_bell_X7_allBells
theorem dX7_bell_0 : decode cX7_bell 0 = .ok (.iload_n 1, 1) := by decide +kernel
theorem dX7_bell_1 : decode cX7_bell 1 = .ok (.invokestatic 95, 3) := by decide +kernel
theorem dX7_bell_4 : decode cX7_bell 4 = .ok (.ifCond .ne 5, 3) := by decide +kernel
theorem dX7_bell_7 : decode cX7_bell 7 = .ok (.iconst (-1), 1) := by decide +kernel
theorem dX7_bell_8 : decode cX7_bell 8 = .ok (.ireturn, 1) := by decide +kernel
theorem dX7_bell_9 : decode cX7_bell 9 = .ok (.aload_n 0, 1) := by decide +kernel
theorem dX7_bell_10 : decode cX7_bell 10 = .ok (.invokevirtual 89, 3) := by decide +kernel
theorem dX7_bell_13 : decode cX7_bell 13 = .ok (.aload_n 0, 1) := by decide +kernel
theorem dX7_bell_14 : decode cX7_bell 14 = .ok (.iload_n 1, 1) := by decide +kernel
theorem dX7_bell_15 : decode cX7_bell 15 = .ok (.iconst 2, 1) := by decide +kernel
theorem dX7_bell_16 : decode cX7_bell 16 = .ok (.iconst 1, 1) := by decide +kernel
theorem dX7_bell_17 : decode cX7_bell 17 = .ok (.aload_n 0, 1) := by decide +kernel
theorem dX7_bell_18 : decode cX7_bell 18 = .ok (.iload_n 1, 1) := by decide +kernel
theorem dX7_bell_19 : decode cX7_bell 19 = .ok (.iconst 2, 1) := by decide +kernel
theorem dX7_bell_20 : decode cX7_bell 20 = .ok (.invokevirtual 50, 3) := by decide +kernel
theorem dX7_bell_23 : decode cX7_bell 23 = .ok (.isub, 1) := by decide +kernel
theorem dX7_bell_24 : decode cX7_bell 24 = .ok (.invokevirtual 53, 3) := by decide +kernel
theorem dX7_bell_27 : decode cX7_bell 27 = .ok (.aload_n 0, 1) := by decide +kernel
theorem dX7_bell_28 : decode cX7_bell 28 = .ok (.invokevirtual 102, 3) := by decide +kernel
theorem dX7_bell_31 : decode cX7_bell 31 = .ok (.ireturn, 1) := by decide +kernel
set_option maxRecDepth 20000 in
theorem ggX7_worth_X7_isPlace : GoodIn wsX7_worth wsX7_isPlace := goodIn_r _ [4, 5, 6, 3, 7] rfl (by decide +kernel)
set_option maxRecDepth 20000 in
theorem gX7_worth_X7_isPlace : GoodIn wsX7_worth (va_wsS RX7 86 yX7_isPlace wsX7_isPlace) := goodIn_app (goodIn_of _ (by decide +kernel)) ggX7_worth_X7_isPlace
set_option maxRecDepth 20000 in
theorem ggX7_worth_X7_in : GoodIn wsX7_worth wsX7_in := goodIn_r _ [7] rfl (by decide +kernel)
set_option maxRecDepth 20000 in
theorem gX7_worth_X7_in : GoodIn wsX7_worth (va_wsS RX7 42 yX7_in wsX7_in) := goodIn_app (goodIn_of _ (by decide +kernel)) ggX7_worth_X7_in
set_option maxRecDepth 20000 in
theorem ggX7_worth_X7_records : GoodIn wsX7_worth wsX7_records := goodIn_r _ [11, 12, 13, 14, 15, 16, 3, 17, 26, 27, 28, 29, 30, 31, 32, 33, 34, 35, 36, 37, 38, 39, 40, 41, 42] rfl (by decide +kernel)
set_option maxRecDepth 20000 in
theorem gX7_worth_X7_records : GoodIn wsX7_worth (wsV RX7 89 RX7 yX7_records wsX7_records) := goodIn_app (goodIn_of _ (by decide +kernel)) ggX7_worth_X7_records
set_option maxRecDepth 20000 in
theorem ggX7_worth_X7_inPocket : GoodIn wsX7_worth wsX7_inPocket := goodIn_r _ [21, 14, 26, 27, 28, 29, 30, 31, 32, 33, 34, 35, 36, 37, 38, 39, 40, 41, 42] rfl (by decide +kernel)
set_option maxRecDepth 20000 in
theorem gX7_worth_X7_inPocket : GoodIn wsX7_worth (wsV RX7 46 RX7 yX7_inPocket wsX7_inPocket) := goodIn_app (goodIn_of _ (by decide +kernel)) ggX7_worth_X7_inPocket
set_option maxRecDepth 20000 in
theorem ggX7_worth_X7_adds : GoodIn wsX7_worth wsX7_adds := goodIn_r _ [25, 14, 26, 27, 28, 29, 30, 31, 32, 33, 34, 35, 36, 37, 38, 39, 40, 41, 42] rfl (by decide +kernel)
set_option maxRecDepth 20000 in
theorem gX7_worth_X7_adds : GoodIn wsX7_worth (wsV RX7 79 RX7 yX7_adds wsX7_adds) := goodIn_app (goodIn_of _ (by decide +kernel)) ggX7_worth_X7_adds
theorem dX7_worth_0 : decode cX7_worth 0 = .ok (.iload_n 1, 1) := by decide +kernel
theorem dX7_worth_1 : decode cX7_worth 1 = .ok (.invokestatic 86, 3) := by decide +kernel
theorem dX7_worth_4 : decode cX7_worth 4 = .ok (.ifCond .eq 13, 3) := by decide +kernel
theorem dX7_worth_7 : decode cX7_worth 7 = .ok (.iload_n 2, 1) := by decide +kernel
theorem dX7_worth_8 : decode cX7_worth 8 = .ok (.iconst 0, 1) := by decide +kernel
theorem dX7_worth_9 : decode cX7_worth 9 = .ok (.bipush 9, 2) := by decide +kernel
theorem dX7_worth_11 : decode cX7_worth 11 = .ok (.invokestatic 42, 3) := by decide +kernel
theorem dX7_worth_14 : decode cX7_worth 14 = .ok (.ifCond .ne 5, 3) := by decide +kernel
theorem dX7_worth_17 : decode cX7_worth 17 = .ok (.iconst (-1), 1) := by decide +kernel
theorem dX7_worth_18 : decode cX7_worth 18 = .ok (.ireturn, 1) := by decide +kernel
theorem dX7_worth_19 : decode cX7_worth 19 = .ok (.aload_n 0, 1) := by decide +kernel
theorem dX7_worth_20 : decode cX7_worth 20 = .ok (.invokevirtual 89, 3) := by decide +kernel
theorem dX7_worth_23 : decode cX7_worth 23 = .ok (.aload_n 0, 1) := by decide +kernel
theorem dX7_worth_24 : decode cX7_worth 24 = .ok (.iload_n 1, 1) := by decide +kernel
theorem dX7_worth_25 : decode cX7_worth 25 = .ok (.iconst 0, 1) := by decide +kernel
theorem dX7_worth_26 : decode cX7_worth 26 = .ok (.invokevirtual 46, 3) := by decide +kernel
theorem dX7_worth_29 : decode cX7_worth 29 = .ok (.istore_n 3, 1) := by decide +kernel
theorem dX7_worth_30 : decode cX7_worth 30 = .ok (.aload_n 0, 1) := by decide +kernel
theorem dX7_worth_31 : decode cX7_worth 31 = .ok (.iload_n 1, 1) := by decide +kernel
theorem dX7_worth_32 : decode cX7_worth 32 = .ok (.iconst 0, 1) := by decide +kernel
theorem dX7_worth_33 : decode cX7_worth 33 = .ok (.iload_n 2, 1) := by decide +kernel
theorem dX7_worth_34 : decode cX7_worth 34 = .ok (.iload_n 3, 1) := by decide +kernel
theorem dX7_worth_35 : decode cX7_worth 35 = .ok (.isub, 1) := by decide +kernel
theorem dX7_worth_36 : decode cX7_worth 36 = .ok (.invokevirtual 79, 3) := by decide +kernel
theorem dX7_worth_39 : decode cX7_worth 39 = .ok (.iload_n 3, 1) := by decide +kernel
theorem dX7_worth_40 : decode cX7_worth 40 = .ok (.ireturn, 1) := by decide +kernel
set_option maxRecDepth 20000 in
theorem ggX7_set_X7_in : GoodIn wsX7_set wsX7_in := goodIn_r _ [5] rfl (by decide +kernel)
set_option maxRecDepth 20000 in
theorem gX7_set_X7_in : GoodIn wsX7_set (va_wsS RX7 42 yX7_in wsX7_in) := goodIn_app (goodIn_of _ (by decide +kernel)) ggX7_set_X7_in
set_option maxRecDepth 20000 in
theorem ggX7_set_X7_records : GoodIn wsX7_set wsX7_records := goodIn_r _ [9, 10, 11, 1, 12, 13, 4, 14, 15, 16, 17, 18, 19, 20, 21, 22, 23, 24, 25, 26, 27, 28, 29, 30, 31] rfl (by decide +kernel)
set_option maxRecDepth 20000 in
theorem gX7_set_X7_records : GoodIn wsX7_set (wsV RX7 89 RX7 yX7_records wsX7_records) := goodIn_app (goodIn_of _ (by decide +kernel)) ggX7_set_X7_records
theorem dX7_set_0 : decode cX7_set 0 = .ok (.iload_n 1, 1) := by decide +kernel
theorem dX7_set_1 : decode cX7_set 1 = .ok (.iconst 0, 1) := by decide +kernel
theorem dX7_set_2 : decode cX7_set 2 = .ok (.iconst 1, 1) := by decide +kernel
theorem dX7_set_3 : decode cX7_set 3 = .ok (.invokestatic 42, 3) := by decide +kernel
theorem dX7_set_6 : decode cX7_set 6 = .ok (.ifCond .eq 21, 3) := by decide +kernel
theorem dX7_set_9 : decode cX7_set 9 = .ok (.iload_n 2, 1) := by decide +kernel
theorem dX7_set_10 : decode cX7_set 10 = .ok (.iload_n 1, 1) := by decide +kernel
theorem dX7_set_11 : decode cX7_set 11 = .ok (.iload_n 1, 1) := by decide +kernel
theorem dX7_set_12 : decode cX7_set 12 = .ok (.ifCond .ne 7, 3) := by decide +kernel
theorem dX7_set_15 : decode cX7_set 15 = .ok (.iconst 2, 1) := by decide +kernel
theorem dX7_set_16 : decode cX7_set 16 = .ok (.goto 5, 3) := by decide +kernel
theorem dX7_set_19 : decode cX7_set 19 = .ok (.bipush 9, 2) := by decide +kernel
theorem dX7_set_21 : decode cX7_set 21 = .ok (.invokestatic 42, 3) := by decide +kernel
theorem dX7_set_24 : decode cX7_set 24 = .ok (.ifCond .ne 5, 3) := by decide +kernel
theorem dX7_set_27 : decode cX7_set 27 = .ok (.iconst (-1), 1) := by decide +kernel
theorem dX7_set_28 : decode cX7_set 28 = .ok (.ireturn, 1) := by decide +kernel
theorem dX7_set_29 : decode cX7_set 29 = .ok (.aload_n 0, 1) := by decide +kernel
theorem dX7_set_30 : decode cX7_set 30 = .ok (.invokevirtual 89, 3) := by decide +kernel
theorem dX7_set_33 : decode cX7_set 33 = .ok (.aload_n 0, 1) := by decide +kernel
theorem dX7_set_34 : decode cX7_set 34 = .ok (.getfield 7, 3) := by decide +kernel
theorem dX7_set_37 : decode cX7_set 37 = .ok (.bipush 8, 2) := by decide +kernel
theorem dX7_set_39 : decode cX7_set 39 = .ok (.iload_n 1, 1) := by decide +kernel
theorem dX7_set_40 : decode cX7_set 40 = .ok (.iadd, 1) := by decide +kernel
theorem dX7_set_41 : decode cX7_set 41 = .ok (.iaload, 1) := by decide +kernel
theorem dX7_set_42 : decode cX7_set 42 = .ok (.istore_n 3, 1) := by decide +kernel
theorem dX7_set_43 : decode cX7_set 43 = .ok (.aload_n 0, 1) := by decide +kernel
theorem dX7_set_44 : decode cX7_set 44 = .ok (.getfield 7, 3) := by decide +kernel
theorem dX7_set_47 : decode cX7_set 47 = .ok (.bipush 8, 2) := by decide +kernel
theorem dX7_set_49 : decode cX7_set 49 = .ok (.iload_n 1, 1) := by decide +kernel
theorem dX7_set_50 : decode cX7_set 50 = .ok (.iadd, 1) := by decide +kernel
theorem dX7_set_51 : decode cX7_set 51 = .ok (.iload_n 2, 1) := by decide +kernel
theorem dX7_set_52 : decode cX7_set 52 = .ok (.iastore, 1) := by decide +kernel
theorem dX7_set_53 : decode cX7_set 53 = .ok (.iload_n 3, 1) := by decide +kernel
theorem dX7_set_54 : decode cX7_set 54 = .ok (.ireturn, 1) := by decide +kernel
set_option maxRecDepth 20000 in
theorem ggX7_empty_X7_records : GoodIn wsX7_empty wsX7_records := goodIn_r _ [5, 6, 7, 8, 9, 10, 4, 11, 24, 25, 26, 27, 28, 29, 30, 31, 32, 33, 34, 35, 36, 37, 38, 39, 40] rfl (by decide +kernel)
set_option maxRecDepth 20000 in
theorem gX7_empty_X7_records : GoodIn wsX7_empty (wsV RX7 89 RX7 yX7_records wsX7_records) := goodIn_app (goodIn_of _ (by decide +kernel)) ggX7_empty_X7_records
set_option maxRecDepth 20000 in
theorem ggX7_empty_X7_goEmpty : GoodIn wsX7_empty wsX7_goEmpty := goodIn_r _ [15, 8, 16, 17, 18, 4, 19, 20, 21, 22, 23, 24, 25, 26, 27, 28, 29, 30, 31, 32, 33, 34, 35, 36, 37, 38, 39, 40] rfl (by decide +kernel)
set_option maxRecDepth 20000 in
theorem gX7_empty_X7_goEmpty : GoodIn wsX7_empty (wsV RX7 105 RX7 yX7_goEmpty wsX7_goEmpty) := goodIn_app (goodIn_of _ (by decide +kernel)) ggX7_empty_X7_goEmpty
theorem dX7_empty_0 : decode cX7_empty 0 = .ok (.aload_n 0, 1) := by decide +kernel
theorem dX7_empty_1 : decode cX7_empty 1 = .ok (.invokevirtual 89, 3) := by decide +kernel
theorem dX7_empty_4 : decode cX7_empty 4 = .ok (.aload_n 0, 1) := by decide +kernel
theorem dX7_empty_5 : decode cX7_empty 5 = .ok (.invokevirtual 105, 3) := by decide +kernel
theorem dX7_empty_8 : decode cX7_empty 8 = .ok (.ireturn, 1) := by decide +kernel
set_option maxRecDepth 20000 in
theorem ggX7_append_X7_in : GoodIn wsX7_append wsX7_in := goodIn_r _ [6] rfl (by decide +kernel)
set_option maxRecDepth 20000 in
theorem gX7_append_X7_in : GoodIn wsX7_append (va_wsS RX7 42 yX7_in wsX7_in) := goodIn_app (goodIn_of _ (by decide +kernel)) ggX7_append_X7_in
theorem dX7_append_0 : decode cX7_append 0 = .ok (.iload_n 1, 1) := by decide +kernel
theorem dX7_append_1 : decode cX7_append 1 = .ok (.bipush 33, 2) := by decide +kernel
theorem dX7_append_3 : decode cX7_append 3 = .ok (.bipush 126, 2) := by decide +kernel
theorem dX7_append_5 : decode cX7_append 5 = .ok (.invokestatic 42, 3) := by decide +kernel
theorem dX7_append_8 : decode cX7_append 8 = .ok (.ifCond .ne 5, 3) := by decide +kernel
theorem dX7_append_11 : decode cX7_append 11 = .ok (.iconst (-1), 1) := by decide +kernel
theorem dX7_append_12 : decode cX7_append 12 = .ok (.ireturn, 1) := by decide +kernel
theorem dX7_append_13 : decode cX7_append 13 = .ok (.aload_n 0, 1) := by decide +kernel
theorem dX7_append_14 : decode cX7_append 14 = .ok (.getfield 108, 3) := by decide +kernel
theorem dX7_append_17 : decode cX7_append 17 = .ok (.bipush 60, 2) := by decide +kernel
theorem dX7_append_19 : decode cX7_append 19 = .ok (.if_icmp .ne 6, 3) := by decide +kernel
theorem dX7_append_22 : decode cX7_append 22 = .ok (.bipush (-3), 2) := by decide +kernel
theorem dX7_append_24 : decode cX7_append 24 = .ok (.ireturn, 1) := by decide +kernel
theorem dX7_append_25 : decode cX7_append 25 = .ok (.aload_n 0, 1) := by decide +kernel
theorem dX7_append_26 : decode cX7_append 26 = .ok (.getfield 22, 3) := by decide +kernel
theorem dX7_append_29 : decode cX7_append 29 = .ok (.aload_n 0, 1) := by decide +kernel
theorem dX7_append_30 : decode cX7_append 30 = .ok (.getfield 108, 3) := by decide +kernel
theorem dX7_append_33 : decode cX7_append 33 = .ok (.iload_n 1, 1) := by decide +kernel
theorem dX7_append_34 : decode cX7_append 34 = .ok (.iastore, 1) := by decide +kernel
theorem dX7_append_35 : decode cX7_append 35 = .ok (.aload_n 0, 1) := by decide +kernel
theorem dX7_append_36 : decode cX7_append 36 = .ok (.dup, 1) := by decide +kernel
theorem dX7_append_37 : decode cX7_append 37 = .ok (.getfield 108, 3) := by decide +kernel
theorem dX7_append_40 : decode cX7_append 40 = .ok (.iconst 1, 1) := by decide +kernel
theorem dX7_append_41 : decode cX7_append 41 = .ok (.iadd, 1) := by decide +kernel
theorem dX7_append_42 : decode cX7_append 42 = .ok (.putfield 108, 3) := by decide +kernel
theorem dX7_append_45 : decode cX7_append 45 = .ok (.aload_n 0, 1) := by decide +kernel
theorem dX7_append_46 : decode cX7_append 46 = .ok (.getfield 108, 3) := by decide +kernel
theorem dX7_append_49 : decode cX7_append 49 = .ok (.ireturn, 1) := by decide +kernel
theorem dX7_clear_0 : decode cX7_clear 0 = .ok (.aload_n 0, 1) := by decide +kernel
theorem dX7_clear_1 : decode cX7_clear 1 = .ok (.getfield 108, 3) := by decide +kernel
theorem dX7_clear_4 : decode cX7_clear 4 = .ok (.istore_n 1, 1) := by decide +kernel
theorem dX7_clear_5 : decode cX7_clear 5 = .ok (.aload_n 0, 1) := by decide +kernel
theorem dX7_clear_6 : decode cX7_clear 6 = .ok (.iconst 0, 1) := by decide +kernel
theorem dX7_clear_7 : decode cX7_clear 7 = .ok (.putfield 108, 3) := by decide +kernel
theorem dX7_clear_10 : decode cX7_clear 10 = .ok (.iload_n 1, 1) := by decide +kernel
theorem dX7_clear_11 : decode cX7_clear 11 = .ok (.ireturn, 1) := by decide +kernel
theorem dX7_here_0 : decode cX7_here 0 = .ok (.aload_n 0, 1) := by decide +kernel
theorem dX7_here_1 : decode cX7_here 1 = .ok (.getfield 111, 3) := by decide +kernel
theorem dX7_here_4 : decode cX7_here 4 = .ok (.aload_n 0, 1) := by decide +kernel
theorem dX7_here_5 : decode cX7_here 5 = .ok (.getfield 108, 3) := by decide +kernel
theorem dX7_here_8 : decode cX7_here 8 = .ok (.if_icmp .ge 15, 3) := by decide +kernel
theorem dX7_here_11 : decode cX7_here 11 = .ok (.aload_n 0, 1) := by decide +kernel
theorem dX7_here_12 : decode cX7_here 12 = .ok (.getfield 22, 3) := by decide +kernel
theorem dX7_here_15 : decode cX7_here 15 = .ok (.aload_n 0, 1) := by decide +kernel
theorem dX7_here_16 : decode cX7_here 16 = .ok (.getfield 111, 3) := by decide +kernel
theorem dX7_here_19 : decode cX7_here 19 = .ok (.iaload, 1) := by decide +kernel
theorem dX7_here_20 : decode cX7_here 20 = .ok (.goto 4, 3) := by decide +kernel
theorem dX7_here_23 : decode cX7_here 23 = .ok (.iconst 0, 1) := by decide +kernel
theorem dX7_here_24 : decode cX7_here 24 = .ok (.ireturn, 1) := by decide +kernel
theorem dX7_takes_0 : decode cX7_takes 0 = .ok (.aload_n 0, 1) := by decide +kernel
theorem dX7_takes_1 : decode cX7_takes 1 = .ok (.aload_n 0, 1) := by decide +kernel
theorem dX7_takes_2 : decode cX7_takes 2 = .ok (.getfield 114, 3) := by decide +kernel
theorem dX7_takes_5 : decode cX7_takes 5 = .ok (.ifCond .eq 11, 3) := by decide +kernel
theorem dX7_takes_8 : decode cX7_takes 8 = .ok (.iload_n 1, 1) := by decide +kernel
theorem dX7_takes_9 : decode cX7_takes 9 = .ok (.ifCond .eq 7, 3) := by decide +kernel
theorem dX7_takes_12 : decode cX7_takes 12 = .ok (.iconst 1, 1) := by decide +kernel
theorem dX7_takes_13 : decode cX7_takes 13 = .ok (.goto 4, 3) := by decide +kernel
theorem dX7_takes_16 : decode cX7_takes 16 = .ok (.iconst 0, 1) := by decide +kernel
theorem dX7_takes_17 : decode cX7_takes 17 = .ok (.putfield 114, 3) := by decide +kernel
theorem dX7_takes_20 : decode cX7_takes 20 = .ok (.aload_n 0, 1) := by decide +kernel
theorem dX7_takes_21 : decode cX7_takes 21 = .ok (.dup, 1) := by decide +kernel
theorem dX7_takes_22 : decode cX7_takes 22 = .ok (.getfield 111, 3) := by decide +kernel
theorem dX7_takes_25 : decode cX7_takes 25 = .ok (.aload_n 0, 1) := by decide +kernel
theorem dX7_takes_26 : decode cX7_takes 26 = .ok (.getfield 114, 3) := by decide +kernel
theorem dX7_takes_29 : decode cX7_takes 29 = .ok (.ifCond .eq 7, 3) := by decide +kernel
theorem dX7_takes_32 : decode cX7_takes 32 = .ok (.iconst 1, 1) := by decide +kernel
theorem dX7_takes_33 : decode cX7_takes 33 = .ok (.goto 4, 3) := by decide +kernel
theorem dX7_takes_36 : decode cX7_takes 36 = .ok (.iconst 0, 1) := by decide +kernel
theorem dX7_takes_37 : decode cX7_takes 37 = .ok (.iadd, 1) := by decide +kernel
theorem dX7_takes_38 : decode cX7_takes 38 = .ok (.putfield 111, 3) := by decide +kernel
theorem dX7_takes_41 : decode cX7_takes 41 = .ok (.return_, 1) := by decide +kernel
theorem dX7_isSign_0 : decode cX7_isSign 0 = .ok (.iload_n 0, 1) := by decide +kernel
theorem dX7_isSign_1 : decode cX7_isSign 1 = .ok (.bipush 60, 2) := by decide +kernel
theorem dX7_isSign_3 : decode cX7_isSign 3 = .ok (.if_icmp .eq 27, 3) := by decide +kernel
theorem dX7_isSign_6 : decode cX7_isSign 6 = .ok (.iload_n 0, 1) := by decide +kernel
theorem dX7_isSign_7 : decode cX7_isSign 7 = .ok (.bipush 124, 2) := by decide +kernel
theorem dX7_isSign_9 : decode cX7_isSign 9 = .ok (.if_icmp .eq 21, 3) := by decide +kernel
theorem dX7_isSign_12 : decode cX7_isSign 12 = .ok (.iload_n 0, 1) := by decide +kernel
theorem dX7_isSign_13 : decode cX7_isSign 13 = .ok (.bipush 62, 2) := by decide +kernel
theorem dX7_isSign_15 : decode cX7_isSign 15 = .ok (.if_icmp .eq 15, 3) := by decide +kernel
theorem dX7_isSign_18 : decode cX7_isSign 18 = .ok (.iload_n 0, 1) := by decide +kernel
theorem dX7_isSign_19 : decode cX7_isSign 19 = .ok (.bipush 46, 2) := by decide +kernel
theorem dX7_isSign_21 : decode cX7_isSign 21 = .ok (.if_icmp .eq 9, 3) := by decide +kernel
theorem dX7_isSign_24 : decode cX7_isSign 24 = .ok (.iload_n 0, 1) := by decide +kernel
theorem dX7_isSign_25 : decode cX7_isSign 25 = .ok (.bipush 111, 2) := by decide +kernel
theorem dX7_isSign_27 : decode cX7_isSign 27 = .ok (.if_icmp .ne 7, 3) := by decide +kernel
theorem dX7_isSign_30 : decode cX7_isSign 30 = .ok (.iconst 1, 1) := by decide +kernel
theorem dX7_isSign_31 : decode cX7_isSign 31 = .ok (.goto 4, 3) := by decide +kernel
theorem dX7_isSign_34 : decode cX7_isSign 34 = .ok (.iconst 0, 1) := by decide +kernel
theorem dX7_isSign_35 : decode cX7_isSign 35 = .ok (.ireturn, 1) := by decide +kernel
set_option maxRecDepth 20000 in
theorem ggX7_isBoard_X7_here : GoodIn wsX7_isBoard wsX7_here := goodIn_r _ [7, 1, 2, 8, 12, 13, 14, 15, 16, 17, 18, 19, 20, 21, 22, 23, 24, 25, 26, 27, 28] rfl (by decide +kernel)
set_option maxRecDepth 20000 in
theorem gX7_isBoard_X7_here : GoodIn wsX7_isBoard (wsV RX7 118 RX7 yX7_here wsX7_here) := goodIn_app (goodIn_of _ (by decide +kernel)) ggX7_isBoard_X7_here
set_option maxRecDepth 20000 in
theorem ggX7_isBoard_X7_isSign : GoodIn wsX7_isBoard wsX7_isSign := goodIn_r _ [11] rfl (by decide +kernel)
set_option maxRecDepth 20000 in
theorem gX7_isBoard_X7_isSign : GoodIn wsX7_isBoard (va_wsS RX7 121 yX7_isSign wsX7_isSign) := goodIn_app (goodIn_of _ (by decide +kernel)) ggX7_isBoard_X7_isSign
theorem dX7_isBoard_0 : decode cX7_isBoard 0 = .ok (.aload_n 0, 1) := by decide +kernel
theorem dX7_isBoard_1 : decode cX7_isBoard 1 = .ok (.iconst 0, 1) := by decide +kernel
theorem dX7_isBoard_2 : decode cX7_isBoard 2 = .ok (.putfield 111, 3) := by decide +kernel
theorem dX7_isBoard_5 : decode cX7_isBoard 5 = .ok (.aload_n 0, 1) := by decide +kernel
theorem dX7_isBoard_6 : decode cX7_isBoard 6 = .ok (.getfield 111, 3) := by decide +kernel
theorem dX7_isBoard_9 : decode cX7_isBoard 9 = .ok (.bipush 35, 2) := by decide +kernel
theorem dX7_isBoard_11 : decode cX7_isBoard 11 = .ok (.if_icmp .ge 26, 3) := by decide +kernel
theorem dX7_isBoard_14 : decode cX7_isBoard 14 = .ok (.aload_n 0, 1) := by decide +kernel
theorem dX7_isBoard_15 : decode cX7_isBoard 15 = .ok (.invokevirtual 118, 3) := by decide +kernel
theorem dX7_isBoard_18 : decode cX7_isBoard 18 = .ok (.invokestatic 121, 3) := by decide +kernel
theorem dX7_isBoard_21 : decode cX7_isBoard 21 = .ok (.ifCond .eq 16, 3) := by decide +kernel
theorem dX7_isBoard_24 : decode cX7_isBoard 24 = .ok (.aload_n 0, 1) := by decide +kernel
theorem dX7_isBoard_25 : decode cX7_isBoard 25 = .ok (.dup, 1) := by decide +kernel
theorem dX7_isBoard_26 : decode cX7_isBoard 26 = .ok (.getfield 111, 3) := by decide +kernel
theorem dX7_isBoard_29 : decode cX7_isBoard 29 = .ok (.iconst 1, 1) := by decide +kernel
theorem dX7_isBoard_30 : decode cX7_isBoard 30 = .ok (.iadd, 1) := by decide +kernel
theorem dX7_isBoard_31 : decode cX7_isBoard 31 = .ok (.putfield 111, 3) := by decide +kernel
theorem dX7_isBoard_34 : decode cX7_isBoard 34 = .ok (.goto (-29), 3) := by decide +kernel
theorem dX7_isBoard_37 : decode cX7_isBoard 37 = .ok (.aload_n 0, 1) := by decide +kernel
theorem dX7_isBoard_38 : decode cX7_isBoard 38 = .ok (.getfield 111, 3) := by decide +kernel
theorem dX7_isBoard_41 : decode cX7_isBoard 41 = .ok (.bipush 35, 2) := by decide +kernel
theorem dX7_isBoard_43 : decode cX7_isBoard 43 = .ok (.if_icmp .ne 16, 3) := by decide +kernel
theorem dX7_isBoard_46 : decode cX7_isBoard 46 = .ok (.aload_n 0, 1) := by decide +kernel
theorem dX7_isBoard_47 : decode cX7_isBoard 47 = .ok (.getfield 108, 3) := by decide +kernel
theorem dX7_isBoard_50 : decode cX7_isBoard 50 = .ok (.bipush 35, 2) := by decide +kernel
theorem dX7_isBoard_52 : decode cX7_isBoard 52 = .ok (.if_icmp .ne 7, 3) := by decide +kernel
theorem dX7_isBoard_55 : decode cX7_isBoard 55 = .ok (.iconst 1, 1) := by decide +kernel
theorem dX7_isBoard_56 : decode cX7_isBoard 56 = .ok (.goto 4, 3) := by decide +kernel
theorem dX7_isBoard_59 : decode cX7_isBoard 59 = .ok (.iconst 0, 1) := by decide +kernel
theorem dX7_isBoard_60 : decode cX7_isBoard 60 = .ok (.ireturn, 1) := by decide +kernel
set_option maxRecDepth 20000 in
theorem ggX7_takesShot_X7_here : GoodIn wsX7_takesShot wsX7_here := goodIn_r _ [9, 3, 10, 11, 22, 23, 24, 25, 26, 27, 28, 29, 30, 31, 32, 33, 34, 35, 36, 37, 38] rfl (by decide +kernel)
set_option maxRecDepth 20000 in
theorem gX7_takesShot_X7_here : GoodIn wsX7_takesShot (wsV RX7 118 RX7 yX7_here wsX7_here) := goodIn_app (goodIn_of _ (by decide +kernel)) ggX7_takesShot_X7_here
set_option maxRecDepth 20000 in
theorem ggX7_takesShot_X7_isPlace : GoodIn wsX7_takesShot wsX7_isPlace := goodIn_r _ [14, 15, 16, 8, 17] rfl (by decide +kernel)
set_option maxRecDepth 20000 in
theorem gX7_takesShot_X7_isPlace : GoodIn wsX7_takesShot (va_wsS RX7 86 yX7_isPlace wsX7_isPlace) := goodIn_app (goodIn_of _ (by decide +kernel)) ggX7_takesShot_X7_isPlace
set_option maxRecDepth 20000 in
theorem ggX7_takesShot_X7_takes : GoodIn wsX7_takesShot wsX7_takes := goodIn_r _ [21, 4, 3, 22, 23, 24, 25, 26, 27, 28, 29, 30, 31, 32, 33, 34, 35, 36, 37, 38] rfl (by decide +kernel)
set_option maxRecDepth 20000 in
theorem gX7_takesShot_X7_takes : GoodIn wsX7_takesShot (wsV RX7 130 RX7 yX7_takes wsX7_takes) := goodIn_app (goodIn_of _ (by decide +kernel)) ggX7_takesShot_X7_takes
theorem dX7_takesShot_0 : decode cX7_takesShot 0 = .ok (.aload_n 0, 1) := by decide +kernel
theorem dX7_takesShot_1 : decode cX7_takesShot 1 = .ok (.iconst 0, 1) := by decide +kernel
theorem dX7_takesShot_2 : decode cX7_takesShot 2 = .ok (.putfield 124, 3) := by decide +kernel
theorem dX7_takesShot_5 : decode cX7_takesShot 5 = .ok (.aload_n 0, 1) := by decide +kernel
theorem dX7_takesShot_6 : decode cX7_takesShot 6 = .ok (.aload_n 0, 1) := by decide +kernel
theorem dX7_takesShot_7 : decode cX7_takesShot 7 = .ok (.invokevirtual 118, 3) := by decide +kernel
theorem dX7_takesShot_10 : decode cX7_takesShot 10 = .ok (.bipush 48, 2) := by decide +kernel
theorem dX7_takesShot_12 : decode cX7_takesShot 12 = .ok (.isub, 1) := by decide +kernel
theorem dX7_takesShot_13 : decode cX7_takesShot 13 = .ok (.putfield 127, 3) := by decide +kernel
theorem dX7_takesShot_16 : decode cX7_takesShot 16 = .ok (.aload_n 0, 1) := by decide +kernel
theorem dX7_takesShot_17 : decode cX7_takesShot 17 = .ok (.invokevirtual 118, 3) := by decide +kernel
theorem dX7_takesShot_20 : decode cX7_takesShot 20 = .ok (.bipush 101, 2) := by decide +kernel
theorem dX7_takesShot_22 : decode cX7_takesShot 22 = .ok (.if_icmp .ne 20, 3) := by decide +kernel
theorem dX7_takesShot_25 : decode cX7_takesShot 25 = .ok (.aload_n 0, 1) := by decide +kernel
theorem dX7_takesShot_26 : decode cX7_takesShot 26 = .ok (.bipush (-4), 2) := by decide +kernel
theorem dX7_takesShot_28 : decode cX7_takesShot 28 = .ok (.putfield 127, 3) := by decide +kernel
theorem dX7_takesShot_31 : decode cX7_takesShot 31 = .ok (.aload_n 0, 1) := by decide +kernel
theorem dX7_takesShot_32 : decode cX7_takesShot 32 = .ok (.dup, 1) := by decide +kernel
theorem dX7_takesShot_33 : decode cX7_takesShot 33 = .ok (.getfield 111, 3) := by decide +kernel
theorem dX7_takesShot_36 : decode cX7_takesShot 36 = .ok (.iconst 1, 1) := by decide +kernel
theorem dX7_takesShot_37 : decode cX7_takesShot 37 = .ok (.iadd, 1) := by decide +kernel
theorem dX7_takesShot_38 : decode cX7_takesShot 38 = .ok (.putfield 111, 3) := by decide +kernel
theorem dX7_takesShot_41 : decode cX7_takesShot 41 = .ok (.return_, 1) := by decide +kernel
theorem dX7_takesShot_42 : decode cX7_takesShot 42 = .ok (.aload_n 0, 1) := by decide +kernel
theorem dX7_takesShot_43 : decode cX7_takesShot 43 = .ok (.aload_n 0, 1) := by decide +kernel
theorem dX7_takesShot_44 : decode cX7_takesShot 44 = .ok (.getfield 127, 3) := by decide +kernel
theorem dX7_takesShot_47 : decode cX7_takesShot 47 = .ok (.invokestatic 86, 3) := by decide +kernel
theorem dX7_takesShot_50 : decode cX7_takesShot 50 = .ok (.invokevirtual 130, 3) := by decide +kernel
theorem dX7_takesShot_53 : decode cX7_takesShot 53 = .ok (.aload_n 0, 1) := by decide +kernel
theorem dX7_takesShot_54 : decode cX7_takesShot 54 = .ok (.getfield 114, 3) := by decide +kernel
theorem dX7_takesShot_57 : decode cX7_takesShot 57 = .ok (.ifCond .eq 27, 3) := by decide +kernel
theorem dX7_takesShot_60 : decode cX7_takesShot 60 = .ok (.aload_n 0, 1) := by decide +kernel
theorem dX7_takesShot_61 : decode cX7_takesShot 61 = .ok (.invokevirtual 118, 3) := by decide +kernel
theorem dX7_takesShot_64 : decode cX7_takesShot 64 = .ok (.bipush 33, 2) := by decide +kernel
theorem dX7_takesShot_66 : decode cX7_takesShot 66 = .ok (.if_icmp .ne 18, 3) := by decide +kernel
theorem dX7_takesShot_69 : decode cX7_takesShot 69 = .ok (.aload_n 0, 1) := by decide +kernel
theorem dX7_takesShot_70 : decode cX7_takesShot 70 = .ok (.iconst 1, 1) := by decide +kernel
theorem dX7_takesShot_71 : decode cX7_takesShot 71 = .ok (.putfield 124, 3) := by decide +kernel
theorem dX7_takesShot_74 : decode cX7_takesShot 74 = .ok (.aload_n 0, 1) := by decide +kernel
theorem dX7_takesShot_75 : decode cX7_takesShot 75 = .ok (.dup, 1) := by decide +kernel
theorem dX7_takesShot_76 : decode cX7_takesShot 76 = .ok (.getfield 111, 3) := by decide +kernel
theorem dX7_takesShot_79 : decode cX7_takesShot 79 = .ok (.iconst 1, 1) := by decide +kernel
theorem dX7_takesShot_80 : decode cX7_takesShot 80 = .ok (.iadd, 1) := by decide +kernel
theorem dX7_takesShot_81 : decode cX7_takesShot 81 = .ok (.putfield 111, 3) := by decide +kernel
theorem dX7_takesShot_84 : decode cX7_takesShot 84 = .ok (.return_, 1) := by decide +kernel
set_option maxRecDepth 20000 in
theorem ggX7_areShots_X7_takesShot : GoodIn wsX7_areShots wsX7_takesShot := goodIn_r _ [8, 9, 10, 1, 2, 11, 12, 13, 7, 14, 3, 15, 16, 17, 18, 19, 20, 21, 22, 23, 24, 25, 26, 27, 28, 29, 30, 31, 32, 33, 34, 35, 36, 37, 38, 39, 40, 41, 42] rfl (by decide +kernel)
set_option maxRecDepth 20000 in
theorem gX7_areShots_X7_takesShot : GoodIn wsX7_areShots (wsV RX7 134 RX7 yX7_takesShot wsX7_takesShot) := goodIn_app (goodIn_of _ (by decide +kernel)) ggX7_areShots_X7_takesShot
set_option maxRecDepth 20000 in
theorem ggX7_areShots_X7_here : GoodIn wsX7_areShots wsX7_here := goodIn_r _ [14, 1, 3, 15, 26, 27, 28, 29, 30, 31, 32, 33, 34, 35, 36, 37, 38, 39, 40, 41, 42] rfl (by decide +kernel)
set_option maxRecDepth 20000 in
theorem gX7_areShots_X7_here : GoodIn wsX7_areShots (wsV RX7 118 RX7 yX7_here wsX7_here) := goodIn_app (goodIn_of _ (by decide +kernel)) ggX7_areShots_X7_here
set_option maxRecDepth 20000 in
theorem ggX7_areShots_X7_takes : GoodIn wsX7_areShots wsX7_takes := goodIn_r _ [25, 2, 1, 26, 27, 28, 29, 30, 31, 32, 33, 34, 35, 36, 37, 38, 39, 40, 41, 42] rfl (by decide +kernel)
set_option maxRecDepth 20000 in
theorem gX7_areShots_X7_takes : GoodIn wsX7_areShots (wsV RX7 130 RX7 yX7_takes wsX7_takes) := goodIn_app (goodIn_of _ (by decide +kernel)) ggX7_areShots_X7_takes
theorem dX7_areShots_0 : decode cX7_areShots 0 = .ok (.aload_n 0, 1) := by decide +kernel
theorem dX7_areShots_1 : decode cX7_areShots 1 = .ok (.iconst 0, 1) := by decide +kernel
theorem dX7_areShots_2 : decode cX7_areShots 2 = .ok (.putfield 111, 3) := by decide +kernel
theorem dX7_areShots_5 : decode cX7_areShots 5 = .ok (.aload_n 0, 1) := by decide +kernel
theorem dX7_areShots_6 : decode cX7_areShots 6 = .ok (.iconst 1, 1) := by decide +kernel
theorem dX7_areShots_7 : decode cX7_areShots 7 = .ok (.putfield 114, 3) := by decide +kernel
theorem dX7_areShots_10 : decode cX7_areShots 10 = .ok (.aload_n 0, 1) := by decide +kernel
theorem dX7_areShots_11 : decode cX7_areShots 11 = .ok (.invokevirtual 134, 3) := by decide +kernel
theorem dX7_areShots_14 : decode cX7_areShots 14 = .ok (.aload_n 0, 1) := by decide +kernel
theorem dX7_areShots_15 : decode cX7_areShots 15 = .ok (.getfield 114, 3) := by decide +kernel
theorem dX7_areShots_18 : decode cX7_areShots 18 = .ok (.ifCond .eq 46, 3) := by decide +kernel
theorem dX7_areShots_21 : decode cX7_areShots 21 = .ok (.aload_n 0, 1) := by decide +kernel
theorem dX7_areShots_22 : decode cX7_areShots 22 = .ok (.getfield 111, 3) := by decide +kernel
theorem dX7_areShots_25 : decode cX7_areShots 25 = .ok (.aload_n 0, 1) := by decide +kernel
theorem dX7_areShots_26 : decode cX7_areShots 26 = .ok (.getfield 108, 3) := by decide +kernel
theorem dX7_areShots_29 : decode cX7_areShots 29 = .ok (.if_icmp .ge 35, 3) := by decide +kernel
theorem dX7_areShots_32 : decode cX7_areShots 32 = .ok (.aload_n 0, 1) := by decide +kernel
theorem dX7_areShots_33 : decode cX7_areShots 33 = .ok (.aload_n 0, 1) := by decide +kernel
theorem dX7_areShots_34 : decode cX7_areShots 34 = .ok (.invokevirtual 118, 3) := by decide +kernel
theorem dX7_areShots_37 : decode cX7_areShots 37 = .ok (.bipush 44, 2) := by decide +kernel
theorem dX7_areShots_39 : decode cX7_areShots 39 = .ok (.if_icmp .ne 7, 3) := by decide +kernel
theorem dX7_areShots_42 : decode cX7_areShots 42 = .ok (.iconst 1, 1) := by decide +kernel
theorem dX7_areShots_43 : decode cX7_areShots 43 = .ok (.goto 4, 3) := by decide +kernel
theorem dX7_areShots_46 : decode cX7_areShots 46 = .ok (.iconst 0, 1) := by decide +kernel
theorem dX7_areShots_47 : decode cX7_areShots 47 = .ok (.invokevirtual 130, 3) := by decide +kernel
theorem dX7_areShots_50 : decode cX7_areShots 50 = .ok (.aload_n 0, 1) := by decide +kernel
theorem dX7_areShots_51 : decode cX7_areShots 51 = .ok (.getfield 114, 3) := by decide +kernel
theorem dX7_areShots_54 : decode cX7_areShots 54 = .ok (.ifCond .eq (-40), 3) := by decide +kernel
theorem dX7_areShots_57 : decode cX7_areShots 57 = .ok (.aload_n 0, 1) := by decide +kernel
theorem dX7_areShots_58 : decode cX7_areShots 58 = .ok (.invokevirtual 134, 3) := by decide +kernel
theorem dX7_areShots_61 : decode cX7_areShots 61 = .ok (.goto (-47), 3) := by decide +kernel
theorem dX7_areShots_64 : decode cX7_areShots 64 = .ok (.aload_n 0, 1) := by decide +kernel
theorem dX7_areShots_65 : decode cX7_areShots 65 = .ok (.getfield 114, 3) := by decide +kernel
theorem dX7_areShots_68 : decode cX7_areShots 68 = .ok (.ireturn, 1) := by decide +kernel
set_option maxRecDepth 20000 in
theorem ggX7_fault_X7_in : GoodIn wsX7_fault wsX7_in := goodIn_r _ [5] rfl (by decide +kernel)
set_option maxRecDepth 20000 in
theorem gX7_fault_X7_in : GoodIn wsX7_fault (va_wsS RX7 42 yX7_in wsX7_in) := goodIn_app (goodIn_of _ (by decide +kernel)) ggX7_fault_X7_in
set_option maxRecDepth 20000 in
theorem ggX7_fault_X7_isBoard : GoodIn wsX7_fault wsX7_isBoard := goodIn_r _ [9, 1, 10, 11, 12, 13, 4, 14, 15, 16, 17, 18, 37, 38, 39, 40, 41, 42, 43, 44, 45, 46, 47, 48, 49, 50, 51, 52, 53] rfl (by decide +kernel)
set_option maxRecDepth 20000 in
theorem gX7_fault_X7_isBoard : GoodIn wsX7_fault (wsV RX7 137 RX7 yX7_isBoard wsX7_isBoard) := goodIn_app (goodIn_of _ (by decide +kernel)) ggX7_fault_X7_isBoard
set_option maxRecDepth 20000 in
theorem ggX7_fault_X7_areShots : GoodIn wsX7_fault wsX7_areShots := goodIn_r _ [22, 1, 23, 10, 24, 25, 26, 4, 27, 28, 29, 11, 12, 13, 14, 15, 30, 31, 32, 2, 3, 5, 33, 34, 35, 36, 37, 38, 39, 40, 41, 42, 43, 44, 45, 46, 47, 48, 49, 50, 51, 52, 53] rfl (by decide +kernel)
set_option maxRecDepth 20000 in
theorem gX7_fault_X7_areShots : GoodIn wsX7_fault (wsV RX7 141 RX7 yX7_areShots wsX7_areShots) := goodIn_app (goodIn_of _ (by decide +kernel)) ggX7_fault_X7_areShots
theorem dX7_fault_0 : decode cX7_fault 0 = .ok (.iload_n 1, 1) := by decide +kernel
theorem dX7_fault_1 : decode cX7_fault 1 = .ok (.iconst 0, 1) := by decide +kernel
theorem dX7_fault_2 : decode cX7_fault 2 = .ok (.iconst 1, 1) := by decide +kernel
theorem dX7_fault_3 : decode cX7_fault 3 = .ok (.invokestatic 42, 3) := by decide +kernel
theorem dX7_fault_6 : decode cX7_fault 6 = .ok (.ifCond .ne 5, 3) := by decide +kernel
theorem dX7_fault_9 : decode cX7_fault 9 = .ok (.iconst (-1), 1) := by decide +kernel
theorem dX7_fault_10 : decode cX7_fault 10 = .ok (.ireturn, 1) := by decide +kernel
theorem dX7_fault_11 : decode cX7_fault 11 = .ok (.iload_n 1, 1) := by decide +kernel
theorem dX7_fault_12 : decode cX7_fault 12 = .ok (.ifCond .ne 13, 3) := by decide +kernel
theorem dX7_fault_15 : decode cX7_fault 15 = .ok (.aload_n 0, 1) := by decide +kernel
theorem dX7_fault_16 : decode cX7_fault 16 = .ok (.invokevirtual 137, 3) := by decide +kernel
theorem dX7_fault_19 : decode cX7_fault 19 = .ok (.ifCond .eq 18, 3) := by decide +kernel
theorem dX7_fault_22 : decode cX7_fault 22 = .ok (.goto 10, 3) := by decide +kernel
theorem dX7_fault_25 : decode cX7_fault 25 = .ok (.aload_n 0, 1) := by decide +kernel
theorem dX7_fault_26 : decode cX7_fault 26 = .ok (.invokevirtual 141, 3) := by decide +kernel
theorem dX7_fault_29 : decode cX7_fault 29 = .ok (.ifCond .eq 8, 3) := by decide +kernel
theorem dX7_fault_32 : decode cX7_fault 32 = .ok (.bipush (-4), 2) := by decide +kernel
theorem dX7_fault_34 : decode cX7_fault 34 = .ok (.goto 7, 3) := by decide +kernel
theorem dX7_fault_37 : decode cX7_fault 37 = .ok (.aload_n 0, 1) := by decide +kernel
theorem dX7_fault_38 : decode cX7_fault 38 = .ok (.getfield 111, 3) := by decide +kernel
theorem dX7_fault_41 : decode cX7_fault 41 = .ok (.ireturn, 1) := by decide +kernel
set_option maxRecDepth 20000 in
theorem ggX7_board_X7_isBoard : GoodIn wsX7_board wsX7_isBoard := goodIn_r _ [7, 8, 2, 9, 10, 11, 6, 12, 1, 13, 14, 15, 38, 39, 40, 41, 42, 43, 44, 45, 46, 47, 48, 49, 50, 51, 52, 53, 54] rfl (by decide +kernel)
set_option maxRecDepth 20000 in
theorem gX7_board_X7_isBoard : GoodIn wsX7_board (wsV RX7 137 RX7 yX7_isBoard wsX7_isBoard) := goodIn_app (goodIn_of _ (by decide +kernel)) ggX7_board_X7_isBoard
set_option maxRecDepth 20000 in
theorem ggX7_board_X7_records : GoodIn wsX7_board wsX7_records := goodIn_r _ [19, 20, 21, 22, 23, 24, 6, 25, 38, 39, 40, 41, 42, 43, 44, 45, 46, 47, 48, 49, 50, 51, 52, 53, 54] rfl (by decide +kernel)
set_option maxRecDepth 20000 in
theorem gX7_board_X7_records : GoodIn wsX7_board (wsV RX7 89 RX7 yX7_records wsX7_records) := goodIn_app (goodIn_of _ (by decide +kernel)) ggX7_board_X7_records
set_option maxRecDepth 20000 in
theorem ggX7_board_X7_lays : GoodIn wsX7_board wsX7_lays := goodIn_r _ [29, 22, 38, 39, 40, 41, 42, 43, 44, 45, 46, 47, 48, 49, 50, 51, 52, 53, 54] rfl (by decide +kernel)
set_option maxRecDepth 20000 in
theorem gX7_board_X7_lays : GoodIn wsX7_board (wsV RX7 53 RX7 yX7_lays wsX7_lays) := goodIn_app (goodIn_of _ (by decide +kernel)) ggX7_board_X7_lays
set_option maxRecDepth 20000 in
theorem ggX7_board_X7_outOnes : GoodIn wsX7_board wsX7_outOnes := goodIn_r _ [33, 34, 35, 36, 6, 37, 22, 38, 39, 40, 41, 42, 43, 44, 45, 46, 47, 48, 49, 50, 51, 52, 53, 54] rfl (by decide +kernel)
set_option maxRecDepth 20000 in
theorem gX7_board_X7_outOnes : GoodIn wsX7_board (wsV RX7 98 RX7 yX7_outOnes wsX7_outOnes) := goodIn_app (goodIn_of _ (by decide +kernel)) ggX7_board_X7_outOnes
theorem dX7_board_0 : decode cX7_board 0 = .ok (.aload_n 0, 1) := by decide +kernel
theorem dX7_board_1 : decode cX7_board 1 = .ok (.invokevirtual 137, 3) := by decide +kernel
theorem dX7_board_4 : decode cX7_board 4 = .ok (.ifCond .ne 6, 3) := by decide +kernel
theorem dX7_board_7 : decode cX7_board 7 = .ok (.bipush (-2), 2) := by decide +kernel
theorem dX7_board_9 : decode cX7_board 9 = .ok (.ireturn, 1) := by decide +kernel
theorem dX7_board_10 : decode cX7_board 10 = .ok (.aload_n 0, 1) := by decide +kernel
theorem dX7_board_11 : decode cX7_board 11 = .ok (.invokevirtual 89, 3) := by decide +kernel
theorem dX7_board_14 : decode cX7_board 14 = .ok (.iconst 0, 1) := by decide +kernel
theorem dX7_board_15 : decode cX7_board 15 = .ok (.istore_n 1, 1) := by decide +kernel
theorem dX7_board_16 : decode cX7_board 16 = .ok (.iload_n 1, 1) := by decide +kernel
theorem dX7_board_17 : decode cX7_board 17 = .ok (.bipush 35, 2) := by decide +kernel
theorem dX7_board_19 : decode cX7_board 19 = .ok (.if_icmp .ge 84, 3) := by decide +kernel
theorem dX7_board_22 : decode cX7_board 22 = .ok (.aload_n 0, 1) := by decide +kernel
theorem dX7_board_23 : decode cX7_board 23 = .ok (.getfield 22, 3) := by decide +kernel
theorem dX7_board_26 : decode cX7_board 26 = .ok (.iload_n 1, 1) := by decide +kernel
theorem dX7_board_27 : decode cX7_board 27 = .ok (.iaload, 1) := by decide +kernel
theorem dX7_board_28 : decode cX7_board 28 = .ok (.istore_n 2, 1) := by decide +kernel
theorem dX7_board_29 : decode cX7_board 29 = .ok (.aload_n 0, 1) := by decide +kernel
theorem dX7_board_30 : decode cX7_board 30 = .ok (.iload_n 1, 1) := by decide +kernel
theorem dX7_board_31 : decode cX7_board 31 = .ok (.iconst 0, 1) := by decide +kernel
theorem dX7_board_32 : decode cX7_board 32 = .ok (.iload_n 2, 1) := by decide +kernel
theorem dX7_board_33 : decode cX7_board 33 = .ok (.bipush 60, 2) := by decide +kernel
theorem dX7_board_35 : decode cX7_board 35 = .ok (.if_icmp .ne 7, 3) := by decide +kernel
theorem dX7_board_38 : decode cX7_board 38 = .ok (.iconst (-1), 1) := by decide +kernel
theorem dX7_board_39 : decode cX7_board 39 = .ok (.goto 14, 3) := by decide +kernel
theorem dX7_board_42 : decode cX7_board 42 = .ok (.iload_n 2, 1) := by decide +kernel
theorem dX7_board_43 : decode cX7_board 43 = .ok (.bipush 62, 2) := by decide +kernel
theorem dX7_board_45 : decode cX7_board 45 = .ok (.if_icmp .ne 7, 3) := by decide +kernel
theorem dX7_board_48 : decode cX7_board 48 = .ok (.iconst 1, 1) := by decide +kernel
theorem dX7_board_49 : decode cX7_board 49 = .ok (.goto 4, 3) := by decide +kernel
theorem dX7_board_52 : decode cX7_board 52 = .ok (.iconst 0, 1) := by decide +kernel
theorem dX7_board_53 : decode cX7_board 53 = .ok (.invokevirtual 53, 3) := by decide +kernel
theorem dX7_board_56 : decode cX7_board 56 = .ok (.aload_n 0, 1) := by decide +kernel
theorem dX7_board_57 : decode cX7_board 57 = .ok (.iload_n 1, 1) := by decide +kernel
theorem dX7_board_58 : decode cX7_board 58 = .ok (.iconst 1, 1) := by decide +kernel
theorem dX7_board_59 : decode cX7_board 59 = .ok (.iload_n 2, 1) := by decide +kernel
theorem dX7_board_60 : decode cX7_board 60 = .ok (.bipush 46, 2) := by decide +kernel
theorem dX7_board_62 : decode cX7_board 62 = .ok (.if_icmp .ne 7, 3) := by decide +kernel
theorem dX7_board_65 : decode cX7_board 65 = .ok (.iconst 1, 1) := by decide +kernel
theorem dX7_board_66 : decode cX7_board 66 = .ok (.goto 4, 3) := by decide +kernel
theorem dX7_board_69 : decode cX7_board 69 = .ok (.iconst 0, 1) := by decide +kernel
theorem dX7_board_70 : decode cX7_board 70 = .ok (.invokevirtual 53, 3) := by decide +kernel
theorem dX7_board_73 : decode cX7_board 73 = .ok (.aload_n 0, 1) := by decide +kernel
theorem dX7_board_74 : decode cX7_board 74 = .ok (.iload_n 1, 1) := by decide +kernel
theorem dX7_board_75 : decode cX7_board 75 = .ok (.iconst 2, 1) := by decide +kernel
theorem dX7_board_76 : decode cX7_board 76 = .ok (.iload_n 2, 1) := by decide +kernel
theorem dX7_board_77 : decode cX7_board 77 = .ok (.bipush 111, 2) := by decide +kernel
theorem dX7_board_79 : decode cX7_board 79 = .ok (.if_icmp .ne 7, 3) := by decide +kernel
theorem dX7_board_82 : decode cX7_board 82 = .ok (.iconst 1, 1) := by decide +kernel
theorem dX7_board_83 : decode cX7_board 83 = .ok (.goto 4, 3) := by decide +kernel
theorem dX7_board_86 : decode cX7_board 86 = .ok (.iconst 0, 1) := by decide +kernel
theorem dX7_board_87 : decode cX7_board 87 = .ok (.invokevirtual 53, 3) := by decide +kernel
theorem dX7_board_90 : decode cX7_board 90 = .ok (.aload_n 0, 1) := by decide +kernel
theorem dX7_board_91 : decode cX7_board 91 = .ok (.iload_n 1, 1) := by decide +kernel
theorem dX7_board_92 : decode cX7_board 92 = .ok (.iconst 3, 1) := by decide +kernel
theorem dX7_board_93 : decode cX7_board 93 = .ok (.iconst 0, 1) := by decide +kernel
theorem dX7_board_94 : decode cX7_board 94 = .ok (.invokevirtual 53, 3) := by decide +kernel
theorem dX7_board_97 : decode cX7_board 97 = .ok (.iinc 1 1, 3) := by decide +kernel
theorem dX7_board_100 : decode cX7_board 100 = .ok (.goto (-84), 3) := by decide +kernel
theorem dX7_board_103 : decode cX7_board 103 = .ok (.aload_n 0, 1) := by decide +kernel
theorem dX7_board_104 : decode cX7_board 104 = .ok (.iconst 0, 1) := by decide +kernel
theorem dX7_board_105 : decode cX7_board 105 = .ok (.putfield 108, 3) := by decide +kernel
theorem dX7_board_108 : decode cX7_board 108 = .ok (.bipush 35, 2) := by decide +kernel
theorem dX7_board_110 : decode cX7_board 110 = .ok (.aload_n 0, 1) := by decide +kernel
theorem dX7_board_111 : decode cX7_board 111 = .ok (.invokevirtual 98, 3) := by decide +kernel
theorem dX7_board_114 : decode cX7_board 114 = .ok (.isub, 1) := by decide +kernel
theorem dX7_board_115 : decode cX7_board 115 = .ok (.ireturn, 1) := by decide +kernel
set_option maxRecDepth 20000 in
theorem ggX7_shots_X7_areShots : GoodIn wsX7_shots wsX7_areShots := goodIn_r _ [12, 2, 13, 4, 14, 15, 16, 11, 17, 6, 5, 18, 19, 20, 21, 22, 23, 24, 25, 26, 27, 28, 29, 30, 31, 32, 90, 91, 92, 93, 94, 95, 96, 97, 98, 99, 100, 101, 102, 103, 104, 105, 106] rfl (by decide +kernel)
set_option maxRecDepth 20000 in
theorem gX7_shots_X7_areShots : GoodIn wsX7_shots (wsV RX7 141 RX7 yX7_areShots wsX7_areShots) := goodIn_app (goodIn_of _ (by decide +kernel)) ggX7_shots_X7_areShots
set_option maxRecDepth 20000 in
theorem ggX7_shots_X7_records : GoodIn wsX7_shots wsX7_records := goodIn_r _ [36, 37, 38, 1, 39, 40, 11, 41, 90, 91, 92, 93, 94, 95, 96, 97, 98, 99, 100, 101, 102, 103, 104, 105, 106] rfl (by decide +kernel)
set_option maxRecDepth 20000 in
theorem gX7_shots_X7_records : GoodIn wsX7_shots (wsV RX7 89 RX7 yX7_records wsX7_records) := goodIn_app (goodIn_of _ (by decide +kernel)) ggX7_shots_X7_records
set_option maxRecDepth 20000 in
theorem ggX7_shots_X7_takesShot : GoodIn wsX7_shots wsX7_takesShot := goodIn_r _ [17, 6, 5, 2, 13, 18, 19, 20, 11, 21, 4, 22, 23, 24, 25, 26, 27, 28, 29, 30, 31, 32, 90, 91, 92, 93, 94, 95, 96, 97, 98, 99, 100, 101, 102, 103, 104, 105, 106] rfl (by decide +kernel)
set_option maxRecDepth 20000 in
theorem gX7_shots_X7_takesShot : GoodIn wsX7_shots (wsV RX7 134 RX7 yX7_takesShot wsX7_takesShot) := goodIn_app (goodIn_of _ (by decide +kernel)) ggX7_shots_X7_takesShot
set_option maxRecDepth 20000 in
theorem ggX7_shots_X7_goEmpty : GoodIn wsX7_shots wsX7_goEmpty := goodIn_r _ [45, 1, 46, 47, 48, 11, 49, 50, 51, 52, 53, 90, 91, 92, 93, 94, 95, 96, 97, 98, 99, 100, 101, 102, 103, 104, 105, 106] rfl (by decide +kernel)
set_option maxRecDepth 20000 in
theorem gX7_shots_X7_goEmpty : GoodIn wsX7_shots (wsV RX7 105 RX7 yX7_goEmpty wsX7_goEmpty) := goodIn_app (goodIn_of _ (by decide +kernel)) ggX7_shots_X7_goEmpty
set_option maxRecDepth 20000 in
theorem ggX7_shots_X7_goShoot : GoodIn wsX7_shots wsX7_goShoot := goodIn_r _ [57, 1, 58, 59, 60, 61, 11, 62, 63, 64, 65, 66, 67, 68, 69, 70, 71, 72, 73, 74, 75, 76, 77, 78, 79, 80, 81, 82, 26, 27, 28, 83, 84, 85, 50, 51, 52, 53, 86, 87, 88, 89, 46, 47, 48, 49, 90, 91, 92, 93, 94, 95, 96, 97, 98, 99, 100, 101, 102, 103, 104, 105, 106] rfl (by decide +kernel)
set_option maxRecDepth 20000 in
theorem gX7_shots_X7_goShoot : GoodIn wsX7_shots (wsV RX7 92 RX7 yX7_goShoot wsX7_goShoot) := goodIn_app (goodIn_of _ (by decide +kernel)) ggX7_shots_X7_goShoot
theorem dX7_shots_0 : decode cX7_shots 0 = .ok (.aload_n 0, 1) := by decide +kernel
theorem dX7_shots_1 : decode cX7_shots 1 = .ok (.invokevirtual 141, 3) := by decide +kernel
theorem dX7_shots_4 : decode cX7_shots 4 = .ok (.ifCond .ne 6, 3) := by decide +kernel
theorem dX7_shots_7 : decode cX7_shots 7 = .ok (.bipush (-2), 2) := by decide +kernel
theorem dX7_shots_9 : decode cX7_shots 9 = .ok (.ireturn, 1) := by decide +kernel
theorem dX7_shots_10 : decode cX7_shots 10 = .ok (.aload_n 0, 1) := by decide +kernel
theorem dX7_shots_11 : decode cX7_shots 11 = .ok (.invokevirtual 89, 3) := by decide +kernel
theorem dX7_shots_14 : decode cX7_shots 14 = .ok (.aload_n 0, 1) := by decide +kernel
theorem dX7_shots_15 : decode cX7_shots 15 = .ok (.getfield 7, 3) := by decide +kernel
theorem dX7_shots_18 : decode cX7_shots 18 = .ok (.iconst 0, 1) := by decide +kernel
theorem dX7_shots_19 : decode cX7_shots 19 = .ok (.iaload, 1) := by decide +kernel
theorem dX7_shots_20 : decode cX7_shots 20 = .ok (.istore_n 1, 1) := by decide +kernel
theorem dX7_shots_21 : decode cX7_shots 21 = .ok (.iconst 0, 1) := by decide +kernel
theorem dX7_shots_22 : decode cX7_shots 22 = .ok (.istore_n 2, 1) := by decide +kernel
theorem dX7_shots_23 : decode cX7_shots 23 = .ok (.aload_n 0, 1) := by decide +kernel
theorem dX7_shots_24 : decode cX7_shots 24 = .ok (.iconst 0, 1) := by decide +kernel
theorem dX7_shots_25 : decode cX7_shots 25 = .ok (.putfield 111, 3) := by decide +kernel
theorem dX7_shots_28 : decode cX7_shots 28 = .ok (.aload_n 0, 1) := by decide +kernel
theorem dX7_shots_29 : decode cX7_shots 29 = .ok (.iconst 0, 1) := by decide +kernel
theorem dX7_shots_30 : decode cX7_shots 30 = .ok (.putfield 144, 3) := by decide +kernel
theorem dX7_shots_33 : decode cX7_shots 33 = .ok (.aload_n 0, 1) := by decide +kernel
theorem dX7_shots_34 : decode cX7_shots 34 = .ok (.getfield 144, 3) := by decide +kernel
theorem dX7_shots_37 : decode cX7_shots 37 = .ok (.ifCond .ne 104, 3) := by decide +kernel
theorem dX7_shots_40 : decode cX7_shots 40 = .ok (.aload_n 0, 1) := by decide +kernel
theorem dX7_shots_41 : decode cX7_shots 41 = .ok (.getfield 111, 3) := by decide +kernel
theorem dX7_shots_44 : decode cX7_shots 44 = .ok (.aload_n 0, 1) := by decide +kernel
theorem dX7_shots_45 : decode cX7_shots 45 = .ok (.getfield 108, 3) := by decide +kernel
theorem dX7_shots_48 : decode cX7_shots 48 = .ok (.if_icmp .ge 93, 3) := by decide +kernel
theorem dX7_shots_51 : decode cX7_shots 51 = .ok (.aload_n 0, 1) := by decide +kernel
theorem dX7_shots_52 : decode cX7_shots 52 = .ok (.getfield 111, 3) := by decide +kernel
theorem dX7_shots_55 : decode cX7_shots 55 = .ok (.istore_n 3, 1) := by decide +kernel
theorem dX7_shots_56 : decode cX7_shots 56 = .ok (.aload_n 0, 1) := by decide +kernel
theorem dX7_shots_57 : decode cX7_shots 57 = .ok (.invokevirtual 134, 3) := by decide +kernel
theorem dX7_shots_60 : decode cX7_shots 60 = .ok (.aload_n 0, 1) := by decide +kernel
theorem dX7_shots_61 : decode cX7_shots 61 = .ok (.dup, 1) := by decide +kernel
theorem dX7_shots_62 : decode cX7_shots 62 = .ok (.getfield 111, 3) := by decide +kernel
theorem dX7_shots_65 : decode cX7_shots 65 = .ok (.iconst 1, 1) := by decide +kernel
theorem dX7_shots_66 : decode cX7_shots 66 = .ok (.iadd, 1) := by decide +kernel
theorem dX7_shots_67 : decode cX7_shots 67 = .ok (.putfield 111, 3) := by decide +kernel
theorem dX7_shots_70 : decode cX7_shots 70 = .ok (.aload_n 0, 1) := by decide +kernel
theorem dX7_shots_71 : decode cX7_shots 71 = .ok (.getfield 127, 3) := by decide +kernel
theorem dX7_shots_74 : decode cX7_shots 74 = .ok (.ifCond .ge 13, 3) := by decide +kernel
theorem dX7_shots_77 : decode cX7_shots 77 = .ok (.bipush 10, 2) := by decide +kernel
theorem dX7_shots_79 : decode cX7_shots 79 = .ok (.aload_n 0, 1) := by decide +kernel
theorem dX7_shots_80 : decode cX7_shots 80 = .ok (.invokevirtual 105, 3) := by decide +kernel
theorem dX7_shots_83 : decode cX7_shots 83 = .ok (.iadd, 1) := by decide +kernel
theorem dX7_shots_84 : decode cX7_shots 84 = .ok (.goto 15, 3) := by decide +kernel
theorem dX7_shots_87 : decode cX7_shots 87 = .ok (.aload_n 0, 1) := by decide +kernel
theorem dX7_shots_88 : decode cX7_shots 88 = .ok (.aload_n 0, 1) := by decide +kernel
theorem dX7_shots_89 : decode cX7_shots 89 = .ok (.getfield 127, 3) := by decide +kernel
theorem dX7_shots_92 : decode cX7_shots 92 = .ok (.aload_n 0, 1) := by decide +kernel
theorem dX7_shots_93 : decode cX7_shots 93 = .ok (.getfield 124, 3) := by decide +kernel
theorem dX7_shots_96 : decode cX7_shots 96 = .ok (.invokevirtual 92, 3) := by decide +kernel
theorem dX7_shots_99 : decode cX7_shots 99 = .ok (.istore 4, 2) := by decide +kernel
theorem dX7_shots_101 : decode cX7_shots 101 = .ok (.iload 4, 2) := by decide +kernel
theorem dX7_shots_103 : decode cX7_shots 103 = .ok (.bipush 10, 2) := by decide +kernel
theorem dX7_shots_105 : decode cX7_shots 105 = .ok (.if_icmp .ge 30, 3) := by decide +kernel
theorem dX7_shots_108 : decode cX7_shots 108 = .ok (.aload_n 0, 1) := by decide +kernel
theorem dX7_shots_109 : decode cX7_shots 109 = .ok (.iconst 1, 1) := by decide +kernel
theorem dX7_shots_110 : decode cX7_shots 110 = .ok (.putfield 144, 3) := by decide +kernel
theorem dX7_shots_113 : decode cX7_shots 113 = .ok (.aload_n 0, 1) := by decide +kernel
theorem dX7_shots_114 : decode cX7_shots 114 = .ok (.getfield 25, 3) := by decide +kernel
theorem dX7_shots_117 : decode cX7_shots 117 = .ok (.iconst 0, 1) := by decide +kernel
theorem dX7_shots_118 : decode cX7_shots 118 = .ok (.iload 4, 2) := by decide +kernel
theorem dX7_shots_120 : decode cX7_shots 120 = .ok (.iastore, 1) := by decide +kernel
theorem dX7_shots_121 : decode cX7_shots 121 = .ok (.aload_n 0, 1) := by decide +kernel
theorem dX7_shots_122 : decode cX7_shots 122 = .ok (.getfield 25, 3) := by decide +kernel
theorem dX7_shots_125 : decode cX7_shots 125 = .ok (.iconst 1, 1) := by decide +kernel
theorem dX7_shots_126 : decode cX7_shots 126 = .ok (.iload_n 2, 1) := by decide +kernel
theorem dX7_shots_127 : decode cX7_shots 127 = .ok (.iastore, 1) := by decide +kernel
theorem dX7_shots_128 : decode cX7_shots 128 = .ok (.aload_n 0, 1) := by decide +kernel
theorem dX7_shots_129 : decode cX7_shots 129 = .ok (.getfield 25, 3) := by decide +kernel
theorem dX7_shots_132 : decode cX7_shots 132 = .ok (.iconst 2, 1) := by decide +kernel
theorem dX7_shots_133 : decode cX7_shots 133 = .ok (.iload_n 3, 1) := by decide +kernel
theorem dX7_shots_134 : decode cX7_shots 134 = .ok (.iastore, 1) := by decide +kernel
theorem dX7_shots_135 : decode cX7_shots 135 = .ok (.iinc 2 1, 3) := by decide +kernel
theorem dX7_shots_138 : decode cX7_shots 138 = .ok (.goto (-105), 3) := by decide +kernel
theorem dX7_shots_141 : decode cX7_shots 141 = .ok (.aload_n 0, 1) := by decide +kernel
theorem dX7_shots_142 : decode cX7_shots 142 = .ok (.iconst 0, 1) := by decide +kernel
theorem dX7_shots_143 : decode cX7_shots 143 = .ok (.putfield 108, 3) := by decide +kernel
theorem dX7_shots_146 : decode cX7_shots 146 = .ok (.aload_n 0, 1) := by decide +kernel
theorem dX7_shots_147 : decode cX7_shots 147 = .ok (.getfield 7, 3) := by decide +kernel
theorem dX7_shots_150 : decode cX7_shots 150 = .ok (.iconst 0, 1) := by decide +kernel
theorem dX7_shots_151 : decode cX7_shots 151 = .ok (.iaload, 1) := by decide +kernel
theorem dX7_shots_152 : decode cX7_shots 152 = .ok (.iload_n 1, 1) := by decide +kernel
theorem dX7_shots_153 : decode cX7_shots 153 = .ok (.isub, 1) := by decide +kernel
theorem dX7_shots_154 : decode cX7_shots 154 = .ok (.ireturn, 1) := by decide +kernel
set_option maxRecDepth 20000 in
theorem ggX7_why_X7_in : GoodIn wsX7_why wsX7_in := goodIn_r _ [6] rfl (by decide +kernel)
set_option maxRecDepth 20000 in
theorem gX7_why_X7_in : GoodIn wsX7_why (va_wsS RX7 42 yX7_in wsX7_in) := goodIn_app (goodIn_of _ (by decide +kernel)) ggX7_why_X7_in
theorem dX7_why_0 : decode cX7_why 0 = .ok (.iload_n 1, 1) := by decide +kernel
theorem dX7_why_1 : decode cX7_why 1 = .ok (.iconst 0, 1) := by decide +kernel
theorem dX7_why_2 : decode cX7_why 2 = .ok (.iconst 2, 1) := by decide +kernel
theorem dX7_why_3 : decode cX7_why 3 = .ok (.invokestatic 42, 3) := by decide +kernel
theorem dX7_why_6 : decode cX7_why 6 = .ok (.ifCond .ne 5, 3) := by decide +kernel
theorem dX7_why_9 : decode cX7_why 9 = .ok (.iconst (-1), 1) := by decide +kernel
theorem dX7_why_10 : decode cX7_why 10 = .ok (.ireturn, 1) := by decide +kernel
theorem dX7_why_11 : decode cX7_why 11 = .ok (.aload_n 0, 1) := by decide +kernel
theorem dX7_why_12 : decode cX7_why 12 = .ok (.getfield 144, 3) := by decide +kernel
theorem dX7_why_15 : decode cX7_why 15 = .ok (.ifCond .eq 12, 3) := by decide +kernel
theorem dX7_why_18 : decode cX7_why 18 = .ok (.aload_n 0, 1) := by decide +kernel
theorem dX7_why_19 : decode cX7_why 19 = .ok (.getfield 25, 3) := by decide +kernel
theorem dX7_why_22 : decode cX7_why 22 = .ok (.iload_n 1, 1) := by decide +kernel
theorem dX7_why_23 : decode cX7_why 23 = .ok (.iaload, 1) := by decide +kernel
theorem dX7_why_24 : decode cX7_why 24 = .ok (.goto 5, 3) := by decide +kernel
theorem dX7_why_27 : decode cX7_why 27 = .ok (.bipush (-4), 2) := by decide +kernel
theorem dX7_why_29 : decode cX7_why 29 = .ok (.ireturn, 1) := by decide +kernel
set_option maxRecDepth 20000 in
theorem ggX7_sign_X7_isPin : GoodIn wsX7_sign wsX7_isPin := goodIn_r _ [4, 5, 6, 3, 7] rfl (by decide +kernel)
set_option maxRecDepth 20000 in
theorem gX7_sign_X7_isPin : GoodIn wsX7_sign (va_wsS RX7 95 yX7_isPin wsX7_isPin) := goodIn_app (goodIn_of _ (by decide +kernel)) ggX7_sign_X7_isPin
set_option maxRecDepth 20000 in
theorem ggX7_sign_X7_of : GoodIn wsX7_sign wsX7_of := goodIn_r _ [11, 12, 13, 14, 15, 16, 17, 18, 19, 20, 21, 22, 23, 24, 25, 26, 27, 28, 29] rfl (by decide +kernel)
set_option maxRecDepth 20000 in
theorem gX7_sign_X7_of : GoodIn wsX7_sign (wsV RX7 50 RX7 yX7_of wsX7_of) := goodIn_app (goodIn_of _ (by decide +kernel)) ggX7_sign_X7_of
theorem dX7_sign_0 : decode cX7_sign 0 = .ok (.iload_n 1, 1) := by decide +kernel
theorem dX7_sign_1 : decode cX7_sign 1 = .ok (.invokestatic 95, 3) := by decide +kernel
theorem dX7_sign_4 : decode cX7_sign 4 = .ok (.ifCond .ne 5, 3) := by decide +kernel
theorem dX7_sign_7 : decode cX7_sign 7 = .ok (.iconst (-1), 1) := by decide +kernel
theorem dX7_sign_8 : decode cX7_sign 8 = .ok (.ireturn, 1) := by decide +kernel
theorem dX7_sign_9 : decode cX7_sign 9 = .ok (.aload_n 0, 1) := by decide +kernel
theorem dX7_sign_10 : decode cX7_sign 10 = .ok (.iload_n 1, 1) := by decide +kernel
theorem dX7_sign_11 : decode cX7_sign 11 = .ok (.iconst 0, 1) := by decide +kernel
theorem dX7_sign_12 : decode cX7_sign 12 = .ok (.invokevirtual 50, 3) := by decide +kernel
theorem dX7_sign_15 : decode cX7_sign 15 = .ok (.istore_n 2, 1) := by decide +kernel
theorem dX7_sign_16 : decode cX7_sign 16 = .ok (.aload_n 0, 1) := by decide +kernel
theorem dX7_sign_17 : decode cX7_sign 17 = .ok (.iload_n 1, 1) := by decide +kernel
theorem dX7_sign_18 : decode cX7_sign 18 = .ok (.iconst 1, 1) := by decide +kernel
theorem dX7_sign_19 : decode cX7_sign 19 = .ok (.invokevirtual 50, 3) := by decide +kernel
theorem dX7_sign_22 : decode cX7_sign 22 = .ok (.iconst 1, 1) := by decide +kernel
theorem dX7_sign_23 : decode cX7_sign 23 = .ok (.if_icmp .ne 8, 3) := by decide +kernel
theorem dX7_sign_26 : decode cX7_sign 26 = .ok (.bipush 46, 2) := by decide +kernel
theorem dX7_sign_28 : decode cX7_sign 28 = .ok (.goto 38, 3) := by decide +kernel
theorem dX7_sign_31 : decode cX7_sign 31 = .ok (.aload_n 0, 1) := by decide +kernel
theorem dX7_sign_32 : decode cX7_sign 32 = .ok (.iload_n 1, 1) := by decide +kernel
theorem dX7_sign_33 : decode cX7_sign 33 = .ok (.iconst 2, 1) := by decide +kernel
theorem dX7_sign_34 : decode cX7_sign 34 = .ok (.invokevirtual 50, 3) := by decide +kernel
theorem dX7_sign_37 : decode cX7_sign 37 = .ok (.iconst 1, 1) := by decide +kernel
theorem dX7_sign_38 : decode cX7_sign 38 = .ok (.if_icmp .ne 8, 3) := by decide +kernel
theorem dX7_sign_41 : decode cX7_sign 41 = .ok (.bipush 111, 2) := by decide +kernel
theorem dX7_sign_43 : decode cX7_sign 43 = .ok (.goto 23, 3) := by decide +kernel
theorem dX7_sign_46 : decode cX7_sign 46 = .ok (.iload_n 2, 1) := by decide +kernel
theorem dX7_sign_47 : decode cX7_sign 47 = .ok (.ifCond .ge 8, 3) := by decide +kernel
theorem dX7_sign_50 : decode cX7_sign 50 = .ok (.bipush 60, 2) := by decide +kernel
theorem dX7_sign_52 : decode cX7_sign 52 = .ok (.goto 14, 3) := by decide +kernel
theorem dX7_sign_55 : decode cX7_sign 55 = .ok (.iload_n 2, 1) := by decide +kernel
theorem dX7_sign_56 : decode cX7_sign 56 = .ok (.ifCond .le 8, 3) := by decide +kernel
theorem dX7_sign_59 : decode cX7_sign 59 = .ok (.bipush 62, 2) := by decide +kernel
theorem dX7_sign_61 : decode cX7_sign 61 = .ok (.goto 5, 3) := by decide +kernel
theorem dX7_sign_64 : decode cX7_sign 64 = .ok (.bipush 124, 2) := by decide +kernel
theorem dX7_sign_66 : decode cX7_sign 66 = .ok (.ireturn, 1) := by decide +kernel
set_option maxRecDepth 20000 in
theorem ggX7_nextOf_X7_of : GoodIn wsX7_nextOf wsX7_of := goodIn_r _ [5, 6, 17, 18, 19, 20, 21, 22, 23, 24, 25, 26, 27, 28, 29, 30, 31, 32, 33] rfl (by decide +kernel)
set_option maxRecDepth 20000 in
theorem gX7_nextOf_X7_of : GoodIn wsX7_nextOf (wsV RX7 50 RX7 yX7_of wsX7_of) := goodIn_app (goodIn_of _ (by decide +kernel)) ggX7_nextOf_X7_of
set_option maxRecDepth 20000 in
theorem ggX7_nextOf_X7_sends : GoodIn wsX7_nextOf wsX7_sends := goodIn_r _ [10, 6, 1, 2, 3, 4, 5, 17, 18, 19, 20, 21, 22, 23, 24, 25, 26, 27, 28, 29, 30, 31, 32, 33] rfl (by decide +kernel)
set_option maxRecDepth 20000 in
theorem gX7_nextOf_X7_sends : GoodIn wsX7_nextOf (wsV RX7 60 RX7 yX7_sends wsX7_sends) := goodIn_app (goodIn_of _ (by decide +kernel)) ggX7_nextOf_X7_sends
set_option maxRecDepth 20000 in
theorem ggX7_nextOf_X7_moved : GoodIn wsX7_nextOf wsX7_moved := goodIn_r _ [13, 14, 15, 4, 16] rfl (by decide +kernel)
set_option maxRecDepth 20000 in
theorem gX7_nextOf_X7_moved : GoodIn wsX7_nextOf (va_wsS RX7 68 yX7_moved wsX7_moved) := goodIn_app (goodIn_of _ (by decide +kernel)) ggX7_nextOf_X7_moved
theorem dX7_nextOf_0 : decode cX7_nextOf 0 = .ok (.aload_n 0, 1) := by decide +kernel
theorem dX7_nextOf_1 : decode cX7_nextOf 1 = .ok (.iload_n 1, 1) := by decide +kernel
theorem dX7_nextOf_2 : decode cX7_nextOf 2 = .ok (.iconst 1, 1) := by decide +kernel
theorem dX7_nextOf_3 : decode cX7_nextOf 3 = .ok (.invokevirtual 50, 3) := by decide +kernel
theorem dX7_nextOf_6 : decode cX7_nextOf 6 = .ok (.iconst 1, 1) := by decide +kernel
theorem dX7_nextOf_7 : decode cX7_nextOf 7 = .ok (.if_icmp .ne 7, 3) := by decide +kernel
theorem dX7_nextOf_10 : decode cX7_nextOf 10 = .ok (.iconst 1, 1) := by decide +kernel
theorem dX7_nextOf_11 : decode cX7_nextOf 11 = .ok (.iload_n 2, 1) := by decide +kernel
theorem dX7_nextOf_12 : decode cX7_nextOf 12 = .ok (.ishl, 1) := by decide +kernel
theorem dX7_nextOf_13 : decode cX7_nextOf 13 = .ok (.ireturn, 1) := by decide +kernel
theorem dX7_nextOf_14 : decode cX7_nextOf 14 = .ok (.aload_n 0, 1) := by decide +kernel
theorem dX7_nextOf_15 : decode cX7_nextOf 15 = .ok (.iload_n 1, 1) := by decide +kernel
theorem dX7_nextOf_16 : decode cX7_nextOf 16 = .ok (.invokevirtual 60, 3) := by decide +kernel
theorem dX7_nextOf_19 : decode cX7_nextOf 19 = .ok (.istore_n 3, 1) := by decide +kernel
theorem dX7_nextOf_20 : decode cX7_nextOf 20 = .ok (.iload_n 3, 1) := by decide +kernel
theorem dX7_nextOf_21 : decode cX7_nextOf 21 = .ok (.ifCond .ne 21, 3) := by decide +kernel
theorem dX7_nextOf_24 : decode cX7_nextOf 24 = .ok (.iconst 1, 1) := by decide +kernel
theorem dX7_nextOf_25 : decode cX7_nextOf 25 = .ok (.iload_n 2, 1) := by decide +kernel
theorem dX7_nextOf_26 : decode cX7_nextOf 26 = .ok (.iconst (-1), 1) := by decide +kernel
theorem dX7_nextOf_27 : decode cX7_nextOf 27 = .ok (.invokestatic 68, 3) := by decide +kernel
theorem dX7_nextOf_30 : decode cX7_nextOf 30 = .ok (.ishl, 1) := by decide +kernel
theorem dX7_nextOf_31 : decode cX7_nextOf 31 = .ok (.iconst 1, 1) := by decide +kernel
theorem dX7_nextOf_32 : decode cX7_nextOf 32 = .ok (.iload_n 2, 1) := by decide +kernel
theorem dX7_nextOf_33 : decode cX7_nextOf 33 = .ok (.iconst 1, 1) := by decide +kernel
theorem dX7_nextOf_34 : decode cX7_nextOf 34 = .ok (.invokestatic 68, 3) := by decide +kernel
theorem dX7_nextOf_37 : decode cX7_nextOf 37 = .ok (.ishl, 1) := by decide +kernel
theorem dX7_nextOf_38 : decode cX7_nextOf 38 = .ok (.ior, 1) := by decide +kernel
theorem dX7_nextOf_39 : decode cX7_nextOf 39 = .ok (.goto 10, 3) := by decide +kernel
theorem dX7_nextOf_42 : decode cX7_nextOf 42 = .ok (.iconst 1, 1) := by decide +kernel
theorem dX7_nextOf_43 : decode cX7_nextOf 43 = .ok (.iload_n 2, 1) := by decide +kernel
theorem dX7_nextOf_44 : decode cX7_nextOf 44 = .ok (.iload_n 3, 1) := by decide +kernel
theorem dX7_nextOf_45 : decode cX7_nextOf 45 = .ok (.invokestatic 68, 3) := by decide +kernel
theorem dX7_nextOf_48 : decode cX7_nextOf 48 = .ok (.ishl, 1) := by decide +kernel
theorem dX7_nextOf_49 : decode cX7_nextOf 49 = .ok (.ireturn, 1) := by decide +kernel
set_option maxRecDepth 20000 in
theorem ggX7_comesTo_X7_nextOf : GoodIn wsX7_comesTo wsX7_nextOf := goodIn_r _ [5, 6, 7, 8, 4, 9, 10, 11, 12, 13, 14, 15, 16, 17, 18, 19, 20, 21, 22, 23, 24, 25, 26, 27, 28, 29, 30, 31, 32, 33, 34, 35, 36, 37] rfl (by decide +kernel)
set_option maxRecDepth 20000 in
theorem gX7_comesTo_X7_nextOf : GoodIn wsX7_comesTo (wsV RX7 147 RX7 yX7_nextOf wsX7_nextOf) := goodIn_app (goodIn_of _ (by decide +kernel)) ggX7_comesTo_X7_nextOf
theorem dX7_comesTo_0 : decode cX7_comesTo 0 = .ok (.iload_n 1, 1) := by decide +kernel
theorem dX7_comesTo_1 : decode cX7_comesTo 1 = .ok (.istore_n 3, 1) := by decide +kernel
theorem dX7_comesTo_2 : decode cX7_comesTo 2 = .ok (.iconst 0, 1) := by decide +kernel
theorem dX7_comesTo_3 : decode cX7_comesTo 3 = .ok (.istore 4, 2) := by decide +kernel
theorem dX7_comesTo_5 : decode cX7_comesTo 5 = .ok (.iload 4, 2) := by decide +kernel
theorem dX7_comesTo_7 : decode cX7_comesTo 7 = .ok (.iload_n 2, 1) := by decide +kernel
theorem dX7_comesTo_8 : decode cX7_comesTo 8 = .ok (.if_icmp .ge 64, 3) := by decide +kernel
theorem dX7_comesTo_11 : decode cX7_comesTo 11 = .ok (.iconst 0, 1) := by decide +kernel
theorem dX7_comesTo_12 : decode cX7_comesTo 12 = .ok (.istore 5, 2) := by decide +kernel
theorem dX7_comesTo_14 : decode cX7_comesTo 14 = .ok (.iconst 0, 1) := by decide +kernel
theorem dX7_comesTo_15 : decode cX7_comesTo 15 = .ok (.istore 6, 2) := by decide +kernel
theorem dX7_comesTo_17 : decode cX7_comesTo 17 = .ok (.iload 6, 2) := by decide +kernel
theorem dX7_comesTo_19 : decode cX7_comesTo 19 = .ok (.bipush 7, 2) := by decide +kernel
theorem dX7_comesTo_21 : decode cX7_comesTo 21 = .ok (.if_icmp .ge 42, 3) := by decide +kernel
theorem dX7_comesTo_24 : decode cX7_comesTo 24 = .ok (.iload 5, 2) := by decide +kernel
theorem dX7_comesTo_26 : decode cX7_comesTo 26 = .ok (.iload_n 3, 1) := by decide +kernel
theorem dX7_comesTo_27 : decode cX7_comesTo 27 = .ok (.iload 6, 2) := by decide +kernel
theorem dX7_comesTo_29 : decode cX7_comesTo 29 = .ok (.ishr, 1) := by decide +kernel
theorem dX7_comesTo_30 : decode cX7_comesTo 30 = .ok (.iconst 1, 1) := by decide +kernel
theorem dX7_comesTo_31 : decode cX7_comesTo 31 = .ok (.iand, 1) := by decide +kernel
theorem dX7_comesTo_32 : decode cX7_comesTo 32 = .ok (.iconst 1, 1) := by decide +kernel
theorem dX7_comesTo_33 : decode cX7_comesTo 33 = .ok (.if_icmp .ne 20, 3) := by decide +kernel
theorem dX7_comesTo_36 : decode cX7_comesTo 36 = .ok (.aload_n 0, 1) := by decide +kernel
theorem dX7_comesTo_37 : decode cX7_comesTo 37 = .ok (.bipush 7, 2) := by decide +kernel
theorem dX7_comesTo_39 : decode cX7_comesTo 39 = .ok (.iload 4, 2) := by decide +kernel
theorem dX7_comesTo_41 : decode cX7_comesTo 41 = .ok (.imul, 1) := by decide +kernel
theorem dX7_comesTo_42 : decode cX7_comesTo 42 = .ok (.iload 6, 2) := by decide +kernel
theorem dX7_comesTo_44 : decode cX7_comesTo 44 = .ok (.iadd, 1) := by decide +kernel
theorem dX7_comesTo_45 : decode cX7_comesTo 45 = .ok (.iload 6, 2) := by decide +kernel
theorem dX7_comesTo_47 : decode cX7_comesTo 47 = .ok (.invokevirtual 147, 3) := by decide +kernel
theorem dX7_comesTo_50 : decode cX7_comesTo 50 = .ok (.goto 4, 3) := by decide +kernel
theorem dX7_comesTo_53 : decode cX7_comesTo 53 = .ok (.iconst 0, 1) := by decide +kernel
theorem dX7_comesTo_54 : decode cX7_comesTo 54 = .ok (.ior, 1) := by decide +kernel
theorem dX7_comesTo_55 : decode cX7_comesTo 55 = .ok (.istore 5, 2) := by decide +kernel
theorem dX7_comesTo_57 : decode cX7_comesTo 57 = .ok (.iinc 6 1, 3) := by decide +kernel
theorem dX7_comesTo_60 : decode cX7_comesTo 60 = .ok (.goto (-43), 3) := by decide +kernel
theorem dX7_comesTo_63 : decode cX7_comesTo 63 = .ok (.iload 5, 2) := by decide +kernel
theorem dX7_comesTo_65 : decode cX7_comesTo 65 = .ok (.istore_n 3, 1) := by decide +kernel
theorem dX7_comesTo_66 : decode cX7_comesTo 66 = .ok (.iinc 4 1, 3) := by decide +kernel
theorem dX7_comesTo_69 : decode cX7_comesTo 69 = .ok (.goto (-64), 3) := by decide +kernel
theorem dX7_comesTo_72 : decode cX7_comesTo 72 = .ok (.iload_n 3, 1) := by decide +kernel
theorem dX7_comesTo_73 : decode cX7_comesTo 73 = .ok (.ireturn, 1) := by decide +kernel
set_option maxRecDepth 20000 in
theorem ggX7_reached_X7_comesTo : GoodIn wsX7_reached wsX7_comesTo := goodIn_r _ [5, 6, 7, 8, 4, 9, 10, 11, 12, 13, 14, 15, 16, 17, 18, 19, 20, 21, 22, 23, 24, 25, 26, 27, 28, 29, 30, 31, 32, 33, 34, 35, 36, 37, 38, 39, 40, 41] rfl (by decide +kernel)
set_option maxRecDepth 20000 in
theorem gX7_reached_X7_comesTo : GoodIn wsX7_reached (wsV RX7 150 RX7 yX7_comesTo wsX7_comesTo) := goodIn_app (goodIn_of _ (by decide +kernel)) ggX7_reached_X7_comesTo
theorem dX7_reached_0 : decode cX7_reached 0 = .ok (.aload_n 0, 1) := by decide +kernel
theorem dX7_reached_1 : decode cX7_reached 1 = .ok (.bipush 127, 2) := by decide +kernel
theorem dX7_reached_3 : decode cX7_reached 3 = .ok (.iconst 5, 1) := by decide +kernel
theorem dX7_reached_4 : decode cX7_reached 4 = .ok (.invokevirtual 150, 3) := by decide +kernel
theorem dX7_reached_7 : decode cX7_reached 7 = .ok (.ireturn, 1) := by decide +kernel
set_option maxRecDepth 20000 in
theorem ggX7_pin_X7_isPin : GoodIn wsX7_pin wsX7_isPin := goodIn_r _ [4, 5, 6, 3, 7] rfl (by decide +kernel)
set_option maxRecDepth 20000 in
theorem gX7_pin_X7_isPin : GoodIn wsX7_pin (va_wsS RX7 95 yX7_isPin wsX7_isPin) := goodIn_app (goodIn_of _ (by decide +kernel)) ggX7_pin_X7_isPin
set_option maxRecDepth 20000 in
theorem ggX7_pin_X7_in : GoodIn wsX7_pin wsX7_in := goodIn_r _ [7] rfl (by decide +kernel)
set_option maxRecDepth 20000 in
theorem gX7_pin_X7_in : GoodIn wsX7_pin (va_wsS RX7 42 yX7_in wsX7_in) := goodIn_app (goodIn_of _ (by decide +kernel)) ggX7_pin_X7_in
set_option maxRecDepth 20000 in
theorem ggX7_pin_X7_of : GoodIn wsX7_pin wsX7_of := goodIn_r _ [11, 12, 28, 29, 30, 31, 32, 33, 34, 35, 36, 37, 38, 39, 40, 41, 42, 43, 44] rfl (by decide +kernel)
set_option maxRecDepth 20000 in
theorem gX7_pin_X7_of : GoodIn wsX7_pin (wsV RX7 50 RX7 yX7_of wsX7_of) := goodIn_app (goodIn_of _ (by decide +kernel)) ggX7_pin_X7_of
set_option maxRecDepth 20000 in
theorem ggX7_pin_X7_comesTo : GoodIn wsX7_pin wsX7_comesTo := goodIn_r _ [16, 17, 18, 19, 3, 20, 8, 9, 10, 11, 12, 21, 22, 23, 24, 25, 26, 27, 5, 6, 7, 28, 29, 30, 31, 32, 33, 34, 35, 36, 37, 38, 39, 40, 41, 42, 43, 44] rfl (by decide +kernel)
set_option maxRecDepth 20000 in
theorem gX7_pin_X7_comesTo : GoodIn wsX7_pin (wsV RX7 150 RX7 yX7_comesTo wsX7_comesTo) := goodIn_app (goodIn_of _ (by decide +kernel)) ggX7_pin_X7_comesTo
theorem dX7_pin_0 : decode cX7_pin 0 = .ok (.iload_n 1, 1) := by decide +kernel
theorem dX7_pin_1 : decode cX7_pin 1 = .ok (.invokestatic 95, 3) := by decide +kernel
theorem dX7_pin_4 : decode cX7_pin 4 = .ok (.ifCond .eq 12, 3) := by decide +kernel
theorem dX7_pin_7 : decode cX7_pin 7 = .ok (.iload_n 2, 1) := by decide +kernel
theorem dX7_pin_8 : decode cX7_pin 8 = .ok (.iconst 0, 1) := by decide +kernel
theorem dX7_pin_9 : decode cX7_pin 9 = .ok (.iconst 4, 1) := by decide +kernel
theorem dX7_pin_10 : decode cX7_pin 10 = .ok (.invokestatic 42, 3) := by decide +kernel
theorem dX7_pin_13 : decode cX7_pin 13 = .ok (.ifCond .ne 5, 3) := by decide +kernel
theorem dX7_pin_16 : decode cX7_pin 16 = .ok (.iconst (-1), 1) := by decide +kernel
theorem dX7_pin_17 : decode cX7_pin 17 = .ok (.ireturn, 1) := by decide +kernel
theorem dX7_pin_18 : decode cX7_pin 18 = .ok (.aload_n 0, 1) := by decide +kernel
theorem dX7_pin_19 : decode cX7_pin 19 = .ok (.iload_n 1, 1) := by decide +kernel
theorem dX7_pin_20 : decode cX7_pin 20 = .ok (.iconst 1, 1) := by decide +kernel
theorem dX7_pin_21 : decode cX7_pin 21 = .ok (.invokevirtual 50, 3) := by decide +kernel
theorem dX7_pin_24 : decode cX7_pin 24 = .ok (.iconst 1, 1) := by decide +kernel
theorem dX7_pin_25 : decode cX7_pin 25 = .ok (.if_icmp .ne 7, 3) := by decide +kernel
theorem dX7_pin_28 : decode cX7_pin 28 = .ok (.iconst 1, 1) := by decide +kernel
theorem dX7_pin_29 : decode cX7_pin 29 = .ok (.goto 4, 3) := by decide +kernel
theorem dX7_pin_32 : decode cX7_pin 32 = .ok (.iconst 0, 1) := by decide +kernel
theorem dX7_pin_33 : decode cX7_pin 33 = .ok (.istore_n 3, 1) := by decide +kernel
theorem dX7_pin_34 : decode cX7_pin 34 = .ok (.iload_n 2, 1) := by decide +kernel
theorem dX7_pin_35 : decode cX7_pin 35 = .ok (.tableswitch 77 0 3 #[29, 47, 54, 70], 29) := by decide +kernel
theorem dX7_pin_64 : decode cX7_pin 64 = .ok (.iload_n 3, 1) := by decide +kernel
theorem dX7_pin_65 : decode cX7_pin 65 = .ok (.ifCond .eq 8, 3) := by decide +kernel
theorem dX7_pin_68 : decode cX7_pin 68 = .ok (.bipush (-4), 2) := by decide +kernel
theorem dX7_pin_70 : decode cX7_pin 70 = .ok (.goto 11, 3) := by decide +kernel
theorem dX7_pin_73 : decode cX7_pin 73 = .ok (.aload_n 0, 1) := by decide +kernel
theorem dX7_pin_74 : decode cX7_pin 74 = .ok (.iload_n 1, 1) := by decide +kernel
theorem dX7_pin_75 : decode cX7_pin 75 = .ok (.iconst 0, 1) := by decide +kernel
theorem dX7_pin_76 : decode cX7_pin 76 = .ok (.invokevirtual 50, 3) := by decide +kernel
theorem dX7_pin_79 : decode cX7_pin 79 = .ok (.iconst 3, 1) := by decide +kernel
theorem dX7_pin_80 : decode cX7_pin 80 = .ok (.iadd, 1) := by decide +kernel
theorem dX7_pin_81 : decode cX7_pin 81 = .ok (.ireturn, 1) := by decide +kernel
theorem dX7_pin_82 : decode cX7_pin 82 = .ok (.aload_n 0, 1) := by decide +kernel
theorem dX7_pin_83 : decode cX7_pin 83 = .ok (.iload_n 1, 1) := by decide +kernel
theorem dX7_pin_84 : decode cX7_pin 84 = .ok (.iconst 2, 1) := by decide +kernel
theorem dX7_pin_85 : decode cX7_pin 85 = .ok (.invokevirtual 50, 3) := by decide +kernel
theorem dX7_pin_88 : decode cX7_pin 88 = .ok (.ireturn, 1) := by decide +kernel
theorem dX7_pin_89 : decode cX7_pin 89 = .ok (.iload_n 3, 1) := by decide +kernel
theorem dX7_pin_90 : decode cX7_pin 90 = .ok (.ifCond .eq 8, 3) := by decide +kernel
theorem dX7_pin_93 : decode cX7_pin 93 = .ok (.bipush (-4), 2) := by decide +kernel
theorem dX7_pin_95 : decode cX7_pin 95 = .ok (.goto 9, 3) := by decide +kernel
theorem dX7_pin_98 : decode cX7_pin 98 = .ok (.aload_n 0, 1) := by decide +kernel
theorem dX7_pin_99 : decode cX7_pin 99 = .ok (.iload_n 1, 1) := by decide +kernel
theorem dX7_pin_100 : decode cX7_pin 100 = .ok (.iconst 3, 1) := by decide +kernel
theorem dX7_pin_101 : decode cX7_pin 101 = .ok (.invokevirtual 50, 3) := by decide +kernel
theorem dX7_pin_104 : decode cX7_pin 104 = .ok (.ireturn, 1) := by decide +kernel
theorem dX7_pin_105 : decode cX7_pin 105 = .ok (.aload_n 0, 1) := by decide +kernel
theorem dX7_pin_106 : decode cX7_pin 106 = .ok (.iload_n 1, 1) := by decide +kernel
theorem dX7_pin_107 : decode cX7_pin 107 = .ok (.iconst 4, 1) := by decide +kernel
theorem dX7_pin_108 : decode cX7_pin 108 = .ok (.invokevirtual 50, 3) := by decide +kernel
theorem dX7_pin_111 : decode cX7_pin 111 = .ok (.ireturn, 1) := by decide +kernel
theorem dX7_pin_112 : decode cX7_pin 112 = .ok (.aload_n 0, 1) := by decide +kernel
theorem dX7_pin_113 : decode cX7_pin 113 = .ok (.bipush 127, 2) := by decide +kernel
theorem dX7_pin_115 : decode cX7_pin 115 = .ok (.iload_n 1, 1) := by decide +kernel
theorem dX7_pin_116 : decode cX7_pin 116 = .ok (.bipush 7, 2) := by decide +kernel
theorem dX7_pin_118 : decode cX7_pin 118 = .ok (.idiv, 1) := by decide +kernel
theorem dX7_pin_119 : decode cX7_pin 119 = .ok (.invokevirtual 150, 3) := by decide +kernel
theorem dX7_pin_122 : decode cX7_pin 122 = .ok (.iload_n 1, 1) := by decide +kernel
theorem dX7_pin_123 : decode cX7_pin 123 = .ok (.bipush 7, 2) := by decide +kernel
theorem dX7_pin_125 : decode cX7_pin 125 = .ok (.irem, 1) := by decide +kernel
theorem dX7_pin_126 : decode cX7_pin 126 = .ok (.ishr, 1) := by decide +kernel
theorem dX7_pin_127 : decode cX7_pin 127 = .ok (.iconst 1, 1) := by decide +kernel
theorem dX7_pin_128 : decode cX7_pin 128 = .ok (.iand, 1) := by decide +kernel
theorem dX7_pin_129 : decode cX7_pin 129 = .ok (.ireturn, 1) := by decide +kernel
set_option maxRecDepth 20000 in
theorem ggX7_startsOf_X7_comesTo : GoodIn wsX7_startsOf wsX7_comesTo := goodIn_r _ [5, 6, 7, 8, 4, 9, 10, 11, 12, 13, 14, 15, 16, 17, 18, 19, 20, 21, 22, 23, 24, 25, 26, 27, 28, 29, 30, 31, 32, 33, 34, 35, 36, 37, 38, 39, 40, 41] rfl (by decide +kernel)
set_option maxRecDepth 20000 in
theorem gX7_startsOf_X7_comesTo : GoodIn wsX7_startsOf (wsV RX7 150 RX7 yX7_comesTo wsX7_comesTo) := goodIn_app (goodIn_of _ (by decide +kernel)) ggX7_startsOf_X7_comesTo
theorem dX7_startsOf_0 : decode cX7_startsOf 0 = .ok (.iconst 0, 1) := by decide +kernel
theorem dX7_startsOf_1 : decode cX7_startsOf 1 = .ok (.istore_n 2, 1) := by decide +kernel
theorem dX7_startsOf_2 : decode cX7_startsOf 2 = .ok (.iconst 0, 1) := by decide +kernel
theorem dX7_startsOf_3 : decode cX7_startsOf 3 = .ok (.istore_n 3, 1) := by decide +kernel
theorem dX7_startsOf_4 : decode cX7_startsOf 4 = .ok (.iload_n 3, 1) := by decide +kernel
theorem dX7_startsOf_5 : decode cX7_startsOf 5 = .ok (.bipush 7, 2) := by decide +kernel
theorem dX7_startsOf_7 : decode cX7_startsOf 7 = .ok (.if_icmp .ge 24, 3) := by decide +kernel
theorem dX7_startsOf_10 : decode cX7_startsOf 10 = .ok (.iload_n 2, 1) := by decide +kernel
theorem dX7_startsOf_11 : decode cX7_startsOf 11 = .ok (.aload_n 0, 1) := by decide +kernel
theorem dX7_startsOf_12 : decode cX7_startsOf 12 = .ok (.iconst 1, 1) := by decide +kernel
theorem dX7_startsOf_13 : decode cX7_startsOf 13 = .ok (.iload_n 3, 1) := by decide +kernel
theorem dX7_startsOf_14 : decode cX7_startsOf 14 = .ok (.ishl, 1) := by decide +kernel
theorem dX7_startsOf_15 : decode cX7_startsOf 15 = .ok (.iconst 5, 1) := by decide +kernel
theorem dX7_startsOf_16 : decode cX7_startsOf 16 = .ok (.invokevirtual 150, 3) := by decide +kernel
theorem dX7_startsOf_19 : decode cX7_startsOf 19 = .ok (.iload_n 1, 1) := by decide +kernel
theorem dX7_startsOf_20 : decode cX7_startsOf 20 = .ok (.ishr, 1) := by decide +kernel
theorem dX7_startsOf_21 : decode cX7_startsOf 21 = .ok (.iconst 1, 1) := by decide +kernel
theorem dX7_startsOf_22 : decode cX7_startsOf 22 = .ok (.iand, 1) := by decide +kernel
theorem dX7_startsOf_23 : decode cX7_startsOf 23 = .ok (.iadd, 1) := by decide +kernel
theorem dX7_startsOf_24 : decode cX7_startsOf 24 = .ok (.istore_n 2, 1) := by decide +kernel
theorem dX7_startsOf_25 : decode cX7_startsOf 25 = .ok (.iinc 3 1, 3) := by decide +kernel
theorem dX7_startsOf_28 : decode cX7_startsOf 28 = .ok (.goto (-24), 3) := by decide +kernel
theorem dX7_startsOf_31 : decode cX7_startsOf 31 = .ok (.iload_n 2, 1) := by decide +kernel
theorem dX7_startsOf_32 : decode cX7_startsOf 32 = .ok (.ireturn, 1) := by decide +kernel
set_option maxRecDepth 20000 in
theorem ggX7_pocket_X7_isPlace : GoodIn wsX7_pocket wsX7_isPlace := goodIn_r _ [4, 5, 6, 3, 7] rfl (by decide +kernel)
set_option maxRecDepth 20000 in
theorem gX7_pocket_X7_isPlace : GoodIn wsX7_pocket (va_wsS RX7 86 yX7_isPlace wsX7_isPlace) := goodIn_app (goodIn_of _ (by decide +kernel)) ggX7_pocket_X7_isPlace
set_option maxRecDepth 20000 in
theorem ggX7_pocket_X7_in : GoodIn wsX7_pocket wsX7_in := goodIn_r _ [7] rfl (by decide +kernel)
set_option maxRecDepth 20000 in
theorem gX7_pocket_X7_in : GoodIn wsX7_pocket (va_wsS RX7 42 yX7_in wsX7_in) := goodIn_app (goodIn_of _ (by decide +kernel)) ggX7_pocket_X7_in
set_option maxRecDepth 20000 in
theorem ggX7_pocket_X7_inPocket : GoodIn wsX7_pocket wsX7_inPocket := goodIn_r _ [11, 12, 40, 41, 42, 43, 44, 45, 46, 47, 48, 49, 50, 51, 52, 53, 54, 55, 56] rfl (by decide +kernel)
set_option maxRecDepth 20000 in
theorem gX7_pocket_X7_inPocket : GoodIn wsX7_pocket (wsV RX7 46 RX7 yX7_inPocket wsX7_inPocket) := goodIn_app (goodIn_of _ (by decide +kernel)) ggX7_pocket_X7_inPocket
set_option maxRecDepth 20000 in
theorem ggX7_pocket_X7_isFull : GoodIn wsX7_pocket wsX7_isFull := goodIn_r _ [16, 12, 8, 9, 10, 3, 11, 40, 41, 42, 43, 44, 45, 46, 47, 48, 49, 50, 51, 52, 53, 54, 55, 56] rfl (by decide +kernel)
set_option maxRecDepth 20000 in
theorem gX7_pocket_X7_isFull : GoodIn wsX7_pocket (wsV RX7 82 RX7 yX7_isFull wsX7_isFull) := goodIn_app (goodIn_of _ (by decide +kernel)) ggX7_pocket_X7_isFull
set_option maxRecDepth 20000 in
theorem ggX7_pocket_X7_startsOf : GoodIn wsX7_pocket wsX7_startsOf := goodIn_r _ [20, 21, 22, 23, 3, 24, 25, 26, 27, 28, 29, 30, 31, 32, 12, 33, 34, 35, 36, 37, 38, 39, 5, 6, 7, 40, 41, 42, 43, 44, 45, 46, 47, 48, 49, 50, 51, 52, 53, 54, 55, 56] rfl (by decide +kernel)
set_option maxRecDepth 20000 in
theorem gX7_pocket_X7_startsOf : GoodIn wsX7_pocket (wsV RX7 153 RX7 yX7_startsOf wsX7_startsOf) := goodIn_app (goodIn_of _ (by decide +kernel)) ggX7_pocket_X7_startsOf
theorem dX7_pocket_0 : decode cX7_pocket 0 = .ok (.iload_n 1, 1) := by decide +kernel
theorem dX7_pocket_1 : decode cX7_pocket 1 = .ok (.invokestatic 86, 3) := by decide +kernel
theorem dX7_pocket_4 : decode cX7_pocket 4 = .ok (.ifCond .eq 12, 3) := by decide +kernel
theorem dX7_pocket_7 : decode cX7_pocket 7 = .ok (.iload_n 2, 1) := by decide +kernel
theorem dX7_pocket_8 : decode cX7_pocket 8 = .ok (.iconst 0, 1) := by decide +kernel
theorem dX7_pocket_9 : decode cX7_pocket 9 = .ok (.iconst 4, 1) := by decide +kernel
theorem dX7_pocket_10 : decode cX7_pocket 10 = .ok (.invokestatic 42, 3) := by decide +kernel
theorem dX7_pocket_13 : decode cX7_pocket 13 = .ok (.ifCond .ne 5, 3) := by decide +kernel
theorem dX7_pocket_16 : decode cX7_pocket 16 = .ok (.iconst (-1), 1) := by decide +kernel
theorem dX7_pocket_17 : decode cX7_pocket 17 = .ok (.ireturn, 1) := by decide +kernel
theorem dX7_pocket_18 : decode cX7_pocket 18 = .ok (.iload_n 2, 1) := by decide +kernel
theorem dX7_pocket_19 : decode cX7_pocket 19 = .ok (.tableswitch 57 0 3 #[29, 29, 36, 50], 29) := by decide +kernel
theorem dX7_pocket_48 : decode cX7_pocket 48 = .ok (.aload_n 0, 1) := by decide +kernel
theorem dX7_pocket_49 : decode cX7_pocket 49 = .ok (.iload_n 1, 1) := by decide +kernel
theorem dX7_pocket_50 : decode cX7_pocket 50 = .ok (.iload_n 2, 1) := by decide +kernel
theorem dX7_pocket_51 : decode cX7_pocket 51 = .ok (.invokevirtual 46, 3) := by decide +kernel
theorem dX7_pocket_54 : decode cX7_pocket 54 = .ok (.ireturn, 1) := by decide +kernel
theorem dX7_pocket_55 : decode cX7_pocket 55 = .ok (.aload_n 0, 1) := by decide +kernel
theorem dX7_pocket_56 : decode cX7_pocket 56 = .ok (.iload_n 1, 1) := by decide +kernel
theorem dX7_pocket_57 : decode cX7_pocket 57 = .ok (.invokevirtual 82, 3) := by decide +kernel
theorem dX7_pocket_60 : decode cX7_pocket 60 = .ok (.ifCond .eq 7, 3) := by decide +kernel
theorem dX7_pocket_63 : decode cX7_pocket 63 = .ok (.iconst 1, 1) := by decide +kernel
theorem dX7_pocket_64 : decode cX7_pocket 64 = .ok (.goto 4, 3) := by decide +kernel
theorem dX7_pocket_67 : decode cX7_pocket 67 = .ok (.iconst 0, 1) := by decide +kernel
theorem dX7_pocket_68 : decode cX7_pocket 68 = .ok (.ireturn, 1) := by decide +kernel
theorem dX7_pocket_69 : decode cX7_pocket 69 = .ok (.aload_n 0, 1) := by decide +kernel
theorem dX7_pocket_70 : decode cX7_pocket 70 = .ok (.iload_n 1, 1) := by decide +kernel
theorem dX7_pocket_71 : decode cX7_pocket 71 = .ok (.iconst 2, 1) := by decide +kernel
theorem dX7_pocket_72 : decode cX7_pocket 72 = .ok (.invokevirtual 46, 3) := by decide +kernel
theorem dX7_pocket_75 : decode cX7_pocket 75 = .ok (.ireturn, 1) := by decide +kernel
theorem dX7_pocket_76 : decode cX7_pocket 76 = .ok (.aload_n 0, 1) := by decide +kernel
theorem dX7_pocket_77 : decode cX7_pocket 77 = .ok (.iload_n 1, 1) := by decide +kernel
theorem dX7_pocket_78 : decode cX7_pocket 78 = .ok (.invokevirtual 153, 3) := by decide +kernel
theorem dX7_pocket_81 : decode cX7_pocket 81 = .ok (.ireturn, 1) := by decide +kernel
set_option maxRecDepth 20000 in
theorem ggX7_reach_X7_in : GoodIn wsX7_reach wsX7_in := goodIn_r _ [4] rfl (by decide +kernel)
set_option maxRecDepth 20000 in
theorem gX7_reach_X7_in : GoodIn wsX7_reach (va_wsS RX7 42 yX7_in wsX7_in) := goodIn_app (goodIn_of _ (by decide +kernel)) ggX7_reach_X7_in
set_option maxRecDepth 20000 in
theorem ggX7_reach_X7_reached : GoodIn wsX7_reach wsX7_reached := goodIn_r _ [8, 9, 10, 11, 3, 12, 13, 14, 15, 16, 17, 18, 19, 20, 21, 22, 23, 24, 25, 26, 27, 28, 1, 2, 4, 29, 30, 31, 32, 33, 34, 35, 36, 37, 38, 39, 40, 41, 42, 43, 44, 45] rfl (by decide +kernel)
set_option maxRecDepth 20000 in
theorem gX7_reach_X7_reached : GoodIn wsX7_reach (wsV RX7 156 RX7 yX7_reached wsX7_reached) := goodIn_app (goodIn_of _ (by decide +kernel)) ggX7_reach_X7_reached
theorem dX7_reach_0 : decode cX7_reach 0 = .ok (.iload_n 1, 1) := by decide +kernel
theorem dX7_reach_1 : decode cX7_reach 1 = .ok (.iconst 0, 1) := by decide +kernel
theorem dX7_reach_2 : decode cX7_reach 2 = .ok (.iconst 1, 1) := by decide +kernel
theorem dX7_reach_3 : decode cX7_reach 3 = .ok (.invokestatic 42, 3) := by decide +kernel
theorem dX7_reach_6 : decode cX7_reach 6 = .ok (.ifCond .eq 10, 3) := by decide +kernel
theorem dX7_reach_9 : decode cX7_reach 9 = .ok (.aload_n 0, 1) := by decide +kernel
theorem dX7_reach_10 : decode cX7_reach 10 = .ok (.invokevirtual 156, 3) := by decide +kernel
theorem dX7_reach_13 : decode cX7_reach 13 = .ok (.goto 4, 3) := by decide +kernel
theorem dX7_reach_16 : decode cX7_reach 16 = .ok (.iconst (-1), 1) := by decide +kernel
theorem dX7_reach_17 : decode cX7_reach 17 = .ok (.ireturn, 1) := by decide +kernel
set_option maxRecDepth 20000 in
theorem ggX7_spreads_X7_of : GoodIn wsX7_spreads wsX7_of := goodIn_r _ [7, 8, 19, 20, 21, 22, 23, 24, 25, 26, 27, 28, 29, 30, 31, 32, 33, 34, 35] rfl (by decide +kernel)
set_option maxRecDepth 20000 in
theorem gX7_spreads_X7_of : GoodIn wsX7_spreads (wsV RX7 50 RX7 yX7_of wsX7_of) := goodIn_app (goodIn_of _ (by decide +kernel)) ggX7_spreads_X7_of
set_option maxRecDepth 20000 in
theorem ggX7_spreads_X7_sends : GoodIn wsX7_spreads wsX7_sends := goodIn_r _ [12, 8, 3, 4, 5, 6, 7, 19, 20, 21, 22, 23, 24, 25, 26, 27, 28, 29, 30, 31, 32, 33, 34, 35] rfl (by decide +kernel)
set_option maxRecDepth 20000 in
theorem gX7_spreads_X7_sends : GoodIn wsX7_spreads (wsV RX7 60 RX7 yX7_sends wsX7_sends) := goodIn_app (goodIn_of _ (by decide +kernel)) ggX7_spreads_X7_sends
set_option maxRecDepth 20000 in
theorem ggX7_spreads_X7_moved : GoodIn wsX7_spreads wsX7_moved := goodIn_r _ [15, 16, 17, 6, 18] rfl (by decide +kernel)
set_option maxRecDepth 20000 in
theorem gX7_spreads_X7_moved : GoodIn wsX7_spreads (va_wsS RX7 68 yX7_moved wsX7_moved) := goodIn_app (goodIn_of _ (by decide +kernel)) ggX7_spreads_X7_moved
theorem dX7_spreads_0 : decode cX7_spreads 0 = .ok (.iconst 0, 1) := by decide +kernel
theorem dX7_spreads_1 : decode cX7_spreads 1 = .ok (.istore_n 2, 1) := by decide +kernel
theorem dX7_spreads_2 : decode cX7_spreads 2 = .ok (.iload_n 2, 1) := by decide +kernel
theorem dX7_spreads_3 : decode cX7_spreads 3 = .ok (.bipush 7, 2) := by decide +kernel
theorem dX7_spreads_5 : decode cX7_spreads 5 = .ok (.if_icmp .ge 16, 3) := by decide +kernel
theorem dX7_spreads_8 : decode cX7_spreads 8 = .ok (.aload_n 0, 1) := by decide +kernel
theorem dX7_spreads_9 : decode cX7_spreads 9 = .ok (.getfield 31, 3) := by decide +kernel
theorem dX7_spreads_12 : decode cX7_spreads 12 = .ok (.iload_n 2, 1) := by decide +kernel
theorem dX7_spreads_13 : decode cX7_spreads 13 = .ok (.iconst 0, 1) := by decide +kernel
theorem dX7_spreads_14 : decode cX7_spreads 14 = .ok (.iastore, 1) := by decide +kernel
theorem dX7_spreads_15 : decode cX7_spreads 15 = .ok (.iinc 2 1, 3) := by decide +kernel
theorem dX7_spreads_18 : decode cX7_spreads 18 = .ok (.goto (-16), 3) := by decide +kernel
theorem dX7_spreads_21 : decode cX7_spreads 21 = .ok (.iconst 0, 1) := by decide +kernel
theorem dX7_spreads_22 : decode cX7_spreads 22 = .ok (.istore_n 2, 1) := by decide +kernel
theorem dX7_spreads_23 : decode cX7_spreads 23 = .ok (.iload_n 2, 1) := by decide +kernel
theorem dX7_spreads_24 : decode cX7_spreads 24 = .ok (.bipush 7, 2) := by decide +kernel
theorem dX7_spreads_26 : decode cX7_spreads 26 = .ok (.if_icmp .ge 119, 3) := by decide +kernel
theorem dX7_spreads_29 : decode cX7_spreads 29 = .ok (.bipush 7, 2) := by decide +kernel
theorem dX7_spreads_31 : decode cX7_spreads 31 = .ok (.iload_n 1, 1) := by decide +kernel
theorem dX7_spreads_32 : decode cX7_spreads 32 = .ok (.imul, 1) := by decide +kernel
theorem dX7_spreads_33 : decode cX7_spreads 33 = .ok (.iload_n 2, 1) := by decide +kernel
theorem dX7_spreads_34 : decode cX7_spreads 34 = .ok (.iadd, 1) := by decide +kernel
theorem dX7_spreads_35 : decode cX7_spreads 35 = .ok (.istore_n 3, 1) := by decide +kernel
theorem dX7_spreads_36 : decode cX7_spreads 36 = .ok (.aload_n 0, 1) := by decide +kernel
theorem dX7_spreads_37 : decode cX7_spreads 37 = .ok (.iload_n 3, 1) := by decide +kernel
theorem dX7_spreads_38 : decode cX7_spreads 38 = .ok (.iconst 1, 1) := by decide +kernel
theorem dX7_spreads_39 : decode cX7_spreads 39 = .ok (.invokevirtual 50, 3) := by decide +kernel
theorem dX7_spreads_42 : decode cX7_spreads 42 = .ok (.iconst 1, 1) := by decide +kernel
theorem dX7_spreads_43 : decode cX7_spreads 43 = .ok (.if_icmp .ne 7, 3) := by decide +kernel
theorem dX7_spreads_46 : decode cX7_spreads 46 = .ok (.iconst 0, 1) := by decide +kernel
theorem dX7_spreads_47 : decode cX7_spreads 47 = .ok (.goto 8, 3) := by decide +kernel
theorem dX7_spreads_50 : decode cX7_spreads 50 = .ok (.aload_n 0, 1) := by decide +kernel
theorem dX7_spreads_51 : decode cX7_spreads 51 = .ok (.iload_n 3, 1) := by decide +kernel
theorem dX7_spreads_52 : decode cX7_spreads 52 = .ok (.invokevirtual 60, 3) := by decide +kernel
theorem dX7_spreads_55 : decode cX7_spreads 55 = .ok (.istore 4, 2) := by decide +kernel
theorem dX7_spreads_57 : decode cX7_spreads 57 = .ok (.aload_n 0, 1) := by decide +kernel
theorem dX7_spreads_58 : decode cX7_spreads 58 = .ok (.iload_n 3, 1) := by decide +kernel
theorem dX7_spreads_59 : decode cX7_spreads 59 = .ok (.iconst 1, 1) := by decide +kernel
theorem dX7_spreads_60 : decode cX7_spreads 60 = .ok (.invokevirtual 50, 3) := by decide +kernel
theorem dX7_spreads_63 : decode cX7_spreads 63 = .ok (.ifCond .ne 12, 3) := by decide +kernel
theorem dX7_spreads_66 : decode cX7_spreads 66 = .ok (.iload 4, 2) := by decide +kernel
theorem dX7_spreads_68 : decode cX7_spreads 68 = .ok (.ifCond .ne 7, 3) := by decide +kernel
theorem dX7_spreads_71 : decode cX7_spreads 71 = .ok (.iconst 1, 1) := by decide +kernel
theorem dX7_spreads_72 : decode cX7_spreads 72 = .ok (.goto 4, 3) := by decide +kernel
theorem dX7_spreads_75 : decode cX7_spreads 75 = .ok (.iconst 0, 1) := by decide +kernel
theorem dX7_spreads_76 : decode cX7_spreads 76 = .ok (.istore 5, 2) := by decide +kernel
theorem dX7_spreads_78 : decode cX7_spreads 78 = .ok (.aload_n 0, 1) := by decide +kernel
theorem dX7_spreads_79 : decode cX7_spreads 79 = .ok (.getfield 31, 3) := by decide +kernel
theorem dX7_spreads_82 : decode cX7_spreads 82 = .ok (.iload 5, 2) := by decide +kernel
theorem dX7_spreads_84 : decode cX7_spreads 84 = .ok (.ifCond .eq 11, 3) := by decide +kernel
theorem dX7_spreads_87 : decode cX7_spreads 87 = .ok (.iload_n 2, 1) := by decide +kernel
theorem dX7_spreads_88 : decode cX7_spreads 88 = .ok (.iconst (-1), 1) := by decide +kernel
theorem dX7_spreads_89 : decode cX7_spreads 89 = .ok (.invokestatic 68, 3) := by decide +kernel
theorem dX7_spreads_92 : decode cX7_spreads 92 = .ok (.goto 9, 3) := by decide +kernel
theorem dX7_spreads_95 : decode cX7_spreads 95 = .ok (.iload_n 2, 1) := by decide +kernel
theorem dX7_spreads_96 : decode cX7_spreads 96 = .ok (.iload 4, 2) := by decide +kernel
theorem dX7_spreads_98 : decode cX7_spreads 98 = .ok (.invokestatic 68, 3) := by decide +kernel
theorem dX7_spreads_101 : decode cX7_spreads 101 = .ok (.dup2, 1) := by decide +kernel
theorem dX7_spreads_102 : decode cX7_spreads 102 = .ok (.iaload, 1) := by decide +kernel
theorem dX7_spreads_103 : decode cX7_spreads 103 = .ok (.aload_n 0, 1) := by decide +kernel
theorem dX7_spreads_104 : decode cX7_spreads 104 = .ok (.getfield 28, 3) := by decide +kernel
theorem dX7_spreads_107 : decode cX7_spreads 107 = .ok (.iload_n 2, 1) := by decide +kernel
theorem dX7_spreads_108 : decode cX7_spreads 108 = .ok (.iaload, 1) := by decide +kernel
theorem dX7_spreads_109 : decode cX7_spreads 109 = .ok (.iadd, 1) := by decide +kernel
theorem dX7_spreads_110 : decode cX7_spreads 110 = .ok (.iastore, 1) := by decide +kernel
theorem dX7_spreads_111 : decode cX7_spreads 111 = .ok (.aload_n 0, 1) := by decide +kernel
theorem dX7_spreads_112 : decode cX7_spreads 112 = .ok (.getfield 31, 3) := by decide +kernel
theorem dX7_spreads_115 : decode cX7_spreads 115 = .ok (.iload_n 2, 1) := by decide +kernel
theorem dX7_spreads_116 : decode cX7_spreads 116 = .ok (.iconst 1, 1) := by decide +kernel
theorem dX7_spreads_117 : decode cX7_spreads 117 = .ok (.invokestatic 68, 3) := by decide +kernel
theorem dX7_spreads_120 : decode cX7_spreads 120 = .ok (.dup2, 1) := by decide +kernel
theorem dX7_spreads_121 : decode cX7_spreads 121 = .ok (.iaload, 1) := by decide +kernel
theorem dX7_spreads_122 : decode cX7_spreads 122 = .ok (.iload 5, 2) := by decide +kernel
theorem dX7_spreads_124 : decode cX7_spreads 124 = .ok (.ifCond .eq 12, 3) := by decide +kernel
theorem dX7_spreads_127 : decode cX7_spreads 127 = .ok (.aload_n 0, 1) := by decide +kernel
theorem dX7_spreads_128 : decode cX7_spreads 128 = .ok (.getfield 28, 3) := by decide +kernel
theorem dX7_spreads_131 : decode cX7_spreads 131 = .ok (.iload_n 2, 1) := by decide +kernel
theorem dX7_spreads_132 : decode cX7_spreads 132 = .ok (.iaload, 1) := by decide +kernel
theorem dX7_spreads_133 : decode cX7_spreads 133 = .ok (.goto 4, 3) := by decide +kernel
theorem dX7_spreads_136 : decode cX7_spreads 136 = .ok (.iconst 0, 1) := by decide +kernel
theorem dX7_spreads_137 : decode cX7_spreads 137 = .ok (.iadd, 1) := by decide +kernel
theorem dX7_spreads_138 : decode cX7_spreads 138 = .ok (.iastore, 1) := by decide +kernel
theorem dX7_spreads_139 : decode cX7_spreads 139 = .ok (.iinc 2 1, 3) := by decide +kernel
theorem dX7_spreads_142 : decode cX7_spreads 142 = .ok (.goto (-119), 3) := by decide +kernel
theorem dX7_spreads_145 : decode cX7_spreads 145 = .ok (.iconst 0, 1) := by decide +kernel
theorem dX7_spreads_146 : decode cX7_spreads 146 = .ok (.istore_n 2, 1) := by decide +kernel
theorem dX7_spreads_147 : decode cX7_spreads 147 = .ok (.iload_n 2, 1) := by decide +kernel
theorem dX7_spreads_148 : decode cX7_spreads 148 = .ok (.bipush 7, 2) := by decide +kernel
theorem dX7_spreads_150 : decode cX7_spreads 150 = .ok (.if_icmp .ge 21, 3) := by decide +kernel
theorem dX7_spreads_153 : decode cX7_spreads 153 = .ok (.aload_n 0, 1) := by decide +kernel
theorem dX7_spreads_154 : decode cX7_spreads 154 = .ok (.getfield 28, 3) := by decide +kernel
theorem dX7_spreads_157 : decode cX7_spreads 157 = .ok (.iload_n 2, 1) := by decide +kernel
theorem dX7_spreads_158 : decode cX7_spreads 158 = .ok (.aload_n 0, 1) := by decide +kernel
theorem dX7_spreads_159 : decode cX7_spreads 159 = .ok (.getfield 31, 3) := by decide +kernel
theorem dX7_spreads_162 : decode cX7_spreads 162 = .ok (.iload_n 2, 1) := by decide +kernel
theorem dX7_spreads_163 : decode cX7_spreads 163 = .ok (.iaload, 1) := by decide +kernel
theorem dX7_spreads_164 : decode cX7_spreads 164 = .ok (.iastore, 1) := by decide +kernel
theorem dX7_spreads_165 : decode cX7_spreads 165 = .ok (.iinc 2 1, 3) := by decide +kernel
theorem dX7_spreads_168 : decode cX7_spreads 168 = .ok (.goto (-21), 3) := by decide +kernel
theorem dX7_spreads_171 : decode cX7_spreads 171 = .ok (.return_, 1) := by decide +kernel
set_option maxRecDepth 20000 in
theorem ggX7_waysTo_X7_spreads : GoodIn wsX7_waysTo wsX7_spreads := goodIn_r _ [6, 7, 1, 8, 9, 10, 5, 11, 12, 13, 14, 15, 16, 17, 18, 19, 20, 21, 22, 23, 24, 25, 26, 27, 28, 29, 30, 31, 32, 33, 34, 35, 36, 37, 38, 39] rfl (by decide +kernel)
set_option maxRecDepth 20000 in
theorem gX7_waysTo_X7_spreads : GoodIn wsX7_waysTo (wsV RX7 159 RX7 yX7_spreads wsX7_spreads) := goodIn_app (goodIn_of _ (by decide +kernel)) ggX7_waysTo_X7_spreads
theorem dX7_waysTo_0 : decode cX7_waysTo 0 = .ok (.iconst 0, 1) := by decide +kernel
theorem dX7_waysTo_1 : decode cX7_waysTo 1 = .ok (.istore_n 2, 1) := by decide +kernel
theorem dX7_waysTo_2 : decode cX7_waysTo 2 = .ok (.iload_n 2, 1) := by decide +kernel
theorem dX7_waysTo_3 : decode cX7_waysTo 3 = .ok (.bipush 7, 2) := by decide +kernel
theorem dX7_waysTo_5 : decode cX7_waysTo 5 = .ok (.if_icmp .ge 16, 3) := by decide +kernel
theorem dX7_waysTo_8 : decode cX7_waysTo 8 = .ok (.aload_n 0, 1) := by decide +kernel
theorem dX7_waysTo_9 : decode cX7_waysTo 9 = .ok (.getfield 28, 3) := by decide +kernel
theorem dX7_waysTo_12 : decode cX7_waysTo 12 = .ok (.iload_n 2, 1) := by decide +kernel
theorem dX7_waysTo_13 : decode cX7_waysTo 13 = .ok (.iconst 1, 1) := by decide +kernel
theorem dX7_waysTo_14 : decode cX7_waysTo 14 = .ok (.iastore, 1) := by decide +kernel
theorem dX7_waysTo_15 : decode cX7_waysTo 15 = .ok (.iinc 2 1, 3) := by decide +kernel
theorem dX7_waysTo_18 : decode cX7_waysTo 18 = .ok (.goto (-16), 3) := by decide +kernel
theorem dX7_waysTo_21 : decode cX7_waysTo 21 = .ok (.iconst 0, 1) := by decide +kernel
theorem dX7_waysTo_22 : decode cX7_waysTo 22 = .ok (.istore_n 2, 1) := by decide +kernel
theorem dX7_waysTo_23 : decode cX7_waysTo 23 = .ok (.iload_n 2, 1) := by decide +kernel
theorem dX7_waysTo_24 : decode cX7_waysTo 24 = .ok (.iconst 5, 1) := by decide +kernel
theorem dX7_waysTo_25 : decode cX7_waysTo 25 = .ok (.if_icmp .ge 14, 3) := by decide +kernel
theorem dX7_waysTo_28 : decode cX7_waysTo 28 = .ok (.aload_n 0, 1) := by decide +kernel
theorem dX7_waysTo_29 : decode cX7_waysTo 29 = .ok (.iload_n 2, 1) := by decide +kernel
theorem dX7_waysTo_30 : decode cX7_waysTo 30 = .ok (.invokevirtual 159, 3) := by decide +kernel
theorem dX7_waysTo_33 : decode cX7_waysTo 33 = .ok (.iinc 2 1, 3) := by decide +kernel
theorem dX7_waysTo_36 : decode cX7_waysTo 36 = .ok (.goto (-13), 3) := by decide +kernel
theorem dX7_waysTo_39 : decode cX7_waysTo 39 = .ok (.aload_n 0, 1) := by decide +kernel
theorem dX7_waysTo_40 : decode cX7_waysTo 40 = .ok (.getfield 28, 3) := by decide +kernel
theorem dX7_waysTo_43 : decode cX7_waysTo 43 = .ok (.iload_n 1, 1) := by decide +kernel
theorem dX7_waysTo_44 : decode cX7_waysTo 44 = .ok (.iaload, 1) := by decide +kernel
theorem dX7_waysTo_45 : decode cX7_waysTo 45 = .ok (.ireturn, 1) := by decide +kernel
set_option maxRecDepth 20000 in
theorem ggX7_ways_X7_isPlace : GoodIn wsX7_ways wsX7_isPlace := goodIn_r _ [4, 5, 6, 3, 7] rfl (by decide +kernel)
set_option maxRecDepth 20000 in
theorem gX7_ways_X7_isPlace : GoodIn wsX7_ways (va_wsS RX7 86 yX7_isPlace wsX7_isPlace) := goodIn_app (goodIn_of _ (by decide +kernel)) ggX7_ways_X7_isPlace
set_option maxRecDepth 20000 in
theorem ggX7_ways_X7_in : GoodIn wsX7_ways wsX7_in := goodIn_r _ [7] rfl (by decide +kernel)
set_option maxRecDepth 20000 in
theorem gX7_ways_X7_in : GoodIn wsX7_ways (va_wsS RX7 42 yX7_in wsX7_in) := goodIn_app (goodIn_of _ (by decide +kernel)) ggX7_ways_X7_in
set_option maxRecDepth 20000 in
theorem ggX7_ways_X7_waysTo : GoodIn wsX7_ways wsX7_waysTo := goodIn_r _ [11, 12, 13, 14, 15, 3, 16, 17, 18, 19, 20, 21, 22, 23, 24, 25, 26, 27, 28, 29, 5, 6, 7, 30, 31, 32, 33, 34, 35, 36, 37, 38, 39, 40, 41, 42, 43, 44, 45, 46] rfl (by decide +kernel)
set_option maxRecDepth 20000 in
theorem gX7_ways_X7_waysTo : GoodIn wsX7_ways (wsV RX7 163 RX7 yX7_waysTo wsX7_waysTo) := goodIn_app (goodIn_of _ (by decide +kernel)) ggX7_ways_X7_waysTo
theorem dX7_ways_0 : decode cX7_ways 0 = .ok (.iload_n 1, 1) := by decide +kernel
theorem dX7_ways_1 : decode cX7_ways 1 = .ok (.invokestatic 86, 3) := by decide +kernel
theorem dX7_ways_4 : decode cX7_ways 4 = .ok (.ifCond .eq 20, 3) := by decide +kernel
theorem dX7_ways_7 : decode cX7_ways 7 = .ok (.iload_n 2, 1) := by decide +kernel
theorem dX7_ways_8 : decode cX7_ways 8 = .ok (.iconst 0, 1) := by decide +kernel
theorem dX7_ways_9 : decode cX7_ways 9 = .ok (.iconst 1, 1) := by decide +kernel
theorem dX7_ways_10 : decode cX7_ways 10 = .ok (.invokestatic 42, 3) := by decide +kernel
theorem dX7_ways_13 : decode cX7_ways 13 = .ok (.ifCond .eq 11, 3) := by decide +kernel
theorem dX7_ways_16 : decode cX7_ways 16 = .ok (.aload_n 0, 1) := by decide +kernel
theorem dX7_ways_17 : decode cX7_ways 17 = .ok (.iload_n 1, 1) := by decide +kernel
theorem dX7_ways_18 : decode cX7_ways 18 = .ok (.invokevirtual 163, 3) := by decide +kernel
theorem dX7_ways_21 : decode cX7_ways 21 = .ok (.goto 4, 3) := by decide +kernel
theorem dX7_ways_24 : decode cX7_ways 24 = .ok (.iconst (-1), 1) := by decide +kernel
theorem dX7_ways_25 : decode cX7_ways 25 = .ok (.ireturn, 1) := by decide +kernel
set_option maxRecDepth 20000 in
theorem ggX7_straightOnes_X7_of : GoodIn wsX7_straightOnes wsX7_of := goodIn_r _ [5, 6, 7, 8, 9, 10, 11, 12, 13, 14, 15, 16, 17, 18, 19, 20, 21, 22, 23] rfl (by decide +kernel)
set_option maxRecDepth 20000 in
theorem gX7_straightOnes_X7_of : GoodIn wsX7_straightOnes (wsV RX7 50 RX7 yX7_of wsX7_of) := goodIn_app (goodIn_of _ (by decide +kernel)) ggX7_straightOnes_X7_of
theorem dX7_straightOnes_0 : decode cX7_straightOnes 0 = .ok (.iconst 0, 1) := by decide +kernel
theorem dX7_straightOnes_1 : decode cX7_straightOnes 1 = .ok (.istore_n 1, 1) := by decide +kernel
theorem dX7_straightOnes_2 : decode cX7_straightOnes 2 = .ok (.iconst 0, 1) := by decide +kernel
theorem dX7_straightOnes_3 : decode cX7_straightOnes 3 = .ok (.istore_n 2, 1) := by decide +kernel
theorem dX7_straightOnes_4 : decode cX7_straightOnes 4 = .ok (.iload_n 2, 1) := by decide +kernel
theorem dX7_straightOnes_5 : decode cX7_straightOnes 5 = .ok (.bipush 35, 2) := by decide +kernel
theorem dX7_straightOnes_7 : decode cX7_straightOnes 7 = .ok (.if_icmp .ge 35, 3) := by decide +kernel
theorem dX7_straightOnes_10 : decode cX7_straightOnes 10 = .ok (.iload_n 1, 1) := by decide +kernel
theorem dX7_straightOnes_11 : decode cX7_straightOnes 11 = .ok (.aload_n 0, 1) := by decide +kernel
theorem dX7_straightOnes_12 : decode cX7_straightOnes 12 = .ok (.iload_n 2, 1) := by decide +kernel
theorem dX7_straightOnes_13 : decode cX7_straightOnes 13 = .ok (.iconst 1, 1) := by decide +kernel
theorem dX7_straightOnes_14 : decode cX7_straightOnes 14 = .ok (.invokevirtual 50, 3) := by decide +kernel
theorem dX7_straightOnes_17 : decode cX7_straightOnes 17 = .ok (.ifCond .ne 16, 3) := by decide +kernel
theorem dX7_straightOnes_20 : decode cX7_straightOnes 20 = .ok (.aload_n 0, 1) := by decide +kernel
theorem dX7_straightOnes_21 : decode cX7_straightOnes 21 = .ok (.iload_n 2, 1) := by decide +kernel
theorem dX7_straightOnes_22 : decode cX7_straightOnes 22 = .ok (.iconst 0, 1) := by decide +kernel
theorem dX7_straightOnes_23 : decode cX7_straightOnes 23 = .ok (.invokevirtual 50, 3) := by decide +kernel
theorem dX7_straightOnes_26 : decode cX7_straightOnes 26 = .ok (.ifCond .ne 7, 3) := by decide +kernel
theorem dX7_straightOnes_29 : decode cX7_straightOnes 29 = .ok (.iconst 1, 1) := by decide +kernel
theorem dX7_straightOnes_30 : decode cX7_straightOnes 30 = .ok (.goto 4, 3) := by decide +kernel
theorem dX7_straightOnes_33 : decode cX7_straightOnes 33 = .ok (.iconst 0, 1) := by decide +kernel
theorem dX7_straightOnes_34 : decode cX7_straightOnes 34 = .ok (.iadd, 1) := by decide +kernel
theorem dX7_straightOnes_35 : decode cX7_straightOnes 35 = .ok (.istore_n 1, 1) := by decide +kernel
theorem dX7_straightOnes_36 : decode cX7_straightOnes 36 = .ok (.iinc 2 1, 3) := by decide +kernel
theorem dX7_straightOnes_39 : decode cX7_straightOnes 39 = .ok (.goto (-35), 3) := by decide +kernel
theorem dX7_straightOnes_42 : decode cX7_straightOnes 42 = .ok (.iload_n 1, 1) := by decide +kernel
theorem dX7_straightOnes_43 : decode cX7_straightOnes 43 = .ok (.ireturn, 1) := by decide +kernel
set_option maxRecDepth 20000 in
theorem ggX7_allBends_X7_of : GoodIn wsX7_allBends wsX7_of := goodIn_r _ [5, 6, 7, 8, 9, 10, 11, 12, 13, 14, 15, 16, 17, 18, 19, 20, 21, 22, 23] rfl (by decide +kernel)
set_option maxRecDepth 20000 in
theorem gX7_allBends_X7_of : GoodIn wsX7_allBends (wsV RX7 50 RX7 yX7_of wsX7_of) := goodIn_app (goodIn_of _ (by decide +kernel)) ggX7_allBends_X7_of
theorem dX7_allBends_0 : decode cX7_allBends 0 = .ok (.iconst 0, 1) := by decide +kernel
theorem dX7_allBends_1 : decode cX7_allBends 1 = .ok (.istore_n 1, 1) := by decide +kernel
theorem dX7_allBends_2 : decode cX7_allBends 2 = .ok (.iconst 0, 1) := by decide +kernel
theorem dX7_allBends_3 : decode cX7_allBends 3 = .ok (.istore_n 2, 1) := by decide +kernel
theorem dX7_allBends_4 : decode cX7_allBends 4 = .ok (.iload_n 2, 1) := by decide +kernel
theorem dX7_allBends_5 : decode cX7_allBends 5 = .ok (.bipush 35, 2) := by decide +kernel
theorem dX7_allBends_7 : decode cX7_allBends 7 = .ok (.if_icmp .ge 43, 3) := by decide +kernel
theorem dX7_allBends_10 : decode cX7_allBends 10 = .ok (.aload_n 0, 1) := by decide +kernel
theorem dX7_allBends_11 : decode cX7_allBends 11 = .ok (.iload_n 2, 1) := by decide +kernel
theorem dX7_allBends_12 : decode cX7_allBends 12 = .ok (.iconst 1, 1) := by decide +kernel
theorem dX7_allBends_13 : decode cX7_allBends 13 = .ok (.invokevirtual 50, 3) := by decide +kernel
theorem dX7_allBends_16 : decode cX7_allBends 16 = .ok (.iconst 1, 1) := by decide +kernel
theorem dX7_allBends_17 : decode cX7_allBends 17 = .ok (.if_icmp .ne 7, 3) := by decide +kernel
theorem dX7_allBends_20 : decode cX7_allBends 20 = .ok (.iconst 0, 1) := by decide +kernel
theorem dX7_allBends_21 : decode cX7_allBends 21 = .ok (.goto 9, 3) := by decide +kernel
theorem dX7_allBends_24 : decode cX7_allBends 24 = .ok (.aload_n 0, 1) := by decide +kernel
theorem dX7_allBends_25 : decode cX7_allBends 25 = .ok (.iload_n 2, 1) := by decide +kernel
theorem dX7_allBends_26 : decode cX7_allBends 26 = .ok (.iconst 0, 1) := by decide +kernel
theorem dX7_allBends_27 : decode cX7_allBends 27 = .ok (.invokevirtual 50, 3) := by decide +kernel
theorem dX7_allBends_30 : decode cX7_allBends 30 = .ok (.istore_n 3, 1) := by decide +kernel
theorem dX7_allBends_31 : decode cX7_allBends 31 = .ok (.iload_n 1, 1) := by decide +kernel
theorem dX7_allBends_32 : decode cX7_allBends 32 = .ok (.iload_n 3, 1) := by decide +kernel
theorem dX7_allBends_33 : decode cX7_allBends 33 = .ok (.ifCond .ge 8, 3) := by decide +kernel
theorem dX7_allBends_36 : decode cX7_allBends 36 = .ok (.iload_n 3, 1) := by decide +kernel
theorem dX7_allBends_37 : decode cX7_allBends 37 = .ok (.ineg, 1) := by decide +kernel
theorem dX7_allBends_38 : decode cX7_allBends 38 = .ok (.goto 4, 3) := by decide +kernel
theorem dX7_allBends_41 : decode cX7_allBends 41 = .ok (.iload_n 3, 1) := by decide +kernel
theorem dX7_allBends_42 : decode cX7_allBends 42 = .ok (.iadd, 1) := by decide +kernel
theorem dX7_allBends_43 : decode cX7_allBends 43 = .ok (.istore_n 1, 1) := by decide +kernel
theorem dX7_allBends_44 : decode cX7_allBends 44 = .ok (.iinc 2 1, 3) := by decide +kernel
theorem dX7_allBends_47 : decode cX7_allBends 47 = .ok (.goto (-43), 3) := by decide +kernel
theorem dX7_allBends_50 : decode cX7_allBends 50 = .ok (.iload_n 1, 1) := by decide +kernel
theorem dX7_allBends_51 : decode cX7_allBends 51 = .ok (.ireturn, 1) := by decide +kernel
set_option maxRecDepth 20000 in
theorem ggX7_inPockets_X7_inPocket : GoodIn wsX7_inPockets wsX7_inPocket := goodIn_r _ [5, 6, 7, 8, 9, 10, 11, 12, 13, 14, 15, 16, 17, 18, 19, 20, 21, 22, 23] rfl (by decide +kernel)
set_option maxRecDepth 20000 in
theorem gX7_inPockets_X7_inPocket : GoodIn wsX7_inPockets (wsV RX7 46 RX7 yX7_inPocket wsX7_inPocket) := goodIn_app (goodIn_of _ (by decide +kernel)) ggX7_inPockets_X7_inPocket
theorem dX7_inPockets_0 : decode cX7_inPockets 0 = .ok (.iconst 0, 1) := by decide +kernel
theorem dX7_inPockets_1 : decode cX7_inPockets 1 = .ok (.istore_n 1, 1) := by decide +kernel
theorem dX7_inPockets_2 : decode cX7_inPockets 2 = .ok (.iconst 0, 1) := by decide +kernel
theorem dX7_inPockets_3 : decode cX7_inPockets 3 = .ok (.istore_n 2, 1) := by decide +kernel
theorem dX7_inPockets_4 : decode cX7_inPockets 4 = .ok (.iload_n 2, 1) := by decide +kernel
theorem dX7_inPockets_5 : decode cX7_inPockets 5 = .ok (.bipush 7, 2) := by decide +kernel
theorem dX7_inPockets_7 : decode cX7_inPockets 7 = .ok (.if_icmp .ge 18, 3) := by decide +kernel
theorem dX7_inPockets_10 : decode cX7_inPockets 10 = .ok (.iload_n 1, 1) := by decide +kernel
theorem dX7_inPockets_11 : decode cX7_inPockets 11 = .ok (.aload_n 0, 1) := by decide +kernel
theorem dX7_inPockets_12 : decode cX7_inPockets 12 = .ok (.iload_n 2, 1) := by decide +kernel
theorem dX7_inPockets_13 : decode cX7_inPockets 13 = .ok (.iconst 1, 1) := by decide +kernel
theorem dX7_inPockets_14 : decode cX7_inPockets 14 = .ok (.invokevirtual 46, 3) := by decide +kernel
theorem dX7_inPockets_17 : decode cX7_inPockets 17 = .ok (.iadd, 1) := by decide +kernel
theorem dX7_inPockets_18 : decode cX7_inPockets 18 = .ok (.istore_n 1, 1) := by decide +kernel
theorem dX7_inPockets_19 : decode cX7_inPockets 19 = .ok (.iinc 2 1, 3) := by decide +kernel
theorem dX7_inPockets_22 : decode cX7_inPockets 22 = .ok (.goto (-18), 3) := by decide +kernel
theorem dX7_inPockets_25 : decode cX7_inPockets 25 = .ok (.iload_n 1, 1) := by decide +kernel
theorem dX7_inPockets_26 : decode cX7_inPockets 26 = .ok (.ireturn, 1) := by decide +kernel
set_option maxRecDepth 20000 in
theorem ggX7_fullOnes_X7_isFull : GoodIn wsX7_fullOnes wsX7_isFull := goodIn_r _ [5, 6, 7, 8, 9, 4, 10, 11, 12, 13, 14, 15, 16, 17, 18, 19, 20, 21, 22, 23, 24, 25, 26, 27] rfl (by decide +kernel)
set_option maxRecDepth 20000 in
theorem gX7_fullOnes_X7_isFull : GoodIn wsX7_fullOnes (wsV RX7 82 RX7 yX7_isFull wsX7_isFull) := goodIn_app (goodIn_of _ (by decide +kernel)) ggX7_fullOnes_X7_isFull
theorem dX7_fullOnes_0 : decode cX7_fullOnes 0 = .ok (.iconst 0, 1) := by decide +kernel
theorem dX7_fullOnes_1 : decode cX7_fullOnes 1 = .ok (.istore_n 1, 1) := by decide +kernel
theorem dX7_fullOnes_2 : decode cX7_fullOnes 2 = .ok (.iconst 0, 1) := by decide +kernel
theorem dX7_fullOnes_3 : decode cX7_fullOnes 3 = .ok (.istore_n 2, 1) := by decide +kernel
theorem dX7_fullOnes_4 : decode cX7_fullOnes 4 = .ok (.iload_n 2, 1) := by decide +kernel
theorem dX7_fullOnes_5 : decode cX7_fullOnes 5 = .ok (.bipush 7, 2) := by decide +kernel
theorem dX7_fullOnes_7 : decode cX7_fullOnes 7 = .ok (.if_icmp .ge 25, 3) := by decide +kernel
theorem dX7_fullOnes_10 : decode cX7_fullOnes 10 = .ok (.iload_n 1, 1) := by decide +kernel
theorem dX7_fullOnes_11 : decode cX7_fullOnes 11 = .ok (.aload_n 0, 1) := by decide +kernel
theorem dX7_fullOnes_12 : decode cX7_fullOnes 12 = .ok (.iload_n 2, 1) := by decide +kernel
theorem dX7_fullOnes_13 : decode cX7_fullOnes 13 = .ok (.invokevirtual 82, 3) := by decide +kernel
theorem dX7_fullOnes_16 : decode cX7_fullOnes 16 = .ok (.ifCond .eq 7, 3) := by decide +kernel
theorem dX7_fullOnes_19 : decode cX7_fullOnes 19 = .ok (.iconst 1, 1) := by decide +kernel
theorem dX7_fullOnes_20 : decode cX7_fullOnes 20 = .ok (.goto 4, 3) := by decide +kernel
theorem dX7_fullOnes_23 : decode cX7_fullOnes 23 = .ok (.iconst 0, 1) := by decide +kernel
theorem dX7_fullOnes_24 : decode cX7_fullOnes 24 = .ok (.iadd, 1) := by decide +kernel
theorem dX7_fullOnes_25 : decode cX7_fullOnes 25 = .ok (.istore_n 1, 1) := by decide +kernel
theorem dX7_fullOnes_26 : decode cX7_fullOnes 26 = .ok (.iinc 2 1, 3) := by decide +kernel
theorem dX7_fullOnes_29 : decode cX7_fullOnes 29 = .ok (.goto (-25), 3) := by decide +kernel
theorem dX7_fullOnes_32 : decode cX7_fullOnes 32 = .ok (.iload_n 1, 1) := by decide +kernel
theorem dX7_fullOnes_33 : decode cX7_fullOnes 33 = .ok (.ireturn, 1) := by decide +kernel
set_option maxRecDepth 20000 in
theorem ggX7_count_X7_inPockets : GoodIn wsX7_count wsX7_inPockets := goodIn_r _ [8, 9, 10, 11, 7, 12, 1, 66, 67, 68, 69, 70, 71, 72, 73, 74, 75, 76, 77, 78, 79, 80, 81, 82] rfl (by decide +kernel)
set_option maxRecDepth 20000 in
theorem gX7_count_X7_inPockets : GoodIn wsX7_count (wsV RX7 166 RX7 yX7_inPockets wsX7_inPockets) := goodIn_app (goodIn_of _ (by decide +kernel)) ggX7_count_X7_inPockets
set_option maxRecDepth 20000 in
theorem ggX7_count_X7_outOnes : GoodIn wsX7_count wsX7_outOnes := goodIn_r _ [16, 17, 18, 19, 7, 20, 1, 66, 67, 68, 69, 70, 71, 72, 73, 74, 75, 76, 77, 78, 79, 80, 81, 82] rfl (by decide +kernel)
set_option maxRecDepth 20000 in
theorem gX7_count_X7_outOnes : GoodIn wsX7_count (wsV RX7 98 RX7 yX7_outOnes wsX7_outOnes) := goodIn_app (goodIn_of _ (by decide +kernel)) ggX7_count_X7_outOnes
set_option maxRecDepth 20000 in
theorem ggX7_count_X7_straightOnes : GoodIn wsX7_count wsX7_straightOnes := goodIn_r _ [24, 17, 18, 19, 7, 20, 1, 66, 67, 68, 69, 70, 71, 72, 73, 74, 75, 76, 77, 78, 79, 80, 81, 82] rfl (by decide +kernel)
set_option maxRecDepth 20000 in
theorem gX7_count_X7_straightOnes : GoodIn wsX7_count (wsV RX7 169 RX7 yX7_straightOnes wsX7_straightOnes) := goodIn_app (goodIn_of _ (by decide +kernel)) ggX7_count_X7_straightOnes
set_option maxRecDepth 20000 in
theorem ggX7_count_X7_allBends : GoodIn wsX7_count wsX7_allBends := goodIn_r _ [28, 17, 18, 19, 7, 20, 1, 66, 67, 68, 69, 70, 71, 72, 73, 74, 75, 76, 77, 78, 79, 80, 81, 82] rfl (by decide +kernel)
set_option maxRecDepth 20000 in
theorem gX7_count_X7_allBends : GoodIn wsX7_count (wsV RX7 172 RX7 yX7_allBends wsX7_allBends) := goodIn_app (goodIn_of _ (by decide +kernel)) ggX7_count_X7_allBends
set_option maxRecDepth 20000 in
theorem ggX7_count_X7_allBells : GoodIn wsX7_count wsX7_allBells := goodIn_r _ [32, 17, 18, 19, 7, 20, 1, 66, 67, 68, 69, 70, 71, 72, 73, 74, 75, 76, 77, 78, 79, 80, 81, 82] rfl (by decide +kernel)
set_option maxRecDepth 20000 in
theorem gX7_count_X7_allBells : GoodIn wsX7_count (wsV RX7 102 RX7 yX7_allBells wsX7_allBells) := goodIn_app (goodIn_of _ (by decide +kernel)) ggX7_count_X7_allBells
set_option maxRecDepth 20000 in
theorem ggX7_count_X7_fullOnes : GoodIn wsX7_count wsX7_fullOnes := goodIn_r _ [36, 37, 38, 39, 7, 40, 1, 9, 10, 11, 12, 66, 67, 68, 69, 70, 71, 72, 73, 74, 75, 76, 77, 78, 79, 80, 81, 82] rfl (by decide +kernel)
set_option maxRecDepth 20000 in
theorem gX7_count_X7_fullOnes : GoodIn wsX7_count (wsV RX7 175 RX7 yX7_fullOnes wsX7_fullOnes) := goodIn_app (goodIn_of _ (by decide +kernel)) ggX7_count_X7_fullOnes
set_option maxRecDepth 20000 in
theorem ggX7_count_X7_reached : GoodIn wsX7_count wsX7_reached := goodIn_r _ [44, 45, 46, 47, 7, 48, 49, 50, 51, 52, 17, 18, 19, 20, 1, 53, 54, 55, 56, 57, 58, 59, 60, 61, 62, 66, 67, 68, 69, 70, 71, 72, 73, 74, 75, 76, 77, 78, 79, 80, 81, 82] rfl (by decide +kernel)
set_option maxRecDepth 20000 in
theorem gX7_count_X7_reached : GoodIn wsX7_count (wsV RX7 156 RX7 yX7_reached wsX7_reached) := goodIn_app (goodIn_of _ (by decide +kernel)) ggX7_count_X7_reached
set_option maxRecDepth 20000 in
theorem ggX7_count_X7_ones : GoodIn wsX7_count wsX7_ones := goodIn_r _ [65] rfl (by decide +kernel)
set_option maxRecDepth 20000 in
theorem gX7_count_X7_ones : GoodIn wsX7_count (va_wsS RX7 178 yX7_ones wsX7_ones) := goodIn_app (goodIn_of _ (by decide +kernel)) ggX7_count_X7_ones
theorem dX7_count_0 : decode cX7_count 0 = .ok (.iload_n 1, 1) := by decide +kernel
theorem dX7_count_1 : decode cX7_count 1 = .ok (.tableswitch 188 0 18 #[91, 98, 105, 110, 117, 125, 130, 135, 140, 145, 153, 153, 153, 153, 153, 165, 165, 178, 183], 91) := by decide +kernel
theorem dX7_count_92 : decode cX7_count 92 = .ok (.aload_n 0, 1) := by decide +kernel
theorem dX7_count_93 : decode cX7_count 93 = .ok (.getfield 7, 3) := by decide +kernel
theorem dX7_count_96 : decode cX7_count 96 = .ok (.iconst 0, 1) := by decide +kernel
theorem dX7_count_97 : decode cX7_count 97 = .ok (.iaload, 1) := by decide +kernel
theorem dX7_count_98 : decode cX7_count 98 = .ok (.ireturn, 1) := by decide +kernel
theorem dX7_count_99 : decode cX7_count 99 = .ok (.aload_n 0, 1) := by decide +kernel
theorem dX7_count_100 : decode cX7_count 100 = .ok (.getfield 7, 3) := by decide +kernel
theorem dX7_count_103 : decode cX7_count 103 = .ok (.iconst 1, 1) := by decide +kernel
theorem dX7_count_104 : decode cX7_count 104 = .ok (.iaload, 1) := by decide +kernel
theorem dX7_count_105 : decode cX7_count 105 = .ok (.ireturn, 1) := by decide +kernel
theorem dX7_count_106 : decode cX7_count 106 = .ok (.aload_n 0, 1) := by decide +kernel
theorem dX7_count_107 : decode cX7_count 107 = .ok (.invokevirtual 166, 3) := by decide +kernel
theorem dX7_count_110 : decode cX7_count 110 = .ok (.ireturn, 1) := by decide +kernel
theorem dX7_count_111 : decode cX7_count 111 = .ok (.aload_n 0, 1) := by decide +kernel
theorem dX7_count_112 : decode cX7_count 112 = .ok (.getfield 7, 3) := by decide +kernel
theorem dX7_count_115 : decode cX7_count 115 = .ok (.iconst 2, 1) := by decide +kernel
theorem dX7_count_116 : decode cX7_count 116 = .ok (.iaload, 1) := by decide +kernel
theorem dX7_count_117 : decode cX7_count 117 = .ok (.ireturn, 1) := by decide +kernel
theorem dX7_count_118 : decode cX7_count 118 = .ok (.bipush 35, 2) := by decide +kernel
theorem dX7_count_120 : decode cX7_count 120 = .ok (.aload_n 0, 1) := by decide +kernel
theorem dX7_count_121 : decode cX7_count 121 = .ok (.invokevirtual 98, 3) := by decide +kernel
theorem dX7_count_124 : decode cX7_count 124 = .ok (.isub, 1) := by decide +kernel
theorem dX7_count_125 : decode cX7_count 125 = .ok (.ireturn, 1) := by decide +kernel
theorem dX7_count_126 : decode cX7_count 126 = .ok (.aload_n 0, 1) := by decide +kernel
theorem dX7_count_127 : decode cX7_count 127 = .ok (.invokevirtual 169, 3) := by decide +kernel
theorem dX7_count_130 : decode cX7_count 130 = .ok (.ireturn, 1) := by decide +kernel
theorem dX7_count_131 : decode cX7_count 131 = .ok (.aload_n 0, 1) := by decide +kernel
theorem dX7_count_132 : decode cX7_count 132 = .ok (.invokevirtual 172, 3) := by decide +kernel
theorem dX7_count_135 : decode cX7_count 135 = .ok (.ireturn, 1) := by decide +kernel
theorem dX7_count_136 : decode cX7_count 136 = .ok (.aload_n 0, 1) := by decide +kernel
theorem dX7_count_137 : decode cX7_count 137 = .ok (.invokevirtual 102, 3) := by decide +kernel
theorem dX7_count_140 : decode cX7_count 140 = .ok (.ireturn, 1) := by decide +kernel
theorem dX7_count_141 : decode cX7_count 141 = .ok (.aload_n 0, 1) := by decide +kernel
theorem dX7_count_142 : decode cX7_count 142 = .ok (.invokevirtual 175, 3) := by decide +kernel
theorem dX7_count_145 : decode cX7_count 145 = .ok (.ireturn, 1) := by decide +kernel
theorem dX7_count_146 : decode cX7_count 146 = .ok (.aload_n 0, 1) := by decide +kernel
theorem dX7_count_147 : decode cX7_count 147 = .ok (.invokevirtual 156, 3) := by decide +kernel
theorem dX7_count_150 : decode cX7_count 150 = .ok (.invokestatic 178, 3) := by decide +kernel
theorem dX7_count_153 : decode cX7_count 153 = .ok (.ireturn, 1) := by decide +kernel
theorem dX7_count_154 : decode cX7_count 154 = .ok (.aload_n 0, 1) := by decide +kernel
theorem dX7_count_155 : decode cX7_count 155 = .ok (.getfield 7, 3) := by decide +kernel
theorem dX7_count_158 : decode cX7_count 158 = .ok (.iconst 3, 1) := by decide +kernel
theorem dX7_count_159 : decode cX7_count 159 = .ok (.iload_n 1, 1) := by decide +kernel
theorem dX7_count_160 : decode cX7_count 160 = .ok (.iadd, 1) := by decide +kernel
theorem dX7_count_161 : decode cX7_count 161 = .ok (.bipush 10, 2) := by decide +kernel
theorem dX7_count_163 : decode cX7_count 163 = .ok (.isub, 1) := by decide +kernel
theorem dX7_count_164 : decode cX7_count 164 = .ok (.iaload, 1) := by decide +kernel
theorem dX7_count_165 : decode cX7_count 165 = .ok (.ireturn, 1) := by decide +kernel
theorem dX7_count_166 : decode cX7_count 166 = .ok (.aload_n 0, 1) := by decide +kernel
theorem dX7_count_167 : decode cX7_count 167 = .ok (.getfield 7, 3) := by decide +kernel
theorem dX7_count_170 : decode cX7_count 170 = .ok (.bipush 8, 2) := by decide +kernel
theorem dX7_count_172 : decode cX7_count 172 = .ok (.iload_n 1, 1) := by decide +kernel
theorem dX7_count_173 : decode cX7_count 173 = .ok (.iadd, 1) := by decide +kernel
theorem dX7_count_174 : decode cX7_count 174 = .ok (.bipush 15, 2) := by decide +kernel
theorem dX7_count_176 : decode cX7_count 176 = .ok (.isub, 1) := by decide +kernel
theorem dX7_count_177 : decode cX7_count 177 = .ok (.iaload, 1) := by decide +kernel
theorem dX7_count_178 : decode cX7_count 178 = .ok (.ireturn, 1) := by decide +kernel
theorem dX7_count_179 : decode cX7_count 179 = .ok (.aload_n 0, 1) := by decide +kernel
theorem dX7_count_180 : decode cX7_count 180 = .ok (.getfield 108, 3) := by decide +kernel
theorem dX7_count_183 : decode cX7_count 183 = .ok (.ireturn, 1) := by decide +kernel
theorem dX7_count_184 : decode cX7_count 184 = .ok (.aload_n 0, 1) := by decide +kernel
theorem dX7_count_185 : decode cX7_count 185 = .ok (.getfield 34, 3) := by decide +kernel
theorem dX7_count_188 : decode cX7_count 188 = .ok (.ireturn, 1) := by decide +kernel
theorem dX7_count_189 : decode cX7_count 189 = .ok (.iconst (-1), 1) := by decide +kernel
theorem dX7_count_190 : decode cX7_count 190 = .ok (.ireturn, 1) := by decide +kernel
theorem dX7_mean_0 : decode cX7_mean 0 = .ok (.aload_n 0, 1) := by decide +kernel
theorem dX7_mean_1 : decode cX7_mean 1 = .ok (.getfield 7, 3) := by decide +kernel
theorem dX7_mean_4 : decode cX7_mean 4 = .ok (.iconst 3, 1) := by decide +kernel
theorem dX7_mean_5 : decode cX7_mean 5 = .ok (.iaload, 1) := by decide +kernel
theorem dX7_mean_6 : decode cX7_mean 6 = .ok (.ifCond .ne 7, 3) := by decide +kernel
theorem dX7_mean_9 : decode cX7_mean 9 = .ok (.dconst 0, 1) := by decide +kernel
theorem dX7_mean_10 : decode cX7_mean 10 = .ok (.goto 18, 3) := by decide +kernel
theorem dX7_mean_13 : decode cX7_mean 13 = .ok (.aload_n 0, 1) := by decide +kernel
theorem dX7_mean_14 : decode cX7_mean 14 = .ok (.getfield 7, 3) := by decide +kernel
theorem dX7_mean_17 : decode cX7_mean 17 = .ok (.iconst 0, 1) := by decide +kernel
theorem dX7_mean_18 : decode cX7_mean 18 = .ok (.iaload, 1) := by decide +kernel
theorem dX7_mean_19 : decode cX7_mean 19 = .ok (.i2d, 1) := by decide +kernel
theorem dX7_mean_20 : decode cX7_mean 20 = .ok (.aload_n 0, 1) := by decide +kernel
theorem dX7_mean_21 : decode cX7_mean 21 = .ok (.getfield 7, 3) := by decide +kernel
theorem dX7_mean_24 : decode cX7_mean 24 = .ok (.iconst 3, 1) := by decide +kernel
theorem dX7_mean_25 : decode cX7_mean 25 = .ok (.iaload, 1) := by decide +kernel
theorem dX7_mean_26 : decode cX7_mean 26 = .ok (.i2d, 1) := by decide +kernel
theorem dX7_mean_27 : decode cX7_mean 27 = .ok (.ddiv, 1) := by decide +kernel
theorem dX7_mean_28 : decode cX7_mean 28 = .ok (.dreturn, 1) := by decide +kernel
set_option maxRecDepth 20000 in
theorem ggX7_ends_X7_isPlace : GoodIn wsX7_ends wsX7_isPlace := goodIn_r _ [6, 7, 8, 5, 9] rfl (by decide +kernel)
set_option maxRecDepth 20000 in
theorem gX7_ends_X7_isPlace : GoodIn wsX7_ends (va_wsS RX7 86 yX7_isPlace wsX7_isPlace) := goodIn_app (goodIn_of _ (by decide +kernel)) ggX7_ends_X7_isPlace
set_option maxRecDepth 20000 in
theorem ggX7_ends_X7_copies : GoodIn wsX7_ends wsX7_copies := goodIn_r _ [12] rfl (by decide +kernel)
set_option maxRecDepth 20000 in
theorem gX7_ends_X7_copies : GoodIn wsX7_ends (va_wsS RX7 38 yX7_copies wsX7_copies) := goodIn_app (goodIn_of _ (by decide +kernel)) ggX7_ends_X7_copies
set_option maxRecDepth 20000 in
theorem ggX7_ends_X7_fallsAll : GoodIn wsX7_ends wsX7_fallsAll := goodIn_r _ [16, 17, 18, 19, 20, 5, 21, 22, 23, 24, 25, 1, 26, 27, 28, 29, 30, 31, 32, 33, 34, 35, 36, 37, 7, 8, 9, 38, 39, 40, 41, 42, 43, 44, 45, 46, 47, 48, 49, 50, 51, 52, 53, 54, 55, 56, 57] rfl (by decide +kernel)
set_option maxRecDepth 20000 in
theorem gX7_ends_X7_fallsAll : GoodIn wsX7_ends (wsV RX7 75 RX7 yX7_fallsAll wsX7_fallsAll) := goodIn_app (goodIn_of _ (by decide +kernel)) ggX7_ends_X7_fallsAll
theorem dX7_ends_0 : decode cX7_ends 0 = .ok (.iload_n 1, 1) := by decide +kernel
theorem dX7_ends_1 : decode cX7_ends 1 = .ok (.invokestatic 86, 3) := by decide +kernel
theorem dX7_ends_4 : decode cX7_ends 4 = .ok (.ifCond .ne 5, 3) := by decide +kernel
theorem dX7_ends_7 : decode cX7_ends 7 = .ok (.iconst (-1), 1) := by decide +kernel
theorem dX7_ends_8 : decode cX7_ends 8 = .ok (.ireturn, 1) := by decide +kernel
theorem dX7_ends_9 : decode cX7_ends 9 = .ok (.aload_n 0, 1) := by decide +kernel
theorem dX7_ends_10 : decode cX7_ends 10 = .ok (.getfield 7, 3) := by decide +kernel
theorem dX7_ends_13 : decode cX7_ends 13 = .ok (.iconst 0, 1) := by decide +kernel
theorem dX7_ends_14 : decode cX7_ends 14 = .ok (.aload_n 0, 1) := by decide +kernel
theorem dX7_ends_15 : decode cX7_ends 15 = .ok (.getfield 13, 3) := by decide +kernel
theorem dX7_ends_18 : decode cX7_ends 18 = .ok (.iconst 0, 1) := by decide +kernel
theorem dX7_ends_19 : decode cX7_ends 19 = .ok (.invokestatic 38, 3) := by decide +kernel
theorem dX7_ends_22 : decode cX7_ends 22 = .ok (.aload_n 0, 1) := by decide +kernel
theorem dX7_ends_23 : decode cX7_ends 23 = .ok (.iload_n 1, 1) := by decide +kernel
theorem dX7_ends_24 : decode cX7_ends 24 = .ok (.iconst 0, 1) := by decide +kernel
theorem dX7_ends_25 : decode cX7_ends 25 = .ok (.invokevirtual 75, 3) := by decide +kernel
theorem dX7_ends_28 : decode cX7_ends 28 = .ok (.istore_n 2, 1) := by decide +kernel
theorem dX7_ends_29 : decode cX7_ends 29 = .ok (.aload_n 0, 1) := by decide +kernel
theorem dX7_ends_30 : decode cX7_ends 30 = .ok (.getfield 13, 3) := by decide +kernel
theorem dX7_ends_33 : decode cX7_ends 33 = .ok (.iconst 0, 1) := by decide +kernel
theorem dX7_ends_34 : decode cX7_ends 34 = .ok (.aload_n 0, 1) := by decide +kernel
theorem dX7_ends_35 : decode cX7_ends 35 = .ok (.getfield 7, 3) := by decide +kernel
theorem dX7_ends_38 : decode cX7_ends 38 = .ok (.iconst 0, 1) := by decide +kernel
theorem dX7_ends_39 : decode cX7_ends 39 = .ok (.invokestatic 38, 3) := by decide +kernel
theorem dX7_ends_42 : decode cX7_ends 42 = .ok (.iload_n 2, 1) := by decide +kernel
theorem dX7_ends_43 : decode cX7_ends 43 = .ok (.ireturn, 1) := by decide +kernel
set_option maxRecDepth 20000 in
theorem ggX7_tries_X7_copies : GoodIn wsX7_tries wsX7_copies := goodIn_r _ [6] rfl (by decide +kernel)
set_option maxRecDepth 20000 in
theorem gX7_tries_X7_copies : GoodIn wsX7_tries (va_wsS RX7 38 yX7_copies wsX7_copies) := goodIn_app (goodIn_of _ (by decide +kernel)) ggX7_tries_X7_copies
set_option maxRecDepth 20000 in
theorem ggX7_tries_X7_goShoot : GoodIn wsX7_tries wsX7_goShoot := goodIn_r _ [10, 1, 11, 12, 13, 14, 5, 15, 16, 17, 18, 19, 20, 21, 22, 23, 24, 25, 26, 27, 28, 29, 30, 31, 32, 33, 34, 35, 36, 37, 38, 39, 40, 41, 42, 43, 44, 45, 46, 47, 48, 49, 50, 51, 52, 53, 66, 67, 68, 69, 70, 71, 72, 73, 74, 75, 76, 77, 78, 79, 80, 81, 82] rfl (by decide +kernel)
set_option maxRecDepth 20000 in
theorem gX7_tries_X7_goShoot : GoodIn wsX7_tries (wsV RX7 92 RX7 yX7_goShoot wsX7_goShoot) := goodIn_app (goodIn_of _ (by decide +kernel)) ggX7_tries_X7_goShoot
set_option maxRecDepth 20000 in
theorem ggX7_tries_X7_reached : GoodIn wsX7_tries wsX7_reached := goodIn_r _ [57, 58, 59, 60, 5, 61, 62, 63, 64, 65, 20, 21, 22, 23, 1, 28, 29, 30, 31, 39, 40, 41, 36, 37, 38, 66, 67, 68, 69, 70, 71, 72, 73, 74, 75, 76, 77, 78, 79, 80, 81, 82] rfl (by decide +kernel)
set_option maxRecDepth 20000 in
theorem gX7_tries_X7_reached : GoodIn wsX7_tries (wsV RX7 156 RX7 yX7_reached wsX7_reached) := goodIn_app (goodIn_of _ (by decide +kernel)) ggX7_tries_X7_reached
theorem dX7_tries_0 : decode cX7_tries 0 = .ok (.aload_n 0, 1) := by decide +kernel
theorem dX7_tries_1 : decode cX7_tries 1 = .ok (.getfield 7, 3) := by decide +kernel
theorem dX7_tries_4 : decode cX7_tries 4 = .ok (.iconst 0, 1) := by decide +kernel
theorem dX7_tries_5 : decode cX7_tries 5 = .ok (.aload_n 0, 1) := by decide +kernel
theorem dX7_tries_6 : decode cX7_tries 6 = .ok (.getfield 13, 3) := by decide +kernel
theorem dX7_tries_9 : decode cX7_tries 9 = .ok (.iconst 0, 1) := by decide +kernel
theorem dX7_tries_10 : decode cX7_tries 10 = .ok (.invokestatic 38, 3) := by decide +kernel
theorem dX7_tries_13 : decode cX7_tries 13 = .ok (.iconst 0, 1) := by decide +kernel
theorem dX7_tries_14 : decode cX7_tries 14 = .ok (.istore 5, 2) := by decide +kernel
theorem dX7_tries_16 : decode cX7_tries 16 = .ok (.iload 5, 2) := by decide +kernel
theorem dX7_tries_18 : decode cX7_tries 18 = .ok (.iload_n 3, 1) := by decide +kernel
theorem dX7_tries_19 : decode cX7_tries 19 = .ok (.if_icmp .ge 26, 3) := by decide +kernel
theorem dX7_tries_22 : decode cX7_tries 22 = .ok (.aload_n 0, 1) := by decide +kernel
theorem dX7_tries_23 : decode cX7_tries 23 = .ok (.getfield 7, 3) := by decide +kernel
theorem dX7_tries_26 : decode cX7_tries 26 = .ok (.iconst 1, 1) := by decide +kernel
theorem dX7_tries_27 : decode cX7_tries 27 = .ok (.iaload, 1) := by decide +kernel
theorem dX7_tries_28 : decode cX7_tries 28 = .ok (.ifCond .le 17, 3) := by decide +kernel
theorem dX7_tries_31 : decode cX7_tries 31 = .ok (.aload_n 0, 1) := by decide +kernel
theorem dX7_tries_32 : decode cX7_tries 32 = .ok (.iload_n 1, 1) := by decide +kernel
theorem dX7_tries_33 : decode cX7_tries 33 = .ok (.iload_n 2, 1) := by decide +kernel
theorem dX7_tries_34 : decode cX7_tries 34 = .ok (.invokevirtual 92, 3) := by decide +kernel
theorem dX7_tries_37 : decode cX7_tries 37 = .ok (.istore 6, 2) := by decide +kernel
theorem dX7_tries_39 : decode cX7_tries 39 = .ok (.iinc 5 1, 3) := by decide +kernel
theorem dX7_tries_42 : decode cX7_tries 42 = .ok (.goto (-26), 3) := by decide +kernel
theorem dX7_tries_45 : decode cX7_tries 45 = .ok (.iload 4, 2) := by decide +kernel
theorem dX7_tries_47 : decode cX7_tries 47 = .ok (.ifCond .ne 19, 3) := by decide +kernel
theorem dX7_tries_50 : decode cX7_tries 50 = .ok (.aload_n 0, 1) := by decide +kernel
theorem dX7_tries_51 : decode cX7_tries 51 = .ok (.getfield 7, 3) := by decide +kernel
theorem dX7_tries_54 : decode cX7_tries 54 = .ok (.iconst 0, 1) := by decide +kernel
theorem dX7_tries_55 : decode cX7_tries 55 = .ok (.iaload, 1) := by decide +kernel
theorem dX7_tries_56 : decode cX7_tries 56 = .ok (.aload_n 0, 1) := by decide +kernel
theorem dX7_tries_57 : decode cX7_tries 57 = .ok (.getfield 13, 3) := by decide +kernel
theorem dX7_tries_60 : decode cX7_tries 60 = .ok (.iconst 0, 1) := by decide +kernel
theorem dX7_tries_61 : decode cX7_tries 61 = .ok (.iaload, 1) := by decide +kernel
theorem dX7_tries_62 : decode cX7_tries 62 = .ok (.isub, 1) := by decide +kernel
theorem dX7_tries_63 : decode cX7_tries 63 = .ok (.goto 29, 3) := by decide +kernel
theorem dX7_tries_66 : decode cX7_tries 66 = .ok (.iload 4, 2) := by decide +kernel
theorem dX7_tries_68 : decode cX7_tries 68 = .ok (.iconst 1, 1) := by decide +kernel
theorem dX7_tries_69 : decode cX7_tries 69 = .ok (.if_icmp .ne 19, 3) := by decide +kernel
theorem dX7_tries_72 : decode cX7_tries 72 = .ok (.aload_n 0, 1) := by decide +kernel
theorem dX7_tries_73 : decode cX7_tries 73 = .ok (.getfield 7, 3) := by decide +kernel
theorem dX7_tries_76 : decode cX7_tries 76 = .ok (.iconst 2, 1) := by decide +kernel
theorem dX7_tries_77 : decode cX7_tries 77 = .ok (.iaload, 1) := by decide +kernel
theorem dX7_tries_78 : decode cX7_tries 78 = .ok (.aload_n 0, 1) := by decide +kernel
theorem dX7_tries_79 : decode cX7_tries 79 = .ok (.getfield 13, 3) := by decide +kernel
theorem dX7_tries_82 : decode cX7_tries 82 = .ok (.iconst 2, 1) := by decide +kernel
theorem dX7_tries_83 : decode cX7_tries 83 = .ok (.iaload, 1) := by decide +kernel
theorem dX7_tries_84 : decode cX7_tries 84 = .ok (.isub, 1) := by decide +kernel
theorem dX7_tries_85 : decode cX7_tries 85 = .ok (.goto 7, 3) := by decide +kernel
theorem dX7_tries_88 : decode cX7_tries 88 = .ok (.aload_n 0, 1) := by decide +kernel
theorem dX7_tries_89 : decode cX7_tries 89 = .ok (.invokevirtual 156, 3) := by decide +kernel
theorem dX7_tries_92 : decode cX7_tries 92 = .ok (.istore 5, 2) := by decide +kernel
theorem dX7_tries_94 : decode cX7_tries 94 = .ok (.aload_n 0, 1) := by decide +kernel
theorem dX7_tries_95 : decode cX7_tries 95 = .ok (.getfield 13, 3) := by decide +kernel
theorem dX7_tries_98 : decode cX7_tries 98 = .ok (.iconst 0, 1) := by decide +kernel
theorem dX7_tries_99 : decode cX7_tries 99 = .ok (.aload_n 0, 1) := by decide +kernel
theorem dX7_tries_100 : decode cX7_tries 100 = .ok (.getfield 7, 3) := by decide +kernel
theorem dX7_tries_103 : decode cX7_tries 103 = .ok (.iconst 0, 1) := by decide +kernel
theorem dX7_tries_104 : decode cX7_tries 104 = .ok (.invokestatic 38, 3) := by decide +kernel
theorem dX7_tries_107 : decode cX7_tries 107 = .ok (.iload 5, 2) := by decide +kernel
theorem dX7_tries_109 : decode cX7_tries 109 = .ok (.ireturn, 1) := by decide +kernel
set_option maxRecDepth 20000 in
theorem ggX7_ifShot_X7_isPlace : GoodIn wsX7_ifShot wsX7_isPlace := goodIn_r _ [4, 5, 6, 3, 7] rfl (by decide +kernel)
set_option maxRecDepth 20000 in
theorem gX7_ifShot_X7_isPlace : GoodIn wsX7_ifShot (va_wsS RX7 86 yX7_isPlace wsX7_isPlace) := goodIn_app (goodIn_of _ (by decide +kernel)) ggX7_ifShot_X7_isPlace
set_option maxRecDepth 20000 in
theorem ggX7_ifShot_X7_in : GoodIn wsX7_ifShot wsX7_in := goodIn_r _ [7] rfl (by decide +kernel)
set_option maxRecDepth 20000 in
theorem gX7_ifShot_X7_in : GoodIn wsX7_ifShot (va_wsS RX7 42 yX7_in wsX7_in) := goodIn_app (goodIn_of _ (by decide +kernel)) ggX7_ifShot_X7_in
set_option maxRecDepth 20000 in
theorem ggX7_ifShot_X7_tries : GoodIn wsX7_ifShot wsX7_tries := goodIn_r _ [11, 12, 13, 14, 15, 3, 16, 17, 18, 19, 20, 21, 22, 23, 24, 25, 26, 27, 28, 29, 30, 31, 32, 33, 34, 35, 36, 37, 38, 39, 40, 41, 42, 43, 44, 45, 5, 6, 7, 46, 47, 48, 49, 50, 51, 52, 53, 54, 55, 56, 57, 58, 59, 60, 61, 62, 63, 64, 65, 66, 67, 68, 69, 70, 71, 72, 73, 74, 75, 76, 77, 78, 79, 80, 81, 82, 83, 84, 85, 86, 87, 88, 89] rfl (by decide +kernel)
set_option maxRecDepth 20000 in
theorem gX7_ifShot_X7_tries : GoodIn wsX7_ifShot (wsV RX7 181 RX7 yX7_tries wsX7_tries) := goodIn_app (goodIn_of _ (by decide +kernel)) ggX7_ifShot_X7_tries
theorem dX7_ifShot_0 : decode cX7_ifShot 0 = .ok (.iload_n 1, 1) := by decide +kernel
theorem dX7_ifShot_1 : decode cX7_ifShot 1 = .ok (.invokestatic 86, 3) := by decide +kernel
theorem dX7_ifShot_4 : decode cX7_ifShot 4 = .ok (.ifCond .eq 35, 3) := by decide +kernel
theorem dX7_ifShot_7 : decode cX7_ifShot 7 = .ok (.iload_n 3, 1) := by decide +kernel
theorem dX7_ifShot_8 : decode cX7_ifShot 8 = .ok (.iconst 1, 1) := by decide +kernel
theorem dX7_ifShot_9 : decode cX7_ifShot 9 = .ok (.bipush 20, 2) := by decide +kernel
theorem dX7_ifShot_11 : decode cX7_ifShot 11 = .ok (.invokestatic 42, 3) := by decide +kernel
theorem dX7_ifShot_14 : decode cX7_ifShot 14 = .ok (.ifCond .eq 25, 3) := by decide +kernel
theorem dX7_ifShot_17 : decode cX7_ifShot 17 = .ok (.iload 4, 2) := by decide +kernel
theorem dX7_ifShot_19 : decode cX7_ifShot 19 = .ok (.iconst 0, 1) := by decide +kernel
theorem dX7_ifShot_20 : decode cX7_ifShot 20 = .ok (.iconst 2, 1) := by decide +kernel
theorem dX7_ifShot_21 : decode cX7_ifShot 21 = .ok (.invokestatic 42, 3) := by decide +kernel
theorem dX7_ifShot_24 : decode cX7_ifShot 24 = .ok (.ifCond .eq 15, 3) := by decide +kernel
theorem dX7_ifShot_27 : decode cX7_ifShot 27 = .ok (.aload_n 0, 1) := by decide +kernel
theorem dX7_ifShot_28 : decode cX7_ifShot 28 = .ok (.iload_n 1, 1) := by decide +kernel
theorem dX7_ifShot_29 : decode cX7_ifShot 29 = .ok (.iload_n 2, 1) := by decide +kernel
theorem dX7_ifShot_30 : decode cX7_ifShot 30 = .ok (.iload_n 3, 1) := by decide +kernel
theorem dX7_ifShot_31 : decode cX7_ifShot 31 = .ok (.iload 4, 2) := by decide +kernel
theorem dX7_ifShot_33 : decode cX7_ifShot 33 = .ok (.invokevirtual 181, 3) := by decide +kernel
theorem dX7_ifShot_36 : decode cX7_ifShot 36 = .ok (.goto 4, 3) := by decide +kernel
theorem dX7_ifShot_39 : decode cX7_ifShot 39 = .ok (.iconst (-1), 1) := by decide +kernel
theorem dX7_ifShot_40 : decode cX7_ifShot 40 = .ok (.ireturn, 1) := by decide +kernel
set_option maxRecDepth 20000 in
theorem ggX7_best_X7_tries : GoodIn wsX7_best wsX7_tries := goodIn_r _ [6, 1, 7, 8, 9, 5, 10, 11, 12, 13, 14, 15, 16, 17, 18, 19, 20, 21, 22, 23, 24, 25, 26, 27, 28, 29, 30, 31, 32, 33, 34, 35, 36, 37, 38, 39, 40, 41, 42, 43, 44, 45, 46, 47, 48, 49, 50, 51, 52, 53, 54, 55, 56, 57, 58, 59, 60, 61, 62, 63, 64, 65, 66, 67, 68, 69, 73, 74, 75, 76, 77, 78, 79, 80, 81, 82, 83, 84, 85, 86, 87, 88, 89] rfl (by decide +kernel)
set_option maxRecDepth 20000 in
theorem gX7_best_X7_tries : GoodIn wsX7_best (wsV RX7 181 RX7 yX7_tries wsX7_tries) := goodIn_app (goodIn_of _ (by decide +kernel)) ggX7_best_X7_tries
set_option maxRecDepth 20000 in
theorem ggX7_best_X7_ones : GoodIn wsX7_best wsX7_ones := goodIn_r _ [72] rfl (by decide +kernel)
set_option maxRecDepth 20000 in
theorem gX7_best_X7_ones : GoodIn wsX7_best (va_wsS RX7 178 yX7_ones wsX7_ones) := goodIn_app (goodIn_of _ (by decide +kernel)) ggX7_best_X7_ones
theorem dX7_best_0 : decode cX7_best 0 = .ok (.aload_n 0, 1) := by decide +kernel
theorem dX7_best_1 : decode cX7_best 1 = .ok (.getfield 7, 3) := by decide +kernel
theorem dX7_best_4 : decode cX7_best 4 = .ok (.iconst 1, 1) := by decide +kernel
theorem dX7_best_5 : decode cX7_best 5 = .ok (.iaload, 1) := by decide +kernel
theorem dX7_best_6 : decode cX7_best 6 = .ok (.ifCond .ne 6, 3) := by decide +kernel
theorem dX7_best_9 : decode cX7_best 9 = .ok (.bipush (-2), 2) := by decide +kernel
theorem dX7_best_11 : decode cX7_best 11 = .ok (.ireturn, 1) := by decide +kernel
theorem dX7_best_12 : decode cX7_best 12 = .ok (.iconst 0, 1) := by decide +kernel
theorem dX7_best_13 : decode cX7_best 13 = .ok (.istore_n 2, 1) := by decide +kernel
theorem dX7_best_14 : decode cX7_best 14 = .ok (.iconst (-1), 1) := by decide +kernel
theorem dX7_best_15 : decode cX7_best 15 = .ok (.istore_n 3, 1) := by decide +kernel
theorem dX7_best_16 : decode cX7_best 16 = .ok (.iconst 0, 1) := by decide +kernel
theorem dX7_best_17 : decode cX7_best 17 = .ok (.istore 4, 2) := by decide +kernel
theorem dX7_best_19 : decode cX7_best 19 = .ok (.iload 4, 2) := by decide +kernel
theorem dX7_best_21 : decode cX7_best 21 = .ok (.bipush 7, 2) := by decide +kernel
theorem dX7_best_23 : decode cX7_best 23 = .ok (.if_icmp .ge 62, 3) := by decide +kernel
theorem dX7_best_26 : decode cX7_best 26 = .ok (.bipush 10, 2) := by decide +kernel
theorem dX7_best_28 : decode cX7_best 28 = .ok (.aload_n 0, 1) := by decide +kernel
theorem dX7_best_29 : decode cX7_best 29 = .ok (.iload 4, 2) := by decide +kernel
theorem dX7_best_31 : decode cX7_best 31 = .ok (.iload_n 1, 1) := by decide +kernel
theorem dX7_best_32 : decode cX7_best 32 = .ok (.iconst 1, 1) := by decide +kernel
theorem dX7_best_33 : decode cX7_best 33 = .ok (.iconst 0, 1) := by decide +kernel
theorem dX7_best_34 : decode cX7_best 34 = .ok (.invokevirtual 181, 3) := by decide +kernel
theorem dX7_best_37 : decode cX7_best 37 = .ok (.imul, 1) := by decide +kernel
theorem dX7_best_38 : decode cX7_best 38 = .ok (.aload_n 0, 1) := by decide +kernel
theorem dX7_best_39 : decode cX7_best 39 = .ok (.iload 4, 2) := by decide +kernel
theorem dX7_best_41 : decode cX7_best 41 = .ok (.iload_n 1, 1) := by decide +kernel
theorem dX7_best_42 : decode cX7_best 42 = .ok (.iconst 1, 1) := by decide +kernel
theorem dX7_best_43 : decode cX7_best 43 = .ok (.iconst 2, 1) := by decide +kernel
theorem dX7_best_44 : decode cX7_best 44 = .ok (.invokevirtual 181, 3) := by decide +kernel
theorem dX7_best_47 : decode cX7_best 47 = .ok (.invokestatic 178, 3) := by decide +kernel
theorem dX7_best_50 : decode cX7_best 50 = .ok (.iadd, 1) := by decide +kernel
theorem dX7_best_51 : decode cX7_best 51 = .ok (.istore 5, 2) := by decide +kernel
theorem dX7_best_53 : decode cX7_best 53 = .ok (.iload 5, 2) := by decide +kernel
theorem dX7_best_55 : decode cX7_best 55 = .ok (.iload_n 3, 1) := by decide +kernel
theorem dX7_best_56 : decode cX7_best 56 = .ok (.if_icmp .le 8, 3) := by decide +kernel
theorem dX7_best_59 : decode cX7_best 59 = .ok (.iload 4, 2) := by decide +kernel
theorem dX7_best_61 : decode cX7_best 61 = .ok (.goto 4, 3) := by decide +kernel
theorem dX7_best_64 : decode cX7_best 64 = .ok (.iload_n 2, 1) := by decide +kernel
theorem dX7_best_65 : decode cX7_best 65 = .ok (.istore_n 2, 1) := by decide +kernel
theorem dX7_best_66 : decode cX7_best 66 = .ok (.iload 5, 2) := by decide +kernel
theorem dX7_best_68 : decode cX7_best 68 = .ok (.iload_n 3, 1) := by decide +kernel
theorem dX7_best_69 : decode cX7_best 69 = .ok (.if_icmp .le 8, 3) := by decide +kernel
theorem dX7_best_72 : decode cX7_best 72 = .ok (.iload 5, 2) := by decide +kernel
theorem dX7_best_74 : decode cX7_best 74 = .ok (.goto 4, 3) := by decide +kernel
theorem dX7_best_77 : decode cX7_best 77 = .ok (.iload_n 3, 1) := by decide +kernel
theorem dX7_best_78 : decode cX7_best 78 = .ok (.istore_n 3, 1) := by decide +kernel
theorem dX7_best_79 : decode cX7_best 79 = .ok (.iinc 4 1, 3) := by decide +kernel
theorem dX7_best_82 : decode cX7_best 82 = .ok (.goto (-63), 3) := by decide +kernel
theorem dX7_best_85 : decode cX7_best 85 = .ok (.iload_n 2, 1) := by decide +kernel
theorem dX7_best_86 : decode cX7_best 86 = .ok (.ireturn, 1) := by decide +kernel
set_option maxRecDepth 20000 in
theorem ggX7_undo_X7_copies : GoodIn wsX7_undo wsX7_copies := goodIn_r _ [7] rfl (by decide +kernel)
set_option maxRecDepth 20000 in
theorem gX7_undo_X7_copies : GoodIn wsX7_undo (va_wsS RX7 38 yX7_copies wsX7_copies) := goodIn_app (goodIn_of _ (by decide +kernel)) ggX7_undo_X7_copies
theorem dX7_undo_0 : decode cX7_undo 0 = .ok (.aload_n 0, 1) := by decide +kernel
theorem dX7_undo_1 : decode cX7_undo 1 = .ok (.getfield 34, 3) := by decide +kernel
theorem dX7_undo_4 : decode cX7_undo 4 = .ok (.ifCond .ne 6, 3) := by decide +kernel
theorem dX7_undo_7 : decode cX7_undo 7 = .ok (.bipush (-2), 2) := by decide +kernel
theorem dX7_undo_9 : decode cX7_undo 9 = .ok (.ireturn, 1) := by decide +kernel
theorem dX7_undo_10 : decode cX7_undo 10 = .ok (.aload_n 0, 1) := by decide +kernel
theorem dX7_undo_11 : decode cX7_undo 11 = .ok (.dup, 1) := by decide +kernel
theorem dX7_undo_12 : decode cX7_undo 12 = .ok (.getfield 34, 3) := by decide +kernel
theorem dX7_undo_15 : decode cX7_undo 15 = .ok (.iconst 1, 1) := by decide +kernel
theorem dX7_undo_16 : decode cX7_undo 16 = .ok (.isub, 1) := by decide +kernel
theorem dX7_undo_17 : decode cX7_undo 17 = .ok (.putfield 34, 3) := by decide +kernel
theorem dX7_undo_20 : decode cX7_undo 20 = .ok (.aload_n 0, 1) := by decide +kernel
theorem dX7_undo_21 : decode cX7_undo 21 = .ok (.getfield 16, 3) := by decide +kernel
theorem dX7_undo_24 : decode cX7_undo 24 = .ok (.sipush 206, 3) := by decide +kernel
theorem dX7_undo_27 : decode cX7_undo 27 = .ok (.aload_n 0, 1) := by decide +kernel
theorem dX7_undo_28 : decode cX7_undo 28 = .ok (.getfield 34, 3) := by decide +kernel
theorem dX7_undo_31 : decode cX7_undo 31 = .ok (.imul, 1) := by decide +kernel
theorem dX7_undo_32 : decode cX7_undo 32 = .ok (.aload_n 0, 1) := by decide +kernel
theorem dX7_undo_33 : decode cX7_undo 33 = .ok (.getfield 7, 3) := by decide +kernel
theorem dX7_undo_36 : decode cX7_undo 36 = .ok (.iconst 0, 1) := by decide +kernel
theorem dX7_undo_37 : decode cX7_undo 37 = .ok (.invokestatic 38, 3) := by decide +kernel
theorem dX7_undo_40 : decode cX7_undo 40 = .ok (.aload_n 0, 1) := by decide +kernel
theorem dX7_undo_41 : decode cX7_undo 41 = .ok (.getfield 34, 3) := by decide +kernel
theorem dX7_undo_44 : decode cX7_undo 44 = .ok (.ireturn, 1) := by decide +kernel
set_option maxRecDepth 20000 in
theorem ggX7_save_X7_copies : GoodIn wsX7_save wsX7_copies := goodIn_r _ [7] rfl (by decide +kernel)
set_option maxRecDepth 20000 in
theorem gX7_save_X7_copies : GoodIn wsX7_save (va_wsS RX7 38 yX7_copies wsX7_copies) := goodIn_app (goodIn_of _ (by decide +kernel)) ggX7_save_X7_copies
theorem dX7_save_0 : decode cX7_save 0 = .ok (.aload_n 0, 1) := by decide +kernel
theorem dX7_save_1 : decode cX7_save 1 = .ok (.getfield 7, 3) := by decide +kernel
theorem dX7_save_4 : decode cX7_save 4 = .ok (.iconst 0, 1) := by decide +kernel
theorem dX7_save_5 : decode cX7_save 5 = .ok (.aload_n 0, 1) := by decide +kernel
theorem dX7_save_6 : decode cX7_save 6 = .ok (.getfield 19, 3) := by decide +kernel
theorem dX7_save_9 : decode cX7_save 9 = .ok (.iconst 0, 1) := by decide +kernel
theorem dX7_save_10 : decode cX7_save 10 = .ok (.invokestatic 38, 3) := by decide +kernel
theorem dX7_save_13 : decode cX7_save 13 = .ok (.aload_n 0, 1) := by decide +kernel
theorem dX7_save_14 : decode cX7_save 14 = .ok (.iconst 1, 1) := by decide +kernel
theorem dX7_save_15 : decode cX7_save 15 = .ok (.putfield 185, 3) := by decide +kernel
theorem dX7_save_18 : decode cX7_save 18 = .ok (.aload_n 0, 1) := by decide +kernel
theorem dX7_save_19 : decode cX7_save 19 = .ok (.getfield 7, 3) := by decide +kernel
theorem dX7_save_22 : decode cX7_save 22 = .ok (.iconst 0, 1) := by decide +kernel
theorem dX7_save_23 : decode cX7_save 23 = .ok (.iaload, 1) := by decide +kernel
theorem dX7_save_24 : decode cX7_save 24 = .ok (.ireturn, 1) := by decide +kernel
set_option maxRecDepth 20000 in
theorem ggX7_restore_X7_records : GoodIn wsX7_restore wsX7_records := goodIn_r _ [8, 9, 10, 3, 11, 12, 7, 13, 14, 15, 16, 17, 18, 19, 20, 21, 22, 23, 24, 25, 26, 27, 28, 29, 30] rfl (by decide +kernel)
set_option maxRecDepth 20000 in
theorem gX7_restore_X7_records : GoodIn wsX7_restore (wsV RX7 89 RX7 yX7_records wsX7_records) := goodIn_app (goodIn_of _ (by decide +kernel)) ggX7_restore_X7_records
set_option maxRecDepth 20000 in
theorem ggX7_restore_X7_copies : GoodIn wsX7_restore wsX7_copies := goodIn_r _ [13] rfl (by decide +kernel)
set_option maxRecDepth 20000 in
theorem gX7_restore_X7_copies : GoodIn wsX7_restore (va_wsS RX7 38 yX7_copies wsX7_copies) := goodIn_app (goodIn_of _ (by decide +kernel)) ggX7_restore_X7_copies
theorem dX7_restore_0 : decode cX7_restore 0 = .ok (.aload_n 0, 1) := by decide +kernel
theorem dX7_restore_1 : decode cX7_restore 1 = .ok (.getfield 185, 3) := by decide +kernel
theorem dX7_restore_4 : decode cX7_restore 4 = .ok (.ifCond .ne 6, 3) := by decide +kernel
theorem dX7_restore_7 : decode cX7_restore 7 = .ok (.bipush (-2), 2) := by decide +kernel
theorem dX7_restore_9 : decode cX7_restore 9 = .ok (.ireturn, 1) := by decide +kernel
theorem dX7_restore_10 : decode cX7_restore 10 = .ok (.aload_n 0, 1) := by decide +kernel
theorem dX7_restore_11 : decode cX7_restore 11 = .ok (.invokevirtual 89, 3) := by decide +kernel
theorem dX7_restore_14 : decode cX7_restore 14 = .ok (.aload_n 0, 1) := by decide +kernel
theorem dX7_restore_15 : decode cX7_restore 15 = .ok (.getfield 19, 3) := by decide +kernel
theorem dX7_restore_18 : decode cX7_restore 18 = .ok (.iconst 0, 1) := by decide +kernel
theorem dX7_restore_19 : decode cX7_restore 19 = .ok (.aload_n 0, 1) := by decide +kernel
theorem dX7_restore_20 : decode cX7_restore 20 = .ok (.getfield 7, 3) := by decide +kernel
theorem dX7_restore_23 : decode cX7_restore 23 = .ok (.iconst 0, 1) := by decide +kernel
theorem dX7_restore_24 : decode cX7_restore 24 = .ok (.invokestatic 38, 3) := by decide +kernel
theorem dX7_restore_27 : decode cX7_restore 27 = .ok (.aload_n 0, 1) := by decide +kernel
theorem dX7_restore_28 : decode cX7_restore 28 = .ok (.getfield 7, 3) := by decide +kernel
theorem dX7_restore_31 : decode cX7_restore 31 = .ok (.iconst 0, 1) := by decide +kernel
theorem dX7_restore_32 : decode cX7_restore 32 = .ok (.iaload, 1) := by decide +kernel
theorem dX7_restore_33 : decode cX7_restore 33 = .ok (.ireturn, 1) := by decide +kernel
