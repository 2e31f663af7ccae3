set_option maxRecDepth 20000 in
theorem ggX5_init_X2_init : GoodIn wsX5_init wsX2_init := goodIn_r _ [26, 27, 2, 3, 28, 9, 10, 29, 30, 31, 32, 33, 34, 35, 36, 37, 38, 39, 40, 41, 22, 23, 24, 42, 43, 68, 49, 50, 51, 52, 53, 54, 55, 56] rfl (by decide +kernel)
set_option maxRecDepth 20000 in
theorem gX5_init_X2_init_n11 : GoodIn wsX5_init (wsX2_init) := ggX5_init_X2_init
set_option maxRecDepth 20000 in
theorem ggX5_init_X4_init : GoodIn wsX5_init wsX4_init := goodIn_r _ [39, 40, 2, 3, 41, 22, 23, 24, 42, 43, 68] rfl (by decide +kernel)
set_option maxRecDepth 20000 in
theorem gX5_init_X4_init : GoodIn wsX5_init (wsX4_init) := ggX5_init_X4_init
set_option maxRecDepth 20000 in
theorem ggX5_init_X4_put : GoodIn wsX5_init wsX4_put := goodIn_r _ [48, 43, 68] rfl (by decide +kernel)
set_option maxRecDepth 20000 in
theorem gX5_init_X4_put : GoodIn wsX5_init (wsV RX5 61 RX4 yX4_put wsX4_put) := goodIn_app (goodIn_of _ (by decide +kernel)) ggX5_init_X4_put
theorem dX5_init_0 : decode cX5_init 0 = .ok (.aload_n 0, 1) := by decide +kernel
theorem dX5_init_1 : decode cX5_init 1 = .ok (.invokespecial 3, 3) := by decide +kernel
theorem dX5_init_4 : decode cX5_init 4 = .ok (.aload_n 0, 1) := by decide +kernel
theorem dX5_init_5 : decode cX5_init 5 = .ok (.new 9, 3) := by decide +kernel
theorem dX5_init_8 : decode cX5_init 8 = .ok (.dup, 1) := by decide +kernel
theorem dX5_init_9 : decode cX5_init 9 = .ok (.invokespecial 11, 3) := by decide +kernel
theorem dX5_init_12 : decode cX5_init 12 = .ok (.putfield 12, 3) := by decide +kernel
theorem dX5_init_15 : decode cX5_init 15 = .ok (.aload_n 0, 1) := by decide +kernel
theorem dX5_init_16 : decode cX5_init 16 = .ok (.new 18, 3) := by decide +kernel
theorem dX5_init_19 : decode cX5_init 19 = .ok (.dup, 1) := by decide +kernel
theorem dX5_init_20 : decode cX5_init 20 = .ok (.bipush 7, 2) := by decide +kernel
theorem dX5_init_22 : decode cX5_init 22 = .ok (.invokespecial 20, 3) := by decide +kernel
theorem dX5_init_25 : decode cX5_init 25 = .ok (.putfield 23, 3) := by decide +kernel
theorem dX5_init_28 : decode cX5_init 28 = .ok (.aload_n 0, 1) := by decide +kernel
theorem dX5_init_29 : decode cX5_init 29 = .ok (.new 18, 3) := by decide +kernel
theorem dX5_init_32 : decode cX5_init 32 = .ok (.dup, 1) := by decide +kernel
theorem dX5_init_33 : decode cX5_init 33 = .ok (.bipush 7, 2) := by decide +kernel
theorem dX5_init_35 : decode cX5_init 35 = .ok (.invokespecial 20, 3) := by decide +kernel
theorem dX5_init_38 : decode cX5_init 38 = .ok (.putfield 27, 3) := by decide +kernel
theorem dX5_init_41 : decode cX5_init 41 = .ok (.aload_n 0, 1) := by decide +kernel
theorem dX5_init_42 : decode cX5_init 42 = .ok (.new 18, 3) := by decide +kernel
theorem dX5_init_45 : decode cX5_init 45 = .ok (.dup, 1) := by decide +kernel
theorem dX5_init_46 : decode cX5_init 46 = .ok (.bipush 7, 2) := by decide +kernel
theorem dX5_init_48 : decode cX5_init 48 = .ok (.invokespecial 20, 3) := by decide +kernel
theorem dX5_init_51 : decode cX5_init 51 = .ok (.putfield 30, 3) := by decide +kernel
theorem dX5_init_54 : decode cX5_init 54 = .ok (.aload_n 0, 1) := by decide +kernel
theorem dX5_init_55 : decode cX5_init 55 = .ok (.iconst 3, 1) := by decide +kernel
theorem dX5_init_56 : decode cX5_init 56 = .ok (.putfield 33, 3) := by decide +kernel
theorem dX5_init_59 : decode cX5_init 59 = .ok (.aload_n 0, 1) := by decide +kernel
theorem dX5_init_60 : decode cX5_init 60 = .ok (.bipush 20, 2) := by decide +kernel
theorem dX5_init_62 : decode cX5_init 62 = .ok (.putfield 37, 3) := by decide +kernel
theorem dX5_init_65 : decode cX5_init 65 = .ok (.aload_n 0, 1) := by decide +kernel
theorem dX5_init_66 : decode cX5_init 66 = .ok (.iconst 0, 1) := by decide +kernel
theorem dX5_init_67 : decode cX5_init 67 = .ok (.putfield 40, 3) := by decide +kernel
theorem dX5_init_70 : decode cX5_init 70 = .ok (.aload_n 0, 1) := by decide +kernel
theorem dX5_init_71 : decode cX5_init 71 = .ok (.iconst 0, 1) := by decide +kernel
theorem dX5_init_72 : decode cX5_init 72 = .ok (.putfield 43, 3) := by decide +kernel
theorem dX5_init_75 : decode cX5_init 75 = .ok (.aload_n 0, 1) := by decide +kernel
theorem dX5_init_76 : decode cX5_init 76 = .ok (.iconst 0, 1) := by decide +kernel
theorem dX5_init_77 : decode cX5_init 77 = .ok (.putfield 46, 3) := by decide +kernel
theorem dX5_init_80 : decode cX5_init 80 = .ok (.aload_n 0, 1) := by decide +kernel
theorem dX5_init_81 : decode cX5_init 81 = .ok (.iconst 0, 1) := by decide +kernel
theorem dX5_init_82 : decode cX5_init 82 = .ok (.putfield 49, 3) := by decide +kernel
theorem dX5_init_85 : decode cX5_init 85 = .ok (.aload_n 0, 1) := by decide +kernel
theorem dX5_init_86 : decode cX5_init 86 = .ok (.iconst 0, 1) := by decide +kernel
theorem dX5_init_87 : decode cX5_init 87 = .ok (.putfield 52, 3) := by decide +kernel
theorem dX5_init_90 : decode cX5_init 90 = .ok (.iconst 0, 1) := by decide +kernel
theorem dX5_init_91 : decode cX5_init 91 = .ok (.istore_n 1, 1) := by decide +kernel
theorem dX5_init_92 : decode cX5_init 92 = .ok (.iload_n 1, 1) := by decide +kernel
theorem dX5_init_93 : decode cX5_init 93 = .ok (.bipush 7, 2) := by decide +kernel
theorem dX5_init_95 : decode cX5_init 95 = .ok (.if_icmp .ge 27, 3) := by decide +kernel
theorem dX5_init_98 : decode cX5_init 98 = .ok (.aload_n 0, 1) := by decide +kernel
theorem dX5_init_99 : decode cX5_init 99 = .ok (.getfield 23, 3) := by decide +kernel
theorem dX5_init_102 : decode cX5_init 102 = .ok (.iload_n 1, 1) := by decide +kernel
theorem dX5_init_103 : decode cX5_init 103 = .ok (.iload_n 1, 1) := by decide +kernel
theorem dX5_init_104 : decode cX5_init 104 = .ok (.bipush 6, 2) := by decide +kernel
theorem dX5_init_106 : decode cX5_init 106 = .ok (.iload_n 1, 1) := by decide +kernel
theorem dX5_init_107 : decode cX5_init 107 = .ok (.isub, 1) := by decide +kernel
theorem dX5_init_108 : decode cX5_init 108 = .ok (.invokestatic 55, 3) := by decide +kernel
theorem dX5_init_111 : decode cX5_init 111 = .ok (.iconst 2, 1) := by decide +kernel
theorem dX5_init_112 : decode cX5_init 112 = .ok (.isub, 1) := by decide +kernel
theorem dX5_init_113 : decode cX5_init 113 = .ok (.invokevirtual 61, 3) := by decide +kernel
theorem dX5_init_116 : decode cX5_init 116 = .ok (.iinc 1 1, 3) := by decide +kernel
theorem dX5_init_119 : decode cX5_init 119 = .ok (.goto (-27), 3) := by decide +kernel
theorem dX5_init_122 : decode cX5_init 122 = .ok (.return_, 1) := by decide +kernel
set_option maxRecDepth 20000 in
theorem ggX5_copyFrom_X2_copyFrom : GoodIn wsX5_copyFrom wsX2_copyFrom := goodIn_r _ [16, 17, 18, 19, 20, 21, 22, 23, 24, 25, 26, 27, 28, 29, 30, 31, 32, 33, 34, 35, 36, 37, 38, 51, 52, 53, 54, 55, 56, 57, 58, 59] rfl (by decide +kernel)
set_option maxRecDepth 20000 in
theorem gX5_copyFrom_X2_copyFrom : GoodIn wsX5_copyFrom (wsV RX5 65 RX2 yX2_copyFrom wsX2_copyFrom) := goodIn_app (goodIn_of _ (by decide +kernel)) ggX5_copyFrom_X2_copyFrom
set_option maxRecDepth 20000 in
theorem ggX5_copyFrom_X4_copyFrom : GoodIn wsX5_copyFrom wsX4_copyFrom := goodIn_r _ [29, 30, 31, 32, 33, 34, 35, 36, 37, 38, 59] rfl (by decide +kernel)
set_option maxRecDepth 20000 in
theorem gX5_copyFrom_X4_copyFrom : GoodIn wsX5_copyFrom (wsV RX5 69 RX4 yX4_copyFrom wsX4_copyFrom) := goodIn_app (goodIn_of _ (by decide +kernel)) ggX5_copyFrom_X4_copyFrom
theorem dX5_copyFrom_0 : decode cX5_copyFrom 0 = .ok (.aload_n 0, 1) := by decide +kernel
theorem dX5_copyFrom_1 : decode cX5_copyFrom 1 = .ok (.getfield 12, 3) := by decide +kernel
theorem dX5_copyFrom_4 : decode cX5_copyFrom 4 = .ok (.aload_n 1, 1) := by decide +kernel
theorem dX5_copyFrom_5 : decode cX5_copyFrom 5 = .ok (.getfield 12, 3) := by decide +kernel
theorem dX5_copyFrom_8 : decode cX5_copyFrom 8 = .ok (.invokevirtual 65, 3) := by decide +kernel
theorem dX5_copyFrom_11 : decode cX5_copyFrom 11 = .ok (.aload_n 0, 1) := by decide +kernel
theorem dX5_copyFrom_12 : decode cX5_copyFrom 12 = .ok (.getfield 23, 3) := by decide +kernel
theorem dX5_copyFrom_15 : decode cX5_copyFrom 15 = .ok (.aload_n 1, 1) := by decide +kernel
theorem dX5_copyFrom_16 : decode cX5_copyFrom 16 = .ok (.getfield 23, 3) := by decide +kernel
theorem dX5_copyFrom_19 : decode cX5_copyFrom 19 = .ok (.invokevirtual 69, 3) := by decide +kernel
theorem dX5_copyFrom_22 : decode cX5_copyFrom 22 = .ok (.aload_n 0, 1) := by decide +kernel
theorem dX5_copyFrom_23 : decode cX5_copyFrom 23 = .ok (.getfield 27, 3) := by decide +kernel
theorem dX5_copyFrom_26 : decode cX5_copyFrom 26 = .ok (.aload_n 1, 1) := by decide +kernel
theorem dX5_copyFrom_27 : decode cX5_copyFrom 27 = .ok (.getfield 27, 3) := by decide +kernel
theorem dX5_copyFrom_30 : decode cX5_copyFrom 30 = .ok (.invokevirtual 69, 3) := by decide +kernel
theorem dX5_copyFrom_33 : decode cX5_copyFrom 33 = .ok (.aload_n 0, 1) := by decide +kernel
theorem dX5_copyFrom_34 : decode cX5_copyFrom 34 = .ok (.getfield 30, 3) := by decide +kernel
theorem dX5_copyFrom_37 : decode cX5_copyFrom 37 = .ok (.aload_n 1, 1) := by decide +kernel
theorem dX5_copyFrom_38 : decode cX5_copyFrom 38 = .ok (.getfield 30, 3) := by decide +kernel
theorem dX5_copyFrom_41 : decode cX5_copyFrom 41 = .ok (.invokevirtual 69, 3) := by decide +kernel
theorem dX5_copyFrom_44 : decode cX5_copyFrom 44 = .ok (.aload_n 0, 1) := by decide +kernel
theorem dX5_copyFrom_45 : decode cX5_copyFrom 45 = .ok (.aload_n 1, 1) := by decide +kernel
theorem dX5_copyFrom_46 : decode cX5_copyFrom 46 = .ok (.getfield 33, 3) := by decide +kernel
theorem dX5_copyFrom_49 : decode cX5_copyFrom 49 = .ok (.putfield 33, 3) := by decide +kernel
theorem dX5_copyFrom_52 : decode cX5_copyFrom 52 = .ok (.aload_n 0, 1) := by decide +kernel
theorem dX5_copyFrom_53 : decode cX5_copyFrom 53 = .ok (.aload_n 1, 1) := by decide +kernel
theorem dX5_copyFrom_54 : decode cX5_copyFrom 54 = .ok (.getfield 37, 3) := by decide +kernel
theorem dX5_copyFrom_57 : decode cX5_copyFrom 57 = .ok (.putfield 37, 3) := by decide +kernel
theorem dX5_copyFrom_60 : decode cX5_copyFrom 60 = .ok (.aload_n 0, 1) := by decide +kernel
theorem dX5_copyFrom_61 : decode cX5_copyFrom 61 = .ok (.aload_n 1, 1) := by decide +kernel
theorem dX5_copyFrom_62 : decode cX5_copyFrom 62 = .ok (.getfield 40, 3) := by decide +kernel
theorem dX5_copyFrom_65 : decode cX5_copyFrom 65 = .ok (.putfield 40, 3) := by decide +kernel
theorem dX5_copyFrom_68 : decode cX5_copyFrom 68 = .ok (.aload_n 0, 1) := by decide +kernel
theorem dX5_copyFrom_69 : decode cX5_copyFrom 69 = .ok (.aload_n 1, 1) := by decide +kernel
theorem dX5_copyFrom_70 : decode cX5_copyFrom 70 = .ok (.getfield 43, 3) := by decide +kernel
theorem dX5_copyFrom_73 : decode cX5_copyFrom 73 = .ok (.putfield 43, 3) := by decide +kernel
theorem dX5_copyFrom_76 : decode cX5_copyFrom 76 = .ok (.aload_n 0, 1) := by decide +kernel
theorem dX5_copyFrom_77 : decode cX5_copyFrom 77 = .ok (.aload_n 1, 1) := by decide +kernel
theorem dX5_copyFrom_78 : decode cX5_copyFrom 78 = .ok (.getfield 46, 3) := by decide +kernel
theorem dX5_copyFrom_81 : decode cX5_copyFrom 81 = .ok (.putfield 46, 3) := by decide +kernel
theorem dX5_copyFrom_84 : decode cX5_copyFrom 84 = .ok (.aload_n 0, 1) := by decide +kernel
theorem dX5_copyFrom_85 : decode cX5_copyFrom 85 = .ok (.aload_n 1, 1) := by decide +kernel
theorem dX5_copyFrom_86 : decode cX5_copyFrom 86 = .ok (.getfield 49, 3) := by decide +kernel
theorem dX5_copyFrom_89 : decode cX5_copyFrom 89 = .ok (.putfield 49, 3) := by decide +kernel
theorem dX5_copyFrom_92 : decode cX5_copyFrom 92 = .ok (.aload_n 0, 1) := by decide +kernel
theorem dX5_copyFrom_93 : decode cX5_copyFrom 93 = .ok (.aload_n 1, 1) := by decide +kernel
theorem dX5_copyFrom_94 : decode cX5_copyFrom 94 = .ok (.getfield 52, 3) := by decide +kernel
theorem dX5_copyFrom_97 : decode cX5_copyFrom 97 = .ok (.putfield 52, 3) := by decide +kernel
theorem dX5_copyFrom_100 : decode cX5_copyFrom 100 = .ok (.return_, 1) := by decide +kernel
set_option maxRecDepth 20000 in
theorem ggX5_isFull_X4_at : GoodIn wsX5_isFull wsX4_at := goodIn_r _ [7, 8, 20] rfl (by decide +kernel)
set_option maxRecDepth 20000 in
theorem gX5_isFull_X4_at : GoodIn wsX5_isFull (wsV RX5 72 RX4 yX4_at wsX4_at) := goodIn_app (goodIn_of _ (by decide +kernel)) ggX5_isFull_X4_at
theorem dX5_isFull_0 : decode cX5_isFull 0 = .ok (.aload_n 0, 1) := by decide +kernel
theorem dX5_isFull_1 : decode cX5_isFull 1 = .ok (.getfield 27, 3) := by decide +kernel
theorem dX5_isFull_4 : decode cX5_isFull 4 = .ok (.iload_n 1, 1) := by decide +kernel
theorem dX5_isFull_5 : decode cX5_isFull 5 = .ok (.invokevirtual 72, 3) := by decide +kernel
theorem dX5_isFull_8 : decode cX5_isFull 8 = .ok (.aload_n 0, 1) := by decide +kernel
theorem dX5_isFull_9 : decode cX5_isFull 9 = .ok (.getfield 33, 3) := by decide +kernel
theorem dX5_isFull_12 : decode cX5_isFull 12 = .ok (.if_icmp .lt 7, 3) := by decide +kernel
theorem dX5_isFull_15 : decode cX5_isFull 15 = .ok (.iconst 1, 1) := by decide +kernel
theorem dX5_isFull_16 : decode cX5_isFull 16 = .ok (.goto 4, 3) := by decide +kernel
theorem dX5_isFull_19 : decode cX5_isFull 19 = .ok (.iconst 0, 1) := by decide +kernel
theorem dX5_isFull_20 : decode cX5_isFull 20 = .ok (.ireturn, 1) := by decide +kernel
set_option maxRecDepth 20000 in
theorem ggX5_fullPockets_X5_isFull : GoodIn wsX5_fullPockets wsX5_isFull := goodIn_r _ [5, 6, 7, 8, 9, 10, 11, 12, 13, 14, 15, 16, 17, 18, 19, 20, 21, 22, 23, 24, 25] rfl (by decide +kernel)
set_option maxRecDepth 20000 in
theorem gX5_fullPockets_X5_isFull : GoodIn wsX5_fullPockets (wsV RX5 76 RX5 yX5_isFull wsX5_isFull) := goodIn_app (goodIn_of _ (by decide +kernel)) ggX5_fullPockets_X5_isFull
theorem dX5_fullPockets_0 : decode cX5_fullPockets 0 = .ok (.iconst 0, 1) := by decide +kernel
theorem dX5_fullPockets_1 : decode cX5_fullPockets 1 = .ok (.istore_n 1, 1) := by decide +kernel
theorem dX5_fullPockets_2 : decode cX5_fullPockets 2 = .ok (.iconst 0, 1) := by decide +kernel
theorem dX5_fullPockets_3 : decode cX5_fullPockets 3 = .ok (.istore_n 2, 1) := by decide +kernel
theorem dX5_fullPockets_4 : decode cX5_fullPockets 4 = .ok (.iload_n 2, 1) := by decide +kernel
theorem dX5_fullPockets_5 : decode cX5_fullPockets 5 = .ok (.bipush 7, 2) := by decide +kernel
theorem dX5_fullPockets_7 : decode cX5_fullPockets 7 = .ok (.if_icmp .ge 20, 3) := by decide +kernel
theorem dX5_fullPockets_10 : decode cX5_fullPockets 10 = .ok (.aload_n 0, 1) := by decide +kernel
theorem dX5_fullPockets_11 : decode cX5_fullPockets 11 = .ok (.iload_n 2, 1) := by decide +kernel
theorem dX5_fullPockets_12 : decode cX5_fullPockets 12 = .ok (.invokevirtual 76, 3) := by decide +kernel
theorem dX5_fullPockets_15 : decode cX5_fullPockets 15 = .ok (.ifCond .eq 6, 3) := by decide +kernel
theorem dX5_fullPockets_18 : decode cX5_fullPockets 18 = .ok (.iinc 1 1, 3) := by decide +kernel
theorem dX5_fullPockets_21 : decode cX5_fullPockets 21 = .ok (.iinc 2 1, 3) := by decide +kernel
theorem dX5_fullPockets_24 : decode cX5_fullPockets 24 = .ok (.goto (-20), 3) := by decide +kernel
theorem dX5_fullPockets_27 : decode cX5_fullPockets 27 = .ok (.iload_n 1, 1) := by decide +kernel
theorem dX5_fullPockets_28 : decode cX5_fullPockets 28 = .ok (.ireturn, 1) := by decide +kernel
set_option maxRecDepth 20000 in
theorem ggX5_shootBall_X2_rollBall : GoodIn wsX5_shootBall wsX2_rollBall := goodIn_r _ [12, 13, 14, 15, 16, 17, 18, 11, 19, 20, 21, 22, 23, 24, 25, 26, 27, 28, 29, 30, 31, 32, 33, 34, 35, 36, 37, 38, 39, 40, 41, 42, 43, 44, 45, 46, 47, 48, 49, 50, 51, 52, 53, 54, 55, 56, 57, 58, 59, 60, 61, 62, 63, 64, 65, 66, 67, 68, 69, 70, 71, 72, 100, 101, 102, 103, 104, 105, 106, 107, 108] rfl (by decide +kernel)
set_option maxRecDepth 20000 in
theorem gX5_shootBall_X2_rollBall : GoodIn wsX5_shootBall (wsV RX5 83 RX2 yX2_rollBall wsX2_rollBall) := goodIn_app (goodIn_of _ (by decide +kernel)) ggX5_shootBall_X2_rollBall
set_option maxRecDepth 20000 in
theorem ggX5_shootBall_X5_takeBall : GoodIn wsX5_shootBall wsX5_takeBall := goodIn_r _ [77, 78, 79, 80, 81, 82, 47, 48, 29, 49, 31, 83, 84, 85, 76, 86, 87, 88, 27, 28, 30, 89, 90, 91, 92, 93, 94, 95, 96, 97, 98, 99, 108] rfl (by decide +kernel)
set_option maxRecDepth 20000 in
theorem gX5_shootBall_X5_takeBall : GoodIn wsX5_shootBall (wsV RX5 87 RX5 yX5_takeBall wsX5_takeBall) := goodIn_app (goodIn_of _ (by decide +kernel)) ggX5_shootBall_X5_takeBall
theorem dX5_shootBall_0 : decode cX5_shootBall 0 = .ok (.aload_n 0, 1) := by decide +kernel
theorem dX5_shootBall_1 : decode cX5_shootBall 1 = .ok (.getfield 37, 3) := by decide +kernel
theorem dX5_shootBall_4 : decode cX5_shootBall 4 = .ok (.ifCond .gt 15, 3) := by decide +kernel
theorem dX5_shootBall_7 : decode cX5_shootBall 7 = .ok (.aload_n 0, 1) := by decide +kernel
theorem dX5_shootBall_8 : decode cX5_shootBall 8 = .ok (.dup, 1) := by decide +kernel
theorem dX5_shootBall_9 : decode cX5_shootBall 9 = .ok (.getfield 52, 3) := by decide +kernel
theorem dX5_shootBall_12 : decode cX5_shootBall 12 = .ok (.iconst 1, 1) := by decide +kernel
theorem dX5_shootBall_13 : decode cX5_shootBall 13 = .ok (.iadd, 1) := by decide +kernel
theorem dX5_shootBall_14 : decode cX5_shootBall 14 = .ok (.putfield 52, 3) := by decide +kernel
theorem dX5_shootBall_17 : decode cX5_shootBall 17 = .ok (.iconst 1, 1) := by decide +kernel
theorem dX5_shootBall_18 : decode cX5_shootBall 18 = .ok (.ireturn, 1) := by decide +kernel
theorem dX5_shootBall_19 : decode cX5_shootBall 19 = .ok (.aload_n 0, 1) := by decide +kernel
theorem dX5_shootBall_20 : decode cX5_shootBall 20 = .ok (.dup, 1) := by decide +kernel
theorem dX5_shootBall_21 : decode cX5_shootBall 21 = .ok (.getfield 37, 3) := by decide +kernel
theorem dX5_shootBall_24 : decode cX5_shootBall 24 = .ok (.iconst 1, 1) := by decide +kernel
theorem dX5_shootBall_25 : decode cX5_shootBall 25 = .ok (.isub, 1) := by decide +kernel
theorem dX5_shootBall_26 : decode cX5_shootBall 26 = .ok (.putfield 37, 3) := by decide +kernel
theorem dX5_shootBall_29 : decode cX5_shootBall 29 = .ok (.aload_n 0, 1) := by decide +kernel
theorem dX5_shootBall_30 : decode cX5_shootBall 30 = .ok (.dup, 1) := by decide +kernel
theorem dX5_shootBall_31 : decode cX5_shootBall 31 = .ok (.getfield 46, 3) := by decide +kernel
theorem dX5_shootBall_34 : decode cX5_shootBall 34 = .ok (.iconst 1, 1) := by decide +kernel
theorem dX5_shootBall_35 : decode cX5_shootBall 35 = .ok (.iadd, 1) := by decide +kernel
theorem dX5_shootBall_36 : decode cX5_shootBall 36 = .ok (.putfield 46, 3) := by decide +kernel
theorem dX5_shootBall_39 : decode cX5_shootBall 39 = .ok (.iload_n 2, 1) := by decide +kernel
theorem dX5_shootBall_40 : decode cX5_shootBall 40 = .ok (.ifCond .eq 13, 3) := by decide +kernel
theorem dX5_shootBall_43 : decode cX5_shootBall 43 = .ok (.aload_n 0, 1) := by decide +kernel
theorem dX5_shootBall_44 : decode cX5_shootBall 44 = .ok (.dup, 1) := by decide +kernel
theorem dX5_shootBall_45 : decode cX5_shootBall 45 = .ok (.getfield 49, 3) := by decide +kernel
theorem dX5_shootBall_48 : decode cX5_shootBall 48 = .ok (.iconst 1, 1) := by decide +kernel
theorem dX5_shootBall_49 : decode cX5_shootBall 49 = .ok (.iadd, 1) := by decide +kernel
theorem dX5_shootBall_50 : decode cX5_shootBall 50 = .ok (.putfield 49, 3) := by decide +kernel
theorem dX5_shootBall_53 : decode cX5_shootBall 53 = .ok (.aload_n 0, 1) := by decide +kernel
theorem dX5_shootBall_54 : decode cX5_shootBall 54 = .ok (.getfield 12, 3) := by decide +kernel
theorem dX5_shootBall_57 : decode cX5_shootBall 57 = .ok (.getfield 80, 3) := by decide +kernel
theorem dX5_shootBall_60 : decode cX5_shootBall 60 = .ok (.istore_n 3, 1) := by decide +kernel
theorem dX5_shootBall_61 : decode cX5_shootBall 61 = .ok (.aload_n 0, 1) := by decide +kernel
theorem dX5_shootBall_62 : decode cX5_shootBall 62 = .ok (.getfield 12, 3) := by decide +kernel
theorem dX5_shootBall_65 : decode cX5_shootBall 65 = .ok (.iload_n 1, 1) := by decide +kernel
theorem dX5_shootBall_66 : decode cX5_shootBall 66 = .ok (.iload_n 2, 1) := by decide +kernel
theorem dX5_shootBall_67 : decode cX5_shootBall 67 = .ok (.invokevirtual 83, 3) := by decide +kernel
theorem dX5_shootBall_70 : decode cX5_shootBall 70 = .ok (.istore 4, 2) := by decide +kernel
theorem dX5_shootBall_72 : decode cX5_shootBall 72 = .ok (.aload_n 0, 1) := by decide +kernel
theorem dX5_shootBall_73 : decode cX5_shootBall 73 = .ok (.getfield 12, 3) := by decide +kernel
theorem dX5_shootBall_76 : decode cX5_shootBall 76 = .ok (.getfield 80, 3) := by decide +kernel
theorem dX5_shootBall_79 : decode cX5_shootBall 79 = .ok (.iload_n 3, 1) := by decide +kernel
theorem dX5_shootBall_80 : decode cX5_shootBall 80 = .ok (.isub, 1) := by decide +kernel
theorem dX5_shootBall_81 : decode cX5_shootBall 81 = .ok (.aload_n 0, 1) := by decide +kernel
theorem dX5_shootBall_82 : decode cX5_shootBall 82 = .ok (.iload 4, 2) := by decide +kernel
theorem dX5_shootBall_84 : decode cX5_shootBall 84 = .ok (.invokevirtual 87, 3) := by decide +kernel
theorem dX5_shootBall_87 : decode cX5_shootBall 87 = .ok (.iadd, 1) := by decide +kernel
theorem dX5_shootBall_88 : decode cX5_shootBall 88 = .ok (.istore 5, 2) := by decide +kernel
theorem dX5_shootBall_90 : decode cX5_shootBall 90 = .ok (.aload_n 0, 1) := by decide +kernel
theorem dX5_shootBall_91 : decode cX5_shootBall 91 = .ok (.dup, 1) := by decide +kernel
theorem dX5_shootBall_92 : decode cX5_shootBall 92 = .ok (.getfield 43, 3) := by decide +kernel
theorem dX5_shootBall_95 : decode cX5_shootBall 95 = .ok (.iload 5, 2) := by decide +kernel
theorem dX5_shootBall_97 : decode cX5_shootBall 97 = .ok (.iadd, 1) := by decide +kernel
theorem dX5_shootBall_98 : decode cX5_shootBall 98 = .ok (.putfield 43, 3) := by decide +kernel
theorem dX5_shootBall_101 : decode cX5_shootBall 101 = .ok (.bipush 10, 2) := by decide +kernel
theorem dX5_shootBall_103 : decode cX5_shootBall 103 = .ok (.iload 5, 2) := by decide +kernel
theorem dX5_shootBall_105 : decode cX5_shootBall 105 = .ok (.iadd, 1) := by decide +kernel
theorem dX5_shootBall_106 : decode cX5_shootBall 106 = .ok (.ireturn, 1) := by decide +kernel
set_option maxRecDepth 20000 in
theorem ggX5_takeBall_X4_raise : GoodIn wsX5_takeBall wsX4_raise := goodIn_r _ [9, 10, 32] rfl (by decide +kernel)
set_option maxRecDepth 20000 in
theorem gX5_takeBall_X4_raise : GoodIn wsX5_takeBall (wsV RX5 90 RX4 yX4_raise wsX4_raise) := goodIn_app (goodIn_of _ (by decide +kernel)) ggX5_takeBall_X4_raise
set_option maxRecDepth 20000 in
theorem ggX5_takeBall_X5_isFull : GoodIn wsX5_takeBall wsX5_isFull := goodIn_r _ [15, 3, 16, 17, 18, 19, 8, 20, 10, 21, 22, 23, 24, 25, 26, 27, 28, 29, 30, 31, 32] rfl (by decide +kernel)
set_option maxRecDepth 20000 in
theorem gX5_takeBall_X5_isFull : GoodIn wsX5_takeBall (wsV RX5 76 RX5 yX5_isFull wsX5_isFull) := goodIn_app (goodIn_of _ (by decide +kernel)) ggX5_takeBall_X5_isFull
set_option maxRecDepth 20000 in
theorem ggX5_takeBall_X4_at : GoodIn wsX5_takeBall wsX4_at := goodIn_r _ [20, 10, 32] rfl (by decide +kernel)
set_option maxRecDepth 20000 in
theorem gX5_takeBall_X4_at : GoodIn wsX5_takeBall (wsV RX5 72 RX4 yX4_at wsX4_at) := goodIn_app (goodIn_of _ (by decide +kernel)) ggX5_takeBall_X4_at
theorem dX5_takeBall_0 : decode cX5_takeBall 0 = .ok (.aload_n 0, 1) := by decide +kernel
theorem dX5_takeBall_1 : decode cX5_takeBall 1 = .ok (.getfield 30, 3) := by decide +kernel
theorem dX5_takeBall_4 : decode cX5_takeBall 4 = .ok (.iload_n 1, 1) := by decide +kernel
theorem dX5_takeBall_5 : decode cX5_takeBall 5 = .ok (.iconst 1, 1) := by decide +kernel
theorem dX5_takeBall_6 : decode cX5_takeBall 6 = .ok (.invokevirtual 90, 3) := by decide +kernel
theorem dX5_takeBall_9 : decode cX5_takeBall 9 = .ok (.aload_n 0, 1) := by decide +kernel
theorem dX5_takeBall_10 : decode cX5_takeBall 10 = .ok (.iload_n 1, 1) := by decide +kernel
theorem dX5_takeBall_11 : decode cX5_takeBall 11 = .ok (.invokevirtual 76, 3) := by decide +kernel
theorem dX5_takeBall_14 : decode cX5_takeBall 14 = .ok (.ifCond .eq 15, 3) := by decide +kernel
theorem dX5_takeBall_17 : decode cX5_takeBall 17 = .ok (.aload_n 0, 1) := by decide +kernel
theorem dX5_takeBall_18 : decode cX5_takeBall 18 = .ok (.dup, 1) := by decide +kernel
theorem dX5_takeBall_19 : decode cX5_takeBall 19 = .ok (.getfield 40, 3) := by decide +kernel
theorem dX5_takeBall_22 : decode cX5_takeBall 22 = .ok (.iconst 1, 1) := by decide +kernel
theorem dX5_takeBall_23 : decode cX5_takeBall 23 = .ok (.iadd, 1) := by decide +kernel
theorem dX5_takeBall_24 : decode cX5_takeBall 24 = .ok (.putfield 40, 3) := by decide +kernel
theorem dX5_takeBall_27 : decode cX5_takeBall 27 = .ok (.iconst 0, 1) := by decide +kernel
theorem dX5_takeBall_28 : decode cX5_takeBall 28 = .ok (.ireturn, 1) := by decide +kernel
theorem dX5_takeBall_29 : decode cX5_takeBall 29 = .ok (.aload_n 0, 1) := by decide +kernel
theorem dX5_takeBall_30 : decode cX5_takeBall 30 = .ok (.getfield 27, 3) := by decide +kernel
theorem dX5_takeBall_33 : decode cX5_takeBall 33 = .ok (.iload_n 1, 1) := by decide +kernel
theorem dX5_takeBall_34 : decode cX5_takeBall 34 = .ok (.iconst 1, 1) := by decide +kernel
theorem dX5_takeBall_35 : decode cX5_takeBall 35 = .ok (.invokevirtual 90, 3) := by decide +kernel
theorem dX5_takeBall_38 : decode cX5_takeBall 38 = .ok (.aload_n 0, 1) := by decide +kernel
theorem dX5_takeBall_39 : decode cX5_takeBall 39 = .ok (.getfield 23, 3) := by decide +kernel
theorem dX5_takeBall_42 : decode cX5_takeBall 42 = .ok (.iload_n 1, 1) := by decide +kernel
theorem dX5_takeBall_43 : decode cX5_takeBall 43 = .ok (.invokevirtual 72, 3) := by decide +kernel
theorem dX5_takeBall_46 : decode cX5_takeBall 46 = .ok (.ireturn, 1) := by decide +kernel
set_option maxRecDepth 20000 in
theorem ggX5_bendByHand_X2_isOut : GoodIn wsX5_bendByHand wsX2_isOut := goodIn_r _ [8, 9, 10, 11, 12, 13, 14, 15, 44, 45, 46, 47, 48, 49, 50, 51, 52] rfl (by decide +kernel)
set_option maxRecDepth 20000 in
theorem gX5_bendByHand_X2_isOut : GoodIn wsX5_bendByHand (wsV RX5 93 RX2 yX2_isOut wsX2_isOut) := goodIn_app (goodIn_of _ (by decide +kernel)) ggX5_bendByHand_X2_isOut
set_option maxRecDepth 20000 in
theorem ggX5_bendByHand_X2_canBend : GoodIn wsX5_bendByHand wsX2_canBend := goodIn_r _ [19, 20, 10, 11, 12, 13, 14, 15, 21, 22, 23, 44, 45, 46, 47, 48, 49, 50, 51, 52] rfl (by decide +kernel)
set_option maxRecDepth 20000 in
theorem gX5_bendByHand_X2_canBend : GoodIn wsX5_bendByHand (wsV RX5 96 RX2 yX2_canBend wsX2_canBend) := goodIn_app (goodIn_of _ (by decide +kernel)) ggX5_bendByHand_X2_canBend
set_option maxRecDepth 20000 in
theorem ggX5_bendByHand_X2_bendBy : GoodIn wsX5_bendByHand wsX2_bendBy := goodIn_r _ [27, 20, 28, 29, 30, 13, 31, 15, 44, 45, 46, 47, 48, 49, 50, 51, 52] rfl (by decide +kernel)
set_option maxRecDepth 20000 in
theorem gX5_bendByHand_X2_bendBy : GoodIn wsX5_bendByHand (wsV RX5 100 RX2 yX2_bendBy wsX2_bendBy) := goodIn_app (goodIn_of _ (by decide +kernel)) ggX5_bendByHand_X2_bendBy
set_option maxRecDepth 20000 in
theorem ggX5_bendByHand_X4_at : GoodIn wsX5_bendByHand wsX4_at := goodIn_r _ [14, 15, 52] rfl (by decide +kernel)
set_option maxRecDepth 20000 in
theorem gX5_bendByHand_X4_at : GoodIn wsX5_bendByHand (wsV RX5 72 RX4 yX4_at wsX4_at) := goodIn_app (goodIn_of _ (by decide +kernel)) ggX5_bendByHand_X4_at
theorem dX5_bendByHand_0 : decode cX5_bendByHand 0 = .ok (.aload_n 0, 1) := by decide +kernel
theorem dX5_bendByHand_1 : decode cX5_bendByHand 1 = .ok (.getfield 12, 3) := by decide +kernel
theorem dX5_bendByHand_4 : decode cX5_bendByHand 4 = .ok (.iload_n 1, 1) := by decide +kernel
theorem dX5_bendByHand_5 : decode cX5_bendByHand 5 = .ok (.invokevirtual 93, 3) := by decide +kernel
theorem dX5_bendByHand_8 : decode cX5_bendByHand 8 = .ok (.ifCond .eq 15, 3) := by decide +kernel
theorem dX5_bendByHand_11 : decode cX5_bendByHand 11 = .ok (.aload_n 0, 1) := by decide +kernel
theorem dX5_bendByHand_12 : decode cX5_bendByHand 12 = .ok (.dup, 1) := by decide +kernel
theorem dX5_bendByHand_13 : decode cX5_bendByHand 13 = .ok (.getfield 52, 3) := by decide +kernel
theorem dX5_bendByHand_16 : decode cX5_bendByHand 16 = .ok (.iconst 1, 1) := by decide +kernel
theorem dX5_bendByHand_17 : decode cX5_bendByHand 17 = .ok (.iadd, 1) := by decide +kernel
theorem dX5_bendByHand_18 : decode cX5_bendByHand 18 = .ok (.putfield 52, 3) := by decide +kernel
theorem dX5_bendByHand_21 : decode cX5_bendByHand 21 = .ok (.iconst 2, 1) := by decide +kernel
theorem dX5_bendByHand_22 : decode cX5_bendByHand 22 = .ok (.ireturn, 1) := by decide +kernel
theorem dX5_bendByHand_23 : decode cX5_bendByHand 23 = .ok (.aload_n 0, 1) := by decide +kernel
theorem dX5_bendByHand_24 : decode cX5_bendByHand 24 = .ok (.getfield 12, 3) := by decide +kernel
theorem dX5_bendByHand_27 : decode cX5_bendByHand 27 = .ok (.iload_n 1, 1) := by decide +kernel
theorem dX5_bendByHand_28 : decode cX5_bendByHand 28 = .ok (.iload_n 2, 1) := by decide +kernel
theorem dX5_bendByHand_29 : decode cX5_bendByHand 29 = .ok (.invokevirtual 96, 3) := by decide +kernel
theorem dX5_bendByHand_32 : decode cX5_bendByHand 32 = .ok (.ifCond .ne 15, 3) := by decide +kernel
theorem dX5_bendByHand_35 : decode cX5_bendByHand 35 = .ok (.aload_n 0, 1) := by decide +kernel
theorem dX5_bendByHand_36 : decode cX5_bendByHand 36 = .ok (.dup, 1) := by decide +kernel
theorem dX5_bendByHand_37 : decode cX5_bendByHand 37 = .ok (.getfield 52, 3) := by decide +kernel
theorem dX5_bendByHand_40 : decode cX5_bendByHand 40 = .ok (.iconst 1, 1) := by decide +kernel
theorem dX5_bendByHand_41 : decode cX5_bendByHand 41 = .ok (.iadd, 1) := by decide +kernel
theorem dX5_bendByHand_42 : decode cX5_bendByHand 42 = .ok (.putfield 52, 3) := by decide +kernel
theorem dX5_bendByHand_45 : decode cX5_bendByHand 45 = .ok (.iconst 3, 1) := by decide +kernel
theorem dX5_bendByHand_46 : decode cX5_bendByHand 46 = .ok (.ireturn, 1) := by decide +kernel
theorem dX5_bendByHand_47 : decode cX5_bendByHand 47 = .ok (.aload_n 0, 1) := by decide +kernel
theorem dX5_bendByHand_48 : decode cX5_bendByHand 48 = .ok (.getfield 12, 3) := by decide +kernel
theorem dX5_bendByHand_51 : decode cX5_bendByHand 51 = .ok (.iload_n 1, 1) := by decide +kernel
theorem dX5_bendByHand_52 : decode cX5_bendByHand 52 = .ok (.iload_n 2, 1) := by decide +kernel
theorem dX5_bendByHand_53 : decode cX5_bendByHand 53 = .ok (.invokevirtual 100, 3) := by decide +kernel
theorem dX5_bendByHand_56 : decode cX5_bendByHand 56 = .ok (.bipush 10, 2) := by decide +kernel
theorem dX5_bendByHand_58 : decode cX5_bendByHand 58 = .ok (.aload_n 0, 1) := by decide +kernel
theorem dX5_bendByHand_59 : decode cX5_bendByHand 59 = .ok (.getfield 12, 3) := by decide +kernel
theorem dX5_bendByHand_62 : decode cX5_bendByHand 62 = .ok (.getfield 103, 3) := by decide +kernel
theorem dX5_bendByHand_65 : decode cX5_bendByHand 65 = .ok (.iload_n 1, 1) := by decide +kernel
theorem dX5_bendByHand_66 : decode cX5_bendByHand 66 = .ok (.invokevirtual 72, 3) := by decide +kernel
theorem dX5_bendByHand_69 : decode cX5_bendByHand 69 = .ok (.iadd, 1) := by decide +kernel
theorem dX5_bendByHand_70 : decode cX5_bendByHand 70 = .ok (.iconst 3, 1) := by decide +kernel
theorem dX5_bendByHand_71 : decode cX5_bendByHand 71 = .ok (.iadd, 1) := by decide +kernel
theorem dX5_bendByHand_72 : decode cX5_bendByHand 72 = .ok (.ireturn, 1) := by decide +kernel
set_option maxRecDepth 20000 in
theorem ggX5_emptyPockets_X4_total : GoodIn wsX5_emptyPockets wsX4_total := goodIn_r _ [8, 9, 29] rfl (by decide +kernel)
set_option maxRecDepth 20000 in
theorem gX5_emptyPockets_X4_total : GoodIn wsX5_emptyPockets (wsV RX5 106 RX4 yX4_total wsX4_total) := goodIn_app (goodIn_of _ (by decide +kernel)) ggX5_emptyPockets_X4_total
set_option maxRecDepth 20000 in
theorem ggX5_emptyPockets_X4_fillWith : GoodIn wsX5_emptyPockets wsX4_fillWith := goodIn_r _ [13, 9, 14, 15, 16, 17, 29] rfl (by decide +kernel)
set_option maxRecDepth 20000 in
theorem gX5_emptyPockets_X4_fillWith : GoodIn wsX5_emptyPockets (wsV RX5 110 RX4 yX4_fillWith wsX4_fillWith) := goodIn_app (goodIn_of _ (by decide +kernel)) ggX5_emptyPockets_X4_fillWith
theorem dX5_emptyPockets_0 : decode cX5_emptyPockets 0 = .ok (.aload_n 0, 1) := by decide +kernel
theorem dX5_emptyPockets_1 : decode cX5_emptyPockets 1 = .ok (.dup, 1) := by decide +kernel
theorem dX5_emptyPockets_2 : decode cX5_emptyPockets 2 = .ok (.getfield 37, 3) := by decide +kernel
theorem dX5_emptyPockets_5 : decode cX5_emptyPockets 5 = .ok (.aload_n 0, 1) := by decide +kernel
theorem dX5_emptyPockets_6 : decode cX5_emptyPockets 6 = .ok (.getfield 27, 3) := by decide +kernel
theorem dX5_emptyPockets_9 : decode cX5_emptyPockets 9 = .ok (.invokevirtual 106, 3) := by decide +kernel
theorem dX5_emptyPockets_12 : decode cX5_emptyPockets 12 = .ok (.aload_n 0, 1) := by decide +kernel
theorem dX5_emptyPockets_13 : decode cX5_emptyPockets 13 = .ok (.getfield 40, 3) := by decide +kernel
theorem dX5_emptyPockets_16 : decode cX5_emptyPockets 16 = .ok (.iadd, 1) := by decide +kernel
theorem dX5_emptyPockets_17 : decode cX5_emptyPockets 17 = .ok (.iadd, 1) := by decide +kernel
theorem dX5_emptyPockets_18 : decode cX5_emptyPockets 18 = .ok (.putfield 37, 3) := by decide +kernel
theorem dX5_emptyPockets_21 : decode cX5_emptyPockets 21 = .ok (.aload_n 0, 1) := by decide +kernel
theorem dX5_emptyPockets_22 : decode cX5_emptyPockets 22 = .ok (.getfield 27, 3) := by decide +kernel
theorem dX5_emptyPockets_25 : decode cX5_emptyPockets 25 = .ok (.iconst 0, 1) := by decide +kernel
theorem dX5_emptyPockets_26 : decode cX5_emptyPockets 26 = .ok (.invokevirtual 110, 3) := by decide +kernel
theorem dX5_emptyPockets_29 : decode cX5_emptyPockets 29 = .ok (.aload_n 0, 1) := by decide +kernel
theorem dX5_emptyPockets_30 : decode cX5_emptyPockets 30 = .ok (.iconst 0, 1) := by decide +kernel
theorem dX5_emptyPockets_31 : decode cX5_emptyPockets 31 = .ok (.putfield 40, 3) := by decide +kernel
theorem dX5_emptyPockets_34 : decode cX5_emptyPockets 34 = .ok (.return_, 1) := by decide +kernel
